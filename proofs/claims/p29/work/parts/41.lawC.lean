/-! ===== the law's cases: orders told and cancelled ===== -/
section
variable {hh : List (Nat × Nat × Nat × Nat)} {F : zF} {n : Nat} {S : zS} {v w i f : Int}
theorem zlw_oa {U : zS} {f n d m r : Int} : zlw (x_oa U f n d m r) U := zlw_s (zlw_c (zlw_c (zlw_c (zlw_c (zlw_c (zlw_c zlw.rf (by omega)) (by omega)) (by omega)) (by omega)) (by omega)) (by omega))
theorem x_rr_rng {S : zS} {c : Nat} {f n t m : Int} : 0 ≤ x_rr S c f n t m ∧ x_rr S c f n t m < 8 := by
  unfold x_rr
  repeat' split
  all_goals omega
theorem x_rr_0 {S : zS} {c : Nat} {f n t m : Int} (h : x_rr S c f n t m = 0) : ¬ S.2.1 13 n = -1 ∧ x_wf S n c = none := by
  unfold x_rr at h
  split at h
  · omega
  · next h1 =>
    refine ⟨h1, ?_⟩
    split at h
    · omega
    · split at h
      · split at h
        · next h4 =>
          cases e : x_wf S n c with
          | none => rfl
          | some k =>
            rw [e] at h4
            have : (k : Int) = -1 := h4
            omega
        · omega
      · omega
theorem lc_order (hI : zInv n S) (hg : S.1 2 < 46) (hn : n < 150) (hi : 0 ≤ i ∧ i < 12) (hf : 0 ≤ f ∧ f < 6) (hK : ∀ U, zInv (n + 1) U → z_G (mLw hh) F (500 * n + 60) 3002 [some (zR 49), some (zR 0), some (zR 7), some (zR 40), some (zR 41), some (zR 42), some (zR 43), some (zR 44), some (zR 48), some (zR 45), some (zR 46), some (zR 47), some (zI (n : Int)), some (zI v), some (zI w), none, none, none, some (zI 1), none, none, none, none, none, none, none, none, none, none, none, none, none, none, none, none, none, none, none, none, none, none, none, none, none, none, none, none, none, none, none] [] U) : z_G (mLw hh) F (500 * n + 10) 1530 [some (zR 49), some (zR 0), some (zR 7), some (zR 40), some (zR 41), some (zR 42), some (zR 43), some (zR 44), some (zR 48), some (zR 45), some (zR 46), some (zR 47), some (zI (n : Int)), some (zI v), some (zI w), some (zI i), some (zI (zdg i)), some (zI f), some (zI 1), none, none, none, none, none, none, none, none, none, none, none, none, none, none, none, none, none, none, none, none, none, none, none, none, none, none, none, none, none, none, none] [] S := by
  have h := hI.1
  have hb := hI.ab (by omega)
  have hO := h.yO'
  have hwd := h.word hb hf
  have hnow := h.now
  have hnr := h.nowr
  have hord := h.ord
  have hor := h.ordr
  have hfl := h.flag f hf.1 hf.2
  have hs := h.serv i hi.1 hi.2
  have hsc := h.secr i hi.1 hi.2
  have hsi := h.sile i hi.1 hi.2
  have hwt := h.wt hi
  obtain ⟨c, ec⟩ : ∃ c, c = (S.1 1).toNat := ⟨_, rfl⟩
  rw [← ec] at hO hwt
  by_cases c50 : S.2.1 47 1 = 50
  · skip
    refine g_aload (q := 1532) dL_law_1530 rfl rfl ?_
    refine g_iconst (q := 1533) dL_law_1532 rfl ⟨by decide, by decide⟩ ?_
    refine g_ildv (q := 1534) (z := S.2.1 47 1) dL_law_1533 rfl ⟨by decide, rfl, rfl⟩ (by omega) (by omega) rfl ?_
    refine g_bipush (q := 1536) dL_law_1534 rfl ⟨by decide, by decide⟩ (by decide) ?_
    refine g_icmp_ne (t := 1542) (q := 1539) dL_law_1536 (by decide) rfl (fun h1536 => (False.elim (by omega))) (fun h1536 => ?_)
    refine g_goto (q := 0) (t := 3002) dL_law_1539 (by decide) ?_
    exact g_forget (z_sub_r (z_sub_r (z_sub_r (z_sub_r (z_sub_r (z_sub_r (z_sub_r (z_sub_r (z_sub_r (z_sub_r (z_sub_r (z_sub_r (z_sub_r (z_sub_r (z_sub_r (z_sub_n (z_sub_n (z_sub_n (z_sub_r (z_sub_n (z_sub_n (z_sub_n (z_sub_n (z_sub_n (z_sub_n (z_sub_n (z_sub_n (z_sub_n (z_sub_n (z_sub_n (z_sub_n (z_sub_n (z_sub_n (z_sub_n (z_sub_n (z_sub_n (z_sub_n (z_sub_n (z_sub_n (z_sub_n (z_sub_n (z_sub_n (z_sub_n (z_sub_n (z_sub_n (z_sub_n (z_sub_n (z_sub_n (z_sub_n (z_sub_n z_sub_0)))))))))))))))))))))))))))))))))))))))))))))))))) (z_G.widen (by omega) (hK _ hI.same))
  · have k31 : ∀ t m : Int, (0 ≤ t ∧ t ≤ 1) → (S.2.1 47 0 < m ∧ m ≤ S.2.1 47 0 + 500) → z_G (mLw hh) F (500 * n + 10) 1633 [some (zR 49), some (zR 0), some (zR 7), some (zR 40), some (zR 41), some (zR 42), some (zR 43), some (zR 44), some (zR 48), some (zR 45), some (zR 46), some (zR 47), some (zI (n : Int)), some (zI v), some (zI w), some (zI i), some (zI (zdg i)), some (zI f), some (zI 1), none, none, none, none, none, none, none, none, none, none, none, none, some (zI t), some (zI m), none, none, none, none, none, none, none, none, none, none, none, none, none, none, none, none, none] [] S := by
      intro t m ht hm
      have hwa := h.wa m
      rw [← ec] at hwa
      by_cases cg : S.2.1 9 f = 1
      · have q := q_order_ex h hf hi (t := t) (by omega) hm cg
        refine g_aload (q := 1635) dL_law_1633 rfl rfl ?_
        refine g_iload (q := 1637) dL_law_1635 rfl rfl ?_
        refine g_ildv (q := 1638) (z := S.2.1 46 f) dL_law_1637 rfl ⟨by decide, rfl, rfl⟩ (by omega) (by omega) rfl ?_
        refine g_fnS (as := [zI (S.2.1 46 f)]) (q := 1641) (u' := 500 * n + 10) dL_law_1638 rfl ck_L_114 rfl rfl (Nat.le_of_ble_eq_true rfl) ⟨Nat.le_of_ble_eq_true rfl, Nat.le_of_ble_eq_true rfl⟩ rfl (show 500 * n + 10 ≤ 100000 by omega) (s_L_isGone (by omega)) rfl ?_
        refine g_if_eq (t := 1672) (q := 1644) dL_law_1641 (by decide) rfl (fun h1641 => (False.elim (by omega))) (fun h1641 => ?_)
        refine g_aload_n (i := 1) (q := 1645) dL_law_1644 rfl rfl rfl ?_
        refine g_iload (q := 1647) dL_law_1645 rfl rfl ?_
        refine g_iload (q := 1649) dL_law_1647 rfl rfl ?_
        refine g_iload (q := 1651) dL_law_1649 rfl rfl ?_
        refine g_iload (q := 1653) dL_law_1651 rfl rfl ?_
        refine g_fnW (as := [zR 0, zI f, zI (zdg i), zI t, zI m]) (q := 1656) (u' := 500 * n + 14) dL_law_1653 rfl ck_L_213 rfl rfl (Nat.le_of_ble_eq_true rfl) ⟨Nat.le_of_ble_eq_true rfl, Nat.le_of_ble_eq_true rfl⟩ rfl (show 500 * n + 14 ≤ 100000 by omega) (q) ?_
        refine g_sipush (q := 1659) dL_law_1656 rfl ⟨by decide, by decide⟩ (by decide) ?_
        refine g_icmp_ne (t := 1666) (q := 1662) dL_law_1659 (by decide) rfl (fun h1659 => (False.elim (by omega))) (fun h1659 => ?_)
        refine g_iconst (q := 1663) dL_law_1662 rfl ⟨by decide, by decide⟩ ?_
        refine g_goto (q := 0) (t := 1667) dL_law_1663 (by decide) ?_
        refine g_istore (q := 1669) dL_law_1667 rfl (Nat.le_of_ble_eq_true rfl) ?_
        refine g_goto (q := 0) (t := 3002) dL_law_1669 (by decide) ?_
        exact g_forget (z_sub_r (z_sub_r (z_sub_r (z_sub_r (z_sub_r (z_sub_r (z_sub_r (z_sub_r (z_sub_r (z_sub_r (z_sub_r (z_sub_r (z_sub_r (z_sub_r (z_sub_r (z_sub_n (z_sub_n (z_sub_n (z_sub_r (z_sub_n (z_sub_n (z_sub_n (z_sub_n (z_sub_n (z_sub_n (z_sub_n (z_sub_n (z_sub_n (z_sub_n (z_sub_n (z_sub_n (z_sub_n (z_sub_n (z_sub_n (z_sub_n (z_sub_n (z_sub_n (z_sub_n (z_sub_n (z_sub_n (z_sub_n (z_sub_n (z_sub_n (z_sub_n (z_sub_n (z_sub_n (z_sub_n (z_sub_n (z_sub_n (z_sub_n z_sub_0)))))))))))))))))))))))))))))))))))))))))))))))))) (z_G.widen (by omega) (hK _ hI.same))
      · have q := q_order_ok h hf hi (t := t) (by omega) hm (by omega)
        rw [← ec] at q
        have hr := x_rr_rng (S := S) (c := c) (f := f) (n := zdg i) (t := t) (m := m)
        have h0 := fun e => x_rr_0 (S := S) (c := c) (f := f) (n := zdg i) (t := t) (m := m) e
        have k82 : z_G (mLw hh) F (500 * n + 10) 1782 [some (zR 49), some (zR 0), some (zR 7), some (zR 40), some (zR 41), some (zR 42), some (zR 43), some (zR 44), some (zR 48), some (zR 45), some (zR 46), some (zR 47), some (zI (n : Int)), some (zI v), some (zI w), some (zI i), some (zI (zdg i)), some (zI f), some (zI 1), none, none, none, none, none, none, none, none, none, none, none, none, some (zI t), some (zI m), none, none, none, none, none, none, none, none, none, none, none, none, none, none, none, none, none] [zI (x_rr S c f (zdg i) t m)] S := by
          obtain ⟨r, er⟩ : ∃ r, r = x_rr S c f (zdg i) t m := ⟨_, rfl⟩
          rw [← er] at q hr h0 ⊢
          have kW : ∀ st : Int, ((r = 0 ∧ st = 1) ∨ (¬ r = 0 ∧ st = 0)) → zInv (n + 1) (z_sA (z_sA (z_sA (x_oa S f (zdg i) (S.2.1 13 (zdg i)) m r) 42 (S.2.1 47 1) (st + r * 8 + i * 64 + f * 1024 + (S.2.1 40 i + 1) * 8192 + m * 65536)) 47 1 (S.2.1 47 1 + 1)) 43 (S.2.1 47 1) (-1)) := by
            intro st hst
            have r1 := rel_ord h (i := i) (f := f) (d := S.2.1 13 (zdg i)) (m := m) (r := r) (w := st + r * 8 + i * 64 + f * 1024 + (S.2.1 40 i + 1) * 8192 + m * 65536) (st := st) hi hf hs.2 (by omega) (by omega) (by omega) (by split <;> omega) (by rw [hs.1]) (fun e => (h0 e).1) (fun e a x y g e2 => by
              have := z_first_none _ _ (h0 e).2 a.toNat (by omega) (by omega)
              rw [show ((a.toNat : Nat) : Int) = a by omega] at this
              exact absurd ⟨g, e2⟩ (of_decide_eq_false this))
            have r2 := r1.both (U := z_sA (z_sA (z_sA (x_oa S f (zdg i) (S.2.1 13 (zdg i)) m r) 42 (S.2.1 47 1) (st + r * 8 + i * 64 + f * 1024 + (S.2.1 40 i + 1) * 8192 + m * 65536)) 47 1 (S.2.1 47 1 + 1)) 43 (S.2.1 47 1) (-1)) (zcl_w (zcl_w (zcl_w zcl.rf (by omega)) (by omega)) (by omega)) (zlw_w (zlw_w (zlw_w zlw_oa)))
            exact hI.next r2 (Int.le_refl _) (by show S.1 3 ≤ S.1 3 + 1 + (S.1 2 - S.1 2); omega) rfl hI.2.2.2
          have k26 : ∀ st : Int, ((r = 0 ∧ st = 1) ∨ (¬ r = 0 ∧ st = 0)) → z_G (mLw hh) F (500 * n + 14) 1826 [some (zR 49), some (zR 0), some (zR 7), some (zR 40), some (zR 41), some (zR 42), some (zR 43), some (zR 44), some (zR 48), some (zR 45), some (zR 46), some (zR 47), some (zI (n : Int)), some (zI v), some (zI w), some (zI i), some (zI (zdg i)), some (zI f), some (zI 1), none, none, none, none, none, none, none, none, none, none, none, none, some (zI t), some (zI m), some (zI r), none, none, none, none, none, none, none, none, none, none, none, none, none, none, none, none] [zI st, zI (S.2.1 47 1), zR 42] (x_oa S f (zdg i) (S.2.1 13 (zdg i)) m r) := by
            intro st hst
            have hN := hK _ (kW st hst)
            refine g_iload (q := 1828) dL_law_1826 rfl rfl ?_
            refine g_iconst (q := 1829) dL_law_1828 rfl ⟨by decide, by decide⟩ ?_
            refine g_ishlv (q := 1830) (z := r * 8) dL_law_1829 rfl (zShl_p 3 (by decide) (by decide) (by omega) (by omega)) ?_
            refine g_iorv (q := 1831) (z := st + r * 8) dL_law_1830 rfl (zOr_q (p := 8) 3 (by decide) (by omega) (by omega) (by omega) (by omega) (by omega)) ?_
            refine g_iload (q := 1833) dL_law_1831 rfl rfl ?_
            refine g_bipush (q := 1835) dL_law_1833 rfl ⟨by decide, by decide⟩ (by decide) ?_
            refine g_ishlv (q := 1836) (z := i * 64) dL_law_1835 rfl (zShl_p 6 (by decide) (by decide) (by omega) (by omega)) ?_
            refine g_iorv (q := 1837) (z := st + r * 8 + i * 64) dL_law_1836 rfl (zOr_q (p := 64) 6 (by decide) (by omega) (by omega) (by omega) (by omega) (by omega)) ?_
            refine g_iload (q := 1839) dL_law_1837 rfl rfl ?_
            refine g_bipush (q := 1841) dL_law_1839 rfl ⟨by decide, by decide⟩ (by decide) ?_
            refine g_ishlv (q := 1842) (z := f * 1024) dL_law_1841 rfl (zShl_p 10 (by decide) (by decide) (by omega) (by omega)) ?_
            refine g_iorv (q := 1843) (z := st + r * 8 + i * 64 + f * 1024) dL_law_1842 rfl (zOr_q (p := 1024) 10 (by decide) (by omega) (by omega) (by omega) (by omega) (by omega)) ?_
            refine g_aload_n (i := 3) (q := 1844) dL_law_1843 rfl rfl rfl ?_
            refine g_iload (q := 1846) dL_law_1844 rfl rfl ?_
            refine g_ildv (q := 1847) (z := S.2.1 40 i) dL_law_1846 rfl ⟨by decide, rfl, rfl⟩ (by omega) (by omega) rfl ?_
            refine g_iconst (q := 1848) dL_law_1847 rfl ⟨by decide, by decide⟩ ?_
            refine g_iadd (q := 1849) dL_law_1848 rfl (by constructor <;> omega) ?_
            refine g_bipush (q := 1851) dL_law_1849 rfl ⟨by decide, by decide⟩ (by decide) ?_
            refine g_ishlv (q := 1852) (z := ((S.2.1 40 i) + 1) * 8192) dL_law_1851 rfl (zShl_p 13 (by decide) (by decide) (by omega) (by omega)) ?_
            refine g_iorv (q := 1853) (z := st + r * 8 + i * 64 + f * 1024 + (S.2.1 40 i + 1) * 8192) dL_law_1852 rfl (zOr_q (p := 8192) 13 (by decide) (by omega) (by omega) (by omega) (by omega) (by omega)) ?_
            refine g_iload (q := 1855) dL_law_1853 rfl rfl ?_
            refine g_bipush (q := 1857) dL_law_1855 rfl ⟨by decide, by decide⟩ (by decide) ?_
            refine g_ishlv (q := 1858) (z := m * 65536) dL_law_1857 rfl (zShl_p 16 (by decide) (by decide) (by omega) (by omega)) ?_
            refine g_iorv (q := 1859) (z := st + r * 8 + i * 64 + f * 1024 + (S.2.1 40 i + 1) * 8192 + m * 65536) dL_law_1858 rfl (zOr_q (p := 65536) 16 (by decide) (by omega) (by omega) (by omega) (by omega) (by omega)) ?_
            refine g_iast (q := 1860) dL_law_1859 rfl ⟨by decide, rfl, rfl⟩ (by omega) (by omega) ?_
            refine g_aload (q := 1862) dL_law_1860 rfl rfl ?_
            refine g_aload (q := 1864) dL_law_1862 rfl rfl ?_
            refine g_iconst (q := 1865) dL_law_1864 rfl ⟨by decide, by decide⟩ ?_
            refine g_dup2 (q := 1866) dL_law_1865 rfl trivial trivial ?_
            refine g_ildv (q := 1867) (z := S.2.1 47 1) dL_law_1866 rfl ⟨by decide, rfl, rfl⟩ (by omega) (by omega) rfl ?_
            refine g_dup_x2 (q := 1868) dL_law_1867 rfl trivial trivial trivial ?_
            refine g_iconst (q := 1869) dL_law_1868 rfl ⟨by decide, by decide⟩ ?_
            refine g_iadd (q := 1870) dL_law_1869 rfl (by constructor <;> omega) ?_
            refine g_iast (q := 1871) dL_law_1870 rfl ⟨by decide, rfl, rfl⟩ (by omega) (by omega) ?_
            refine g_iconst (q := 1872) dL_law_1871 rfl ⟨by decide, by decide⟩ ?_
            refine g_iast (q := 1873) dL_law_1872 rfl ⟨by decide, rfl, rfl⟩ (by omega) (by omega) ?_
            refine g_goto (q := 0) (t := 3002) dL_law_1873 (by decide) ?_
            exact g_forget (z_sub_r (z_sub_r (z_sub_r (z_sub_r (z_sub_r (z_sub_r (z_sub_r (z_sub_r (z_sub_r (z_sub_r (z_sub_r (z_sub_r (z_sub_r (z_sub_r (z_sub_r (z_sub_n (z_sub_n (z_sub_n (z_sub_r (z_sub_n (z_sub_n (z_sub_n (z_sub_n (z_sub_n (z_sub_n (z_sub_n (z_sub_n (z_sub_n (z_sub_n (z_sub_n (z_sub_n (z_sub_n (z_sub_n (z_sub_n (z_sub_n (z_sub_n (z_sub_n (z_sub_n (z_sub_n (z_sub_n (z_sub_n (z_sub_n (z_sub_n (z_sub_n (z_sub_n (z_sub_n (z_sub_n (z_sub_n (z_sub_n (z_sub_n z_sub_0)))))))))))))))))))))))))))))))))))))))))))))))))) (z_G.widen (by omega) hN)
          refine g_istore (q := 1784) dL_law_1782 rfl (Nat.le_of_ble_eq_true rfl) ?_
          refine g_aload_n (i := 1) (q := 1785) dL_law_1784 rfl rfl rfl ?_
          refine g_iload (q := 1787) dL_law_1785 rfl rfl ?_
          refine g_iload (q := 1789) dL_law_1787 rfl rfl ?_
          refine g_iload (q := 1791) dL_law_1789 rfl rfl ?_
          refine g_iload (q := 1793) dL_law_1791 rfl rfl ?_
          refine g_fnW (as := [zR 0, zI f, zI (zdg i), zI t, zI m]) (q := 1796) (u' := 500 * n + 14) dL_law_1793 rfl ck_L_213 rfl rfl (Nat.le_of_ble_eq_true rfl) ⟨Nat.le_of_ble_eq_true rfl, Nat.le_of_ble_eq_true rfl⟩ rfl (show 500 * n + 14 ≤ 100000 by omega) (q) ?_
          refine g_aload (q := 1798) dL_law_1796 rfl rfl ?_
          refine g_iconst (q := 1799) dL_law_1798 rfl ⟨by decide, by decide⟩ ?_
          refine g_ildv (q := 1800) (z := S.2.1 47 1) dL_law_1799 rfl ⟨by decide, rfl, rfl⟩ (by omega) (by omega) rfl ?_
          refine g_icmp_ne (t := 1807) (q := 1803) dL_law_1800 (by decide) rfl (fun h1800 => (False.elim (by omega))) (fun h1800 => ?_)
          refine g_iconst (q := 1804) dL_law_1803 rfl ⟨by decide, by decide⟩ ?_
          refine g_goto (q := 0) (t := 1808) dL_law_1804 (by decide) ?_
          refine g_istore (q := 1810) dL_law_1808 rfl (Nat.le_of_ble_eq_true rfl) ?_
          refine g_aload (q := 1812) dL_law_1810 rfl rfl ?_
          refine g_aload (q := 1814) dL_law_1812 rfl rfl ?_
          refine g_iconst (q := 1815) dL_law_1814 rfl ⟨by decide, by decide⟩ ?_
          refine g_ildv (q := 1816) (z := S.2.1 47 1) dL_law_1815 rfl ⟨by decide, rfl, rfl⟩ (by omega) (by omega) rfl ?_
          refine g_iload (q := 1818) dL_law_1816 rfl rfl ?_
          refine g_if_ne (t := 1825) (q := 1821) dL_law_1818 (by decide) rfl (fun h1818 => ?_) (fun h1818 => ?_)
          · refine g_iconst (q := 1826) dL_law_1825 rfl ⟨by decide, by decide⟩ ?_
            exact k26 _ (by omega)
          · refine g_iconst (q := 1822) dL_law_1821 rfl ⟨by decide, by decide⟩ ?_
            refine g_goto (q := 0) (t := 1826) dL_law_1822 (by decide) ?_
            exact k26 _ (by omega)
        have hle := y_wa_le S m c
        refine g_aload (q := 1635) dL_law_1633 rfl rfl ?_
        refine g_iload (q := 1637) dL_law_1635 rfl rfl ?_
        refine g_ildv (q := 1638) (z := S.2.1 46 f) dL_law_1637 rfl ⟨by decide, rfl, rfl⟩ (by omega) (by omega) rfl ?_
        refine g_fnS (as := [zI (S.2.1 46 f)]) (q := 1641) (u' := 500 * n + 10) dL_law_1638 rfl ck_L_114 rfl rfl (Nat.le_of_ble_eq_true rfl) ⟨Nat.le_of_ble_eq_true rfl, Nat.le_of_ble_eq_true rfl⟩ rfl (show 500 * n + 10 ≤ 100000 by omega) (s_L_isGone (by omega)) rfl ?_
        refine g_if_eq (t := 1672) (q := 1644) dL_law_1641 (by decide) rfl (fun h1641 => ?_) (fun h1641 => (False.elim (by omega)))
        refine g_aload_n (i := 3) (q := 1673) dL_law_1672 rfl rfl rfl ?_
        refine g_iload (q := 1675) dL_law_1673 rfl rfl ?_
        refine g_ildv (q := 1676) (z := S.2.1 40 i) dL_law_1675 rfl ⟨by decide, rfl, rfl⟩ (by omega) (by omega) rfl ?_
        refine g_iconst (q := 1677) dL_law_1676 rfl ⟨by decide, by decide⟩ ?_
        refine g_icmp_ne (t := 1684) (q := 1680) dL_law_1677 (by decide) rfl (fun h1677 => ?_) (fun h1677 => ?_)
        · refine g_aload_n (i := 3) (q := 1685) dL_law_1684 rfl rfl rfl ?_
          refine g_iload (q := 1687) dL_law_1685 rfl rfl ?_
          refine g_ildv (q := 1688) (z := S.2.1 40 i) dL_law_1687 rfl ⟨by decide, rfl, rfl⟩ (by omega) (by omega) rfl ?_
          refine g_iload (q := 1690) dL_law_1688 rfl rfl ?_
          refine g_icmp_ne (t := 1697) (q := 1693) dL_law_1690 (by decide) rfl (fun h1690 => ?_) (fun h1690 => ?_)
          · refine g_aload_n (i := 3) (q := 1698) dL_law_1697 rfl rfl rfl ?_
            refine g_bipush (q := 1700) dL_law_1698 rfl ⟨by decide, by decide⟩ (by decide) ?_
            refine g_iload (q := 1702) dL_law_1700 rfl rfl ?_
            refine g_iadd (q := 1703) dL_law_1702 rfl (by constructor <;> omega) ?_
            refine g_ildv (q := 1704) (z := S.2.1 40 (12 + i)) dL_law_1703 rfl ⟨by decide, rfl, rfl⟩ (by omega) (by omega) rfl ?_
            refine g_iload (q := 1706) dL_law_1704 rfl rfl ?_
            refine g_icmp_eq (t := 1713) (q := 1709) dL_law_1706 (by decide) rfl (fun h1706 => ?_) (fun h1706 => ?_)
            · refine g_iload (q := 1715) dL_law_1713 rfl rfl ?_
              refine g_aload (q := 1717) dL_law_1715 rfl rfl ?_
              refine g_aload (q := 1719) dL_law_1717 rfl rfl ?_
              refine g_fnS (as := [zI i, zR 42, zR 47]) (q := 1722) (u' := 500 * n + 10) dL_law_1719 rfl ck_L_142 rfl rfl (Nat.le_of_ble_eq_true rfl) ⟨Nat.le_of_ble_eq_true rfl, Nat.le_of_ble_eq_true rfl⟩ rfl (show 500 * n + 10 ≤ 100000 by omega) ((by have sp := s_L_waits (n := i) hO; rw [← hwt] at sp; exact sp)) rfl ?_
              refine g_iconst (q := 1723) dL_law_1722 rfl ⟨by decide, by decide⟩ ?_
              refine g_icmp_eq (t := 1730) (q := 1726) dL_law_1723 (by decide) rfl (fun h1723 => ?_) (fun h1723 => ?_)
              · refine g_aload_n (i := 3) (q := 1731) dL_law_1730 rfl rfl rfl ?_
                refine g_bipush (q := 1733) dL_law_1731 rfl ⟨by decide, by decide⟩ (by decide) ?_
                refine g_iload (q := 1735) dL_law_1733 rfl rfl ?_
                refine g_iadd (q := 1736) dL_law_1735 rfl (by constructor <;> omega) ?_
                refine g_ildv (q := 1737) (z := S.2.1 40 (36 + i)) dL_law_1736 rfl ⟨by decide, rfl, rfl⟩ (by omega) (by omega) rfl ?_
                refine g_aload (q := 1739) dL_law_1737 rfl rfl ?_
                refine g_iconst (q := 1740) dL_law_1739 rfl ⟨by decide, by decide⟩ ?_
                refine g_ildv (q := 1741) (z := S.2.1 47 0) dL_law_1740 rfl ⟨by decide, rfl, rfl⟩ (by omega) (by omega) rfl ?_
                refine g_icmp_lt (t := 1748) (q := 1744) dL_law_1741 (by decide) rfl (fun h1741 => ?_) (fun h1741 => ?_)
                · refine g_iload (q := 1750) dL_law_1748 rfl rfl ?_
                  refine g_bipush (q := 1752) dL_law_1750 rfl ⟨by decide, by decide⟩ (by decide) ?_
                  refine g_irem (q := 1753) dL_law_1752 rfl (by omega) (by omega) ?_
                  refine g_bipush (q := 1755) dL_law_1753 rfl ⟨by decide, by decide⟩ (by decide) ?_
                  refine g_icmp_le (t := 1763) (q := 1758) dL_law_1755 (by decide) rfl (fun h1755 => ?_) (fun h1755 => ?_)
                  · refine g_iload (q := 1765) dL_law_1763 rfl rfl ?_
                    refine g_aload (q := 1767) dL_law_1765 rfl rfl ?_
                    refine g_aload (q := 1769) dL_law_1767 rfl rfl ?_
                    refine g_fnS (as := [zI m, zR 42, zR 47]) (q := 1772) (u' := 500 * n + 10) dL_law_1769 rfl ck_L_162 rfl rfl (Nat.le_of_ble_eq_true rfl) ⟨Nat.le_of_ble_eq_true rfl, Nat.le_of_ble_eq_true rfl⟩ rfl (show 500 * n + 10 ≤ 100000 by omega) ((by have sp := s_L_waitAt (m := m) hO; rw [← hwa] at sp; exact sp)) rfl ?_
                    refine g_iconst (q := 1773) dL_law_1772 rfl ⟨by decide, by decide⟩ ?_
                    refine g_icmp_le (t := 1781) (q := 1776) dL_law_1773 (by decide) rfl (fun h1773 => ?_) (fun h1773 => ?_)
                    · refine g_iconst (q := 1782) dL_law_1781 rfl ⟨by decide, by decide⟩ ?_
                      refine g_top (z := x_rr S c f (zdg i) t m) ?_ k82
                      unfold x_rr
                      (repeat (first | rw [if_pos (by omega)] | rw [if_neg (by omega)]))
                    · refine g_bipush (q := 1778) dL_law_1776 rfl ⟨by decide, by decide⟩ (by decide) ?_
                      refine g_goto (q := 0) (t := 1782) dL_law_1778 (by decide) ?_
                      refine g_top (z := x_rr S c f (zdg i) t m) ?_ k82
                      unfold x_rr
                      (repeat (first | rw [if_pos (by omega)] | rw [if_neg (by omega)]))
                  · refine g_bipush (q := 1760) dL_law_1758 rfl ⟨by decide, by decide⟩ (by decide) ?_
                    refine g_goto (q := 0) (t := 1782) dL_law_1760 (by decide) ?_
                    refine g_top (z := x_rr S c f (zdg i) t m) ?_ k82
                    unfold x_rr
                    (repeat (first | rw [if_pos (by omega)] | rw [if_neg (by omega)]))
                · refine g_iconst (q := 1745) dL_law_1744 rfl ⟨by decide, by decide⟩ ?_
                  refine g_goto (q := 0) (t := 1782) dL_law_1745 (by decide) ?_
                  refine g_top (z := x_rr S c f (zdg i) t m) ?_ k82
                  unfold x_rr
                  (repeat (first | rw [if_pos (by omega)] | rw [if_neg (by omega)]))
              · refine g_iconst (q := 1727) dL_law_1726 rfl ⟨by decide, by decide⟩ ?_
                refine g_goto (q := 0) (t := 1782) dL_law_1727 (by decide) ?_
                refine g_top (z := x_rr S c f (zdg i) t m) ?_ k82
                unfold x_rr
                (repeat (first | rw [if_pos (by omega)] | rw [if_neg (by omega)]))
            · refine g_iconst (q := 1710) dL_law_1709 rfl ⟨by decide, by decide⟩ ?_
              refine g_goto (q := 0) (t := 1782) dL_law_1710 (by decide) ?_
              refine g_top (z := x_rr S c f (zdg i) t m) ?_ k82
              unfold x_rr
              (repeat (first | rw [if_pos (by omega)] | rw [if_neg (by omega)]))
          · refine g_iconst (q := 1694) dL_law_1693 rfl ⟨by decide, by decide⟩ ?_
            refine g_goto (q := 0) (t := 1782) dL_law_1694 (by decide) ?_
            refine g_top (z := x_rr S c f (zdg i) t m) ?_ k82
            unfold x_rr
            (repeat (first | rw [if_pos (by omega)] | rw [if_neg (by omega)]))
        · refine g_iconst (q := 1681) dL_law_1680 rfl ⟨by decide, by decide⟩ ?_
          refine g_goto (q := 0) (t := 1782) dL_law_1681 (by decide) ?_
          refine g_top (z := x_rr S c f (zdg i) t m) ?_ k82
          unfold x_rr
          (repeat (first | rw [if_pos (by omega)] | rw [if_neg (by omega)]))
    have k68 : ∀ t : Int, (0 ≤ t ∧ t ≤ 1) → z_G (mLw hh) F (500 * n + 10) 1568 [some (zR 49), some (zR 0), some (zR 7), some (zR 40), some (zR 41), some (zR 42), some (zR 43), some (zR 44), some (zR 48), some (zR 45), some (zR 46), some (zR 47), some (zI (n : Int)), some (zI v), some (zI w), some (zI i), some (zI (zdg i)), some (zI f), some (zI 1), none, none, none, none, none, none, none, none, none, none, none, none, none, none, none, none, none, none, none, none, none, none, none, none, none, none, none, none, none, none, none] [zI t] S := by
      intro t ht
      have hl1 := zlow_rng (v := zShr w 6) (n := 500) (by omega)
      have hl2 := zlow_rng (v := zShr w 6) (n := 2) (by omega)
      have hl3 := zlow_rng (v := zShr w 9) (n := 4) (by omega)
      refine g_istore (q := 1570) dL_law_1568 rfl (Nat.le_of_ble_eq_true rfl) ?_
      refine g_iload (q := 1572) dL_law_1570 rfl rfl ?_
      refine g_bipush (q := 1574) dL_law_1572 rfl ⟨by decide, by decide⟩ (by decide) ?_
      refine g_iandv (q := 1575) (z := zAnd w 24) dL_law_1574 rfl (rfl) ?_
      refine g_if_ne (t := 1599) (q := 1578) dL_law_1575 (by decide) rfl (fun h1575 => ?_) (fun h1575 => ?_)
      · refine g_aload (q := 1601) dL_law_1599 rfl rfl ?_
        refine g_iconst (q := 1602) dL_law_1601 rfl ⟨by decide, by decide⟩ ?_
        refine g_ildv (q := 1603) (z := S.2.1 47 0) dL_law_1602 rfl ⟨by decide, rfl, rfl⟩ (by omega) (by omega) rfl ?_
        refine g_bipush (q := 1605) dL_law_1603 rfl ⟨by decide, by decide⟩ (by decide) ?_
        refine g_idiv (q := 1606) dL_law_1605 rfl (by omega) (by omega) ?_
        refine g_iconst (q := 1607) dL_law_1606 rfl ⟨by decide, by decide⟩ ?_
        refine g_iadd (q := 1608) dL_law_1607 rfl (by constructor <;> omega) ?_
        refine g_iload (q := 1610) dL_law_1608 rfl rfl ?_
        refine g_bipush (q := 1612) dL_law_1610 rfl ⟨by decide, by decide⟩ (by decide) ?_
        refine g_ishrv (q := 1613) (z := zShr w 6) dL_law_1612 rfl (rfl) ?_
        refine g_iconst (q := 1614) dL_law_1613 rfl ⟨by decide, by decide⟩ ?_
        refine g_fnS (as := [zI (zShr w 6), zI 2]) (q := 1617) (u' := 500 * n + 10) dL_law_1614 rfl ck_L_125 rfl rfl (Nat.le_of_ble_eq_true rfl) ⟨Nat.le_of_ble_eq_true rfl, Nat.le_of_ble_eq_true rfl⟩ rfl (show 500 * n + 10 ≤ 100000 by omega) (s_L_low (by omega)) rfl ?_
        refine g_iadd (q := 1618) dL_law_1617 rfl (by constructor <;> omega) ?_
        refine g_bipush (q := 1620) dL_law_1618 rfl ⟨by decide, by decide⟩ (by decide) ?_
        refine g_imul (q := 1621) dL_law_1620 rfl (by constructor <;> omega) ?_
        refine g_iload (q := 1623) dL_law_1621 rfl rfl ?_
        refine g_bipush (q := 1625) dL_law_1623 rfl ⟨by decide, by decide⟩ (by decide) ?_
        refine g_ishrv (q := 1626) (z := zShr w 9) dL_law_1625 rfl (rfl) ?_
        refine g_iconst (q := 1627) dL_law_1626 rfl ⟨by decide, by decide⟩ ?_
        refine g_fnS (as := [zI (zShr w 9), zI 4]) (q := 1630) (u' := 500 * n + 10) dL_law_1627 rfl ck_L_125 rfl rfl (Nat.le_of_ble_eq_true rfl) ⟨Nat.le_of_ble_eq_true rfl, Nat.le_of_ble_eq_true rfl⟩ rfl (show 500 * n + 10 ≤ 100000 by omega) (s_L_low (by omega)) rfl ?_
        refine g_iadd (q := 1631) dL_law_1630 rfl (by constructor <;> omega) ?_
        refine g_istore (q := 1633) dL_law_1631 rfl (Nat.le_of_ble_eq_true rfl) ?_
        exact k31 _ _ ht (by omega)
      · refine g_aload (q := 1580) dL_law_1578 rfl rfl ?_
        refine g_iconst (q := 1581) dL_law_1580 rfl ⟨by decide, by decide⟩ ?_
        refine g_ildv (q := 1582) (z := S.2.1 47 0) dL_law_1581 rfl ⟨by decide, rfl, rfl⟩ (by omega) (by omega) rfl ?_
        refine g_iconst (q := 1583) dL_law_1582 rfl ⟨by decide, by decide⟩ ?_
        refine g_iadd (q := 1584) dL_law_1583 rfl (by constructor <;> omega) ?_
        refine g_iload (q := 1586) dL_law_1584 rfl rfl ?_
        refine g_bipush (q := 1588) dL_law_1586 rfl ⟨by decide, by decide⟩ (by decide) ?_
        refine g_ishrv (q := 1589) (z := zShr w 6) dL_law_1588 rfl (rfl) ?_
        refine g_sipush (q := 1592) dL_law_1589 rfl ⟨by decide, by decide⟩ (by decide) ?_
        refine g_fnS (as := [zI (zShr w 6), zI 500]) (q := 1595) (u' := 500 * n + 10) dL_law_1592 rfl ck_L_125 rfl rfl (Nat.le_of_ble_eq_true rfl) ⟨Nat.le_of_ble_eq_true rfl, Nat.le_of_ble_eq_true rfl⟩ rfl (show 500 * n + 10 ≤ 100000 by omega) (s_L_low (by omega)) rfl ?_
        refine g_iadd (q := 1596) dL_law_1595 rfl (by constructor <;> omega) ?_
        refine g_goto (q := 0) (t := 1631) dL_law_1596 (by decide) ?_
        refine g_istore (q := 1633) dL_law_1631 rfl (Nat.le_of_ble_eq_true rfl) ?_
        exact k31 _ _ ht (by omega)
    have hl0 := zlow_rng (v := zShr w 3) (n := 2) (by omega)
    refine g_aload (q := 1532) dL_law_1530 rfl rfl ?_
    refine g_iconst (q := 1533) dL_law_1532 rfl ⟨by decide, by decide⟩ ?_
    refine g_ildv (q := 1534) (z := S.2.1 47 1) dL_law_1533 rfl ⟨by decide, rfl, rfl⟩ (by omega) (by omega) rfl ?_
    refine g_bipush (q := 1536) dL_law_1534 rfl ⟨by decide, by decide⟩ (by decide) ?_
    refine g_icmp_ne (t := 1542) (q := 1539) dL_law_1536 (by decide) rfl (fun h1536 => ?_) (fun h1536 => (False.elim (by omega)))
    refine g_iload (q := 1544) dL_law_1542 rfl rfl ?_
    refine g_bipush (q := 1546) dL_law_1544 rfl ⟨by decide, by decide⟩ (by decide) ?_
    refine g_iandv (q := 1547) (z := zAnd w 6) dL_law_1546 rfl (rfl) ?_
    refine g_if_le (t := 1560) (q := 1550) dL_law_1547 (by decide) rfl (fun h1547 => ?_) (fun h1547 => ?_)
    · refine g_iload (q := 1562) dL_law_1560 rfl rfl ?_
      refine g_iconst (q := 1563) dL_law_1562 rfl ⟨by decide, by decide⟩ ?_
      refine g_ishrv (q := 1564) (z := zShr w 3) dL_law_1563 rfl (rfl) ?_
      refine g_iconst (q := 1565) dL_law_1564 rfl ⟨by decide, by decide⟩ ?_
      refine g_fnS (as := [zI (zShr w 3), zI 2]) (q := 1568) (u' := 500 * n + 10) dL_law_1565 rfl ck_L_125 rfl rfl (Nat.le_of_ble_eq_true rfl) ⟨Nat.le_of_ble_eq_true rfl, Nat.le_of_ble_eq_true rfl⟩ rfl (show 500 * n + 10 ≤ 100000 by omega) (s_L_low (by omega)) rfl ?_
      exact k68 _ (by omega)
    · refine g_aload_n (i := 3) (q := 1551) dL_law_1550 rfl rfl rfl ?_
      refine g_bipush (q := 1553) dL_law_1551 rfl ⟨by decide, by decide⟩ (by decide) ?_
      refine g_iload (q := 1555) dL_law_1553 rfl rfl ?_
      refine g_iadd (q := 1556) dL_law_1555 rfl (by constructor <;> omega) ?_
      refine g_ildv (q := 1557) (z := S.2.1 40 (12 + i)) dL_law_1556 rfl ⟨by decide, rfl, rfl⟩ (by omega) (by omega) rfl ?_
      refine g_goto (q := 0) (t := 1568) dL_law_1557 (by decide) ?_
      exact k68 _ (by omega)
/-- how many orders wait: the law counts them -/
theorem lc_wait {T : zS} {c : Nat} {a cn : Int} (hO : yO T c) (hn : n < 150) (hk : z_G (mLw hh) F (500 * n + 10) 1991 [some (zR 49), some (zR 0), some (zR 7), some (zR 40), some (zR 41), some (zR 42), some (zR 43), some (zR 44), some (zR 48), some (zR 45), some (zR 46), some (zR 47), some (zI (n : Int)), some (zI v), some (zI w), some (zI i), some (zI (zdg i)), some (zI f), some (zI 1), none, none, none, none, none, none, none, none, none, none, none, none, none, none, none, some (zI a), some (zI cn), some (zI (z_ct (fun b => decide (T.2.1 42 b % 8 = 1)) c : Int)), none, none, none, none, none, none, none, none, none, none, none, none, none] [] T) : ∀ (k b : Nat), b + k = c → z_G (mLw hh) F (500 * n + 10) 1954 [some (zR 49), some (zR 0), some (zR 7), some (zR 40), some (zR 41), some (zR 42), some (zR 43), some (zR 44), some (zR 48), some (zR 45), some (zR 46), some (zR 47), some (zI (n : Int)), some (zI v), some (zI w), some (zI i), some (zI (zdg i)), some (zI f), some (zI 1), none, none, none, none, none, none, none, none, none, none, none, none, none, none, none, some (zI a), some (zI cn), some (zI (z_ct (fun b => decide (T.2.1 42 b % 8 = 1)) b : Int)), some (zI (b : Int)), none, none, none, none, none, none, none, none, none, none, none, none] [] T := by
  obtain ⟨h1, h2, h3⟩ := id hO
  intro k
  induction k with
  | zero =>
    intro b hb
    have e : b = c := by omega
    subst e
    refine g_iload (q := 1956) dL_law_1954 rfl rfl ?_
    refine g_aload (q := 1958) dL_law_1956 rfl rfl ?_
    refine g_iconst (q := 1959) dL_law_1958 rfl ⟨by decide, by decide⟩ ?_
    refine g_ildv (q := 1960) (z := T.2.1 47 1) dL_law_1959 rfl ⟨by decide, rfl, rfl⟩ (by omega) (by omega) rfl ?_
    refine g_icmp_ge (t := 1991) (q := 1963) dL_law_1960 (by decide) rfl (fun h1960 => ?_) (fun h1960 => (False.elim (by omega)))
    exact g_forget (z_sub_r (z_sub_r (z_sub_r (z_sub_r (z_sub_r (z_sub_r (z_sub_r (z_sub_r (z_sub_r (z_sub_r (z_sub_r (z_sub_r (z_sub_r (z_sub_r (z_sub_r (z_sub_r (z_sub_r (z_sub_r (z_sub_r (z_sub_n (z_sub_n (z_sub_n (z_sub_n (z_sub_n (z_sub_n (z_sub_n (z_sub_n (z_sub_n (z_sub_n (z_sub_n (z_sub_n (z_sub_n (z_sub_n (z_sub_n (z_sub_r (z_sub_r (z_sub_r (z_sub_n (z_sub_n (z_sub_n (z_sub_n (z_sub_n (z_sub_n (z_sub_n (z_sub_n (z_sub_n (z_sub_n (z_sub_n (z_sub_n (z_sub_n z_sub_0)))))))))))))))))))))))))))))))))))))))))))))))))) hk
  | succ k ih =>
    intro b hb
    have hle := z_ct_le (fun b : Nat => decide (T.2.1 42 b % 8 = 1)) b
    have hov := h3 (b : Int) (by omega) (by omega)
    have hnx := ih (b + 1) (by omega)
    rw [z_ct_succ] at hnx
    by_cases e : T.2.1 42 b % 8 = 1
    · rw [if_pos (decide_eq_true e)] at hnx
      refine g_iload (q := 1956) dL_law_1954 rfl rfl ?_
      refine g_aload (q := 1958) dL_law_1956 rfl rfl ?_
      refine g_iconst (q := 1959) dL_law_1958 rfl ⟨by decide, by decide⟩ ?_
      refine g_ildv (q := 1960) (z := T.2.1 47 1) dL_law_1959 rfl ⟨by decide, rfl, rfl⟩ (by omega) (by omega) rfl ?_
      refine g_icmp_ge (t := 1991) (q := 1963) dL_law_1960 (by decide) rfl (fun h1960 => (False.elim (by omega))) (fun h1960 => ?_)
      refine g_iload (q := 1965) dL_law_1963 rfl rfl ?_
      refine g_aload (q := 1967) dL_law_1965 rfl rfl ?_
      refine g_iload (q := 1969) dL_law_1967 rfl rfl ?_
      refine g_ildv (q := 1970) (z := T.2.1 42 (b : Int)) dL_law_1969 rfl ⟨by decide, rfl, rfl⟩ (by omega) (by omega) rfl ?_
      refine g_fnS (as := [zI (T.2.1 42 (b : Int))]) (q := 1973) (u' := 500 * n + 10) dL_law_1970 rfl ck_L_96 rfl rfl (Nat.le_of_ble_eq_true rfl) ⟨Nat.le_of_ble_eq_true rfl, Nat.le_of_ble_eq_true rfl⟩ rfl (show 500 * n + 10 ≤ 100000 by omega) (s_L_state (by omega)) rfl ?_
      refine g_iconst (q := 1974) dL_law_1973 rfl ⟨by decide, by decide⟩ ?_
      refine g_icmp_ne (t := 1981) (q := 1977) dL_law_1974 (by decide) rfl (fun h1974 => (False.elim (by omega))) (fun h1974 => ?_)
      refine g_iconst (q := 1978) dL_law_1977 rfl ⟨by decide, by decide⟩ ?_
      refine g_goto (q := 0) (t := 1982) dL_law_1978 (by decide) ?_
      refine g_iadd (q := 1983) dL_law_1982 rfl (by constructor <;> omega) ?_
      refine g_istore (q := 1985) dL_law_1983 rfl (Nat.le_of_ble_eq_true rfl) ?_
      refine g_iinc (q := 1988) (i := 37) (n := 1) dL_law_1985 rfl rfl (by constructor <;> omega) ?_
      refine g_goto (q := 0) (t := 1954) dL_law_1988 (by decide) ?_
      exact hnx
    · rw [if_neg (by rw [decide_eq_true_eq]; exact e)] at hnx
      refine g_iload (q := 1956) dL_law_1954 rfl rfl ?_
      refine g_aload (q := 1958) dL_law_1956 rfl rfl ?_
      refine g_iconst (q := 1959) dL_law_1958 rfl ⟨by decide, by decide⟩ ?_
      refine g_ildv (q := 1960) (z := T.2.1 47 1) dL_law_1959 rfl ⟨by decide, rfl, rfl⟩ (by omega) (by omega) rfl ?_
      refine g_icmp_ge (t := 1991) (q := 1963) dL_law_1960 (by decide) rfl (fun h1960 => (False.elim (by omega))) (fun h1960 => ?_)
      refine g_iload (q := 1965) dL_law_1963 rfl rfl ?_
      refine g_aload (q := 1967) dL_law_1965 rfl rfl ?_
      refine g_iload (q := 1969) dL_law_1967 rfl rfl ?_
      refine g_ildv (q := 1970) (z := T.2.1 42 (b : Int)) dL_law_1969 rfl ⟨by decide, rfl, rfl⟩ (by omega) (by omega) rfl ?_
      refine g_fnS (as := [zI (T.2.1 42 (b : Int))]) (q := 1973) (u' := 500 * n + 10) dL_law_1970 rfl ck_L_96 rfl rfl (Nat.le_of_ble_eq_true rfl) ⟨Nat.le_of_ble_eq_true rfl, Nat.le_of_ble_eq_true rfl⟩ rfl (show 500 * n + 10 ≤ 100000 by omega) (s_L_state (by omega)) rfl ?_
      refine g_iconst (q := 1974) dL_law_1973 rfl ⟨by decide, by decide⟩ ?_
      refine g_icmp_ne (t := 1981) (q := 1977) dL_law_1974 (by decide) rfl (fun h1974 => ?_) (fun h1974 => (False.elim (by omega)))
      refine g_iconst (q := 1982) dL_law_1981 rfl ⟨by decide, by decide⟩ ?_
      refine g_iadd (q := 1983) dL_law_1982 rfl (by constructor <;> omega) ?_
      refine g_istore (q := 1985) dL_law_1983 rfl (Nat.le_of_ble_eq_true rfl) ?_
      refine g_iinc (q := 1988) (i := 37) (n := 1) dL_law_1985 rfl rfl (by constructor <;> omega) ?_
      refine g_goto (q := 0) (t := 1954) dL_law_1988 (by decide) ?_
      exact hnx
theorem lc_cancel (hI : zInv n S) (hn : n < 150) (hK : ∀ U, zInv (n + 1) U → z_G (mLw hh) F (500 * n + 60) 3002 [some (zR 49), some (zR 0), some (zR 7), some (zR 40), some (zR 41), some (zR 42), some (zR 43), some (zR 44), some (zR 48), some (zR 45), some (zR 46), some (zR 47), some (zI (n : Int)), some (zI v), some (zI w), none, none, none, some (zI 1), none, none, none, none, none, none, none, none, none, none, none, none, none, none, none, none, none, none, none, none, none, none, none, none, none, none, none, none, none, none, none] [] U) : z_G (mLw hh) F (500 * n + 10) 1876 [some (zR 49), some (zR 0), some (zR 7), some (zR 40), some (zR 41), some (zR 42), some (zR 43), some (zR 44), some (zR 48), some (zR 45), some (zR 46), some (zR 47), some (zI (n : Int)), some (zI v), some (zI w), some (zI i), some (zI (zdg i)), some (zI f), some (zI 1), none, none, none, none, none, none, none, none, none, none, none, none, none, none, none, none, none, none, none, none, none, none, none, none, none, none, none, none, none, none, none] [] S := by
  have h := hI.1
  have hO := h.yO'
  have hnow := h.now
  have hnr := h.nowr
  have hord := h.ord
  have hor := h.ordr
  obtain ⟨c, ec⟩ : ∃ c, c = (S.1 1).toNat := ⟨_, rfl⟩
  rw [← ec] at hO
  by_cases c0 : S.2.1 47 1 = 0
  · skip
    refine g_aload (q := 1878) dL_law_1876 rfl rfl ?_
    refine g_iconst (q := 1879) dL_law_1878 rfl ⟨by decide, by decide⟩ ?_
    refine g_ildv (q := 1880) (z := S.2.1 47 1) dL_law_1879 rfl ⟨by decide, rfl, rfl⟩ (by omega) (by omega) rfl ?_
    refine g_if_ne (t := 1886) (q := 1883) dL_law_1880 (by decide) rfl (fun h1880 => (False.elim (by omega))) (fun h1880 => ?_)
    refine g_goto (q := 0) (t := 3002) dL_law_1883 (by decide) ?_
    exact g_forget (z_sub_r (z_sub_r (z_sub_r (z_sub_r (z_sub_r (z_sub_r (z_sub_r (z_sub_r (z_sub_r (z_sub_r (z_sub_r (z_sub_r (z_sub_r (z_sub_r (z_sub_r (z_sub_n (z_sub_n (z_sub_n (z_sub_r (z_sub_n (z_sub_n (z_sub_n (z_sub_n (z_sub_n (z_sub_n (z_sub_n (z_sub_n (z_sub_n (z_sub_n (z_sub_n (z_sub_n (z_sub_n (z_sub_n (z_sub_n (z_sub_n (z_sub_n (z_sub_n (z_sub_n (z_sub_n (z_sub_n (z_sub_n (z_sub_n (z_sub_n (z_sub_n (z_sub_n (z_sub_n (z_sub_n (z_sub_n (z_sub_n (z_sub_n z_sub_0)))))))))))))))))))))))))))))))))))))))))))))))))) (z_G.widen (by omega) (hK _ hI.same))
  · have hl := zlow_rng (v := w) (n := S.2.1 47 1) (by omega)
    obtain ⟨a, ea⟩ : ∃ z, z = zlow w (S.2.1 47 1) := ⟨_, rfl⟩
    rw [← ea] at hl
    have qv := h.orv a hl.1 (by omega)
    have qs := h.ors a hl.1 (by omega)
    have k32 : ∀ cn : Int, ((cn = 1 ∧ S.2.1 42 a % 8 = 1 ∧ S.2.1 47 0 + 10 ≤ S.2.1 42 a / 65536) ∨ (cn = 0 ∧ ¬ (S.2.1 42 a % 8 = 1 ∧ S.2.1 47 0 + 10 ≤ S.2.1 42 a / 65536))) → z_G (mLw hh) F (500 * n + 10) 1932 [some (zR 49), some (zR 0), some (zR 7), some (zR 40), some (zR 41), some (zR 42), some (zR 43), some (zR 44), some (zR 48), some (zR 45), some (zR 46), some (zR 47), some (zI (n : Int)), some (zI v), some (zI w), some (zI i), some (zI (zdg i)), some (zI f), some (zI 1), none, none, none, none, none, none, none, none, none, none, none, none, none, none, none, some (zI a), none, none, none, none, none, none, none, none, none, none, none, none, none, none, none] [zI cn] S := by
      intro cn hcn
      rcases hcn with ⟨rfl, g1, g2⟩ | ⟨rfl, g1⟩
      · have hO1 : yO (z_sA S 42 a (S.2.1 42 a + 2)) c := ⟨hO.1, hO.2.1, fun b x y => by
          have := hO.2.2 b x y
          rw [za_sA]
          split <;> omega⟩
        have r1 := (rel_canc h (a := a) ⟨hl.1, by omega⟩ (by omega)).both (U := z_sA (z_sA S 42 a (S.2.1 42 a + 2)) 19 a 3) (zcl_c (zcl_w zcl.rf (by omega))) (zlw_c zlw.rf (by omega))
        have hN : zInv (n + 1) (z_sA (z_sA S 42 a (S.2.1 42 a + 2)) 19 a 3) := hI.next r1 (Int.le_refl _) (by show S.1 3 ≤ S.1 3 + 1 + (S.1 2 - S.1 2); omega) rfl hI.2.2.2
        have ecw : x_cw (z_sA (z_sA S 42 a (S.2.1 42 a + 2)) 19 a 3) c = z_ct (fun b => decide ((z_sA S 42 a (S.2.1 42 a + 2)).2.1 42 b % 8 = 1)) c := by
          unfold x_cw
          refine z_ct_cong (fun b hb => ?_)
          by_cases e : (b : Int) = a
          · rw [e, za_eq, za_eq]
            exact (decide_eq_false (by omega)).trans (decide_eq_false (by omega)).symm
          · have qb := h.ors (b : Int) (by omega) (by omega)
            rw [za_ni e, za_ni e, za_ni e, qb.1]
        have q : z_FnW mL_cancel [zR 0, zI a] (z_sA S 42 a (S.2.1 42 a + 2)) (zI (z_ct (fun b => decide ((z_sA S 42 a (S.2.1 42 a + 2)).2.1 42 b % 8 = 1)) c : Int)) (z_sA (z_sA S 42 a (S.2.1 42 a + 2)) 19 a 3) := by
          have e : o_cancel (z_sA S 42 a (S.2.1 42 a + 2)) c a = (zI? (z_ct (fun b => decide ((z_sA S 42 a (S.2.1 42 a + 2)).2.1 42 b % 8 = 1)) c : Int), z_sA (z_sA S 42 a (S.2.1 42 a + 2)) 19 a 3) := by
            unfold o_cancel
            rw [ecw]
            refine (if_neg ?_).trans (if_neg ?_)
            · show ¬ ¬ (0 ≤ a ∧ a < S.1 1)
              omega
            · show ¬ (¬ S.2.1 19 a = 1 ∨ S.2.1 24 a - S.1 0 < 10)
              omega
          refine w_ok (w_cancel (c_cancel (by show S.1 1 = _; omega) (by omega) h.nowr (fun b x y => ?_)) (z_shk e)) e
          have qb := h.ors b x (by omega)
          have qbv := h.orv b x (by omega)
          show 0 ≤ S.2.1 24 b ∧ S.2.1 24 b ≤ 20000
          omega
        have k91 : z_G (mLw hh) F (500 * n + 10) 1991 [some (zR 49), some (zR 0), some (zR 7), some (zR 40), some (zR 41), some (zR 42), some (zR 43), some (zR 44), some (zR 48), some (zR 45), some (zR 46), some (zR 47), some (zI (n : Int)), some (zI v), some (zI w), some (zI i), some (zI (zdg i)), some (zI f), some (zI 1), none, none, none, none, none, none, none, none, none, none, none, none, none, none, none, some (zI a), some (zI 1), some (zI (z_ct (fun b => decide ((z_sA S 42 a (S.2.1 42 a + 2)).2.1 42 b % 8 = 1)) c : Int)), none, none, none, none, none, none, none, none, none, none, none, none, none] [] (z_sA S 42 a (S.2.1 42 a + 2)) := by
          obtain ⟨cc, ecc⟩ : ∃ z : Int, z = (z_ct (fun b => decide ((z_sA S 42 a (S.2.1 42 a + 2)).2.1 42 b % 8 = 1)) c : Int) := ⟨_, rfl⟩
          rw [← ecc] at q ⊢
          refine g_aload_n (i := 1) (q := 1992) dL_law_1991 rfl rfl rfl ?_
          refine g_iload (q := 1994) dL_law_1992 rfl rfl ?_
          refine g_fnW (as := [zR 0, zI a]) (q := 1997) (u' := 500 * n + 12) dL_law_1994 rfl ck_L_215 rfl rfl (Nat.le_of_ble_eq_true rfl) ⟨Nat.le_of_ble_eq_true rfl, Nat.le_of_ble_eq_true rfl⟩ rfl (show 500 * n + 12 ≤ 100000 by omega) (q) ?_
          refine g_iload (q := 1999) dL_law_1997 rfl rfl ?_
          refine g_if_eq (t := 2007) (q := 2002) dL_law_1999 (by decide) rfl (fun h1999 => (False.elim (by omega))) (fun h1999 => ?_)
          refine g_iload (q := 2004) dL_law_2002 rfl rfl ?_
          refine g_goto (q := 0) (t := 2010) dL_law_2004 (by decide) ?_
          refine g_icmp_ne (t := 2017) (q := 2013) dL_law_2010 (by decide) rfl (fun h2010 => (False.elim (by omega))) (fun h2010 => ?_)
          refine g_iconst (q := 2014) dL_law_2013 rfl ⟨by decide, by decide⟩ ?_
          refine g_goto (q := 0) (t := 2018) dL_law_2014 (by decide) ?_
          refine g_istore (q := 2020) dL_law_2018 rfl (Nat.le_of_ble_eq_true rfl) ?_
          refine g_goto (q := 0) (t := 3002) dL_law_2020 (by decide) ?_
          exact g_forget (z_sub_r (z_sub_r (z_sub_r (z_sub_r (z_sub_r (z_sub_r (z_sub_r (z_sub_r (z_sub_r (z_sub_r (z_sub_r (z_sub_r (z_sub_r (z_sub_r (z_sub_r (z_sub_n (z_sub_n (z_sub_n (z_sub_r (z_sub_n (z_sub_n (z_sub_n (z_sub_n (z_sub_n (z_sub_n (z_sub_n (z_sub_n (z_sub_n (z_sub_n (z_sub_n (z_sub_n (z_sub_n (z_sub_n (z_sub_n (z_sub_n (z_sub_n (z_sub_n (z_sub_n (z_sub_n (z_sub_n (z_sub_n (z_sub_n (z_sub_n (z_sub_n (z_sub_n (z_sub_n (z_sub_n (z_sub_n (z_sub_n (z_sub_n z_sub_0)))))))))))))))))))))))))))))))))))))))))))))))))) (z_G.widen (by omega) (hK _ hN))
        have k54 := lc_wait hO1 hn k91 c 0 (by omega)
        refine g_istore (q := 1934) dL_law_1932 rfl (Nat.le_of_ble_eq_true rfl) ?_
        refine g_iload (q := 1936) dL_law_1934 rfl rfl ?_
        refine g_if_eq (t := 1948) (q := 1939) dL_law_1936 (by decide) rfl (fun h1936 => (False.elim (by omega))) (fun h1936 => ?_)
        refine g_aload (q := 1941) dL_law_1939 rfl rfl ?_
        refine g_iload (q := 1943) dL_law_1941 rfl rfl ?_
        refine g_dup2 (q := 1944) dL_law_1943 rfl trivial trivial ?_
        refine g_ildv (q := 1945) (z := S.2.1 42 a) dL_law_1944 rfl ⟨by decide, rfl, rfl⟩ (by omega) (by omega) rfl ?_
        refine g_iconst (q := 1946) dL_law_1945 rfl ⟨by decide, by decide⟩ ?_
        refine g_iadd (q := 1947) dL_law_1946 rfl (by constructor <;> omega) ?_
        refine g_iast (q := 1948) dL_law_1947 rfl ⟨by decide, rfl, rfl⟩ (by omega) (by omega) ?_
        refine g_iconst (q := 1949) dL_law_1948 rfl ⟨by decide, by decide⟩ ?_
        refine g_istore (q := 1951) dL_law_1949 rfl (Nat.le_of_ble_eq_true rfl) ?_
        refine g_iconst (q := 1952) dL_law_1951 rfl ⟨by decide, by decide⟩ ?_
        refine g_istore (q := 1954) dL_law_1952 rfl (Nat.le_of_ble_eq_true rfl) ?_
        exact k54
      · have q : z_FnW mL_cancel [zR 0, zI a] S (zI (-7300)) S := by
          have e : o_cancel S c a = (.error xS, S) := by
            unfold o_cancel
            exact (if_neg (by omega)).trans (if_pos (by omega))
          refine w_er (w_cancel (c_cancel (by omega) (by omega) h.nowr (fun b x y => ?_)) (z_she e (by decide +kernel))) e (by decide +kernel)
          have qb := h.ors b x (by omega)
          have qbv := h.orv b x (by omega)
          omega
        have k91 : z_G (mLw hh) F (500 * n + 10) 1991 [some (zR 49), some (zR 0), some (zR 7), some (zR 40), some (zR 41), some (zR 42), some (zR 43), some (zR 44), some (zR 48), some (zR 45), some (zR 46), some (zR 47), some (zI (n : Int)), some (zI v), some (zI w), some (zI i), some (zI (zdg i)), some (zI f), some (zI 1), none, none, none, none, none, none, none, none, none, none, none, none, none, none, none, some (zI a), some (zI 0), some (zI (z_ct (fun b => decide (S.2.1 42 b % 8 = 1)) c : Int)), none, none, none, none, none, none, none, none, none, none, none, none, none] [] S := by
          obtain ⟨cc, ecc⟩ : ∃ z : Int, z = (z_ct (fun b => decide (S.2.1 42 b % 8 = 1)) c : Int) := ⟨_, rfl⟩
          rw [← ecc]
          refine g_aload_n (i := 1) (q := 1992) dL_law_1991 rfl rfl rfl ?_
          refine g_iload (q := 1994) dL_law_1992 rfl rfl ?_
          refine g_fnW (as := [zR 0, zI a]) (q := 1997) (u' := 500 * n + 12) dL_law_1994 rfl ck_L_215 rfl rfl (Nat.le_of_ble_eq_true rfl) ⟨Nat.le_of_ble_eq_true rfl, Nat.le_of_ble_eq_true rfl⟩ rfl (show 500 * n + 12 ≤ 100000 by omega) (q) ?_
          refine g_iload (q := 1999) dL_law_1997 rfl rfl ?_
          refine g_if_eq (t := 2007) (q := 2002) dL_law_1999 (by decide) rfl (fun h1999 => ?_) (fun h1999 => (False.elim (by omega)))
          refine g_sipush (q := 2010) dL_law_2007 rfl ⟨by decide, by decide⟩ (by decide) ?_
          refine g_icmp_ne (t := 2017) (q := 2013) dL_law_2010 (by decide) rfl (fun h2010 => (False.elim (by omega))) (fun h2010 => ?_)
          refine g_iconst (q := 2014) dL_law_2013 rfl ⟨by decide, by decide⟩ ?_
          refine g_goto (q := 0) (t := 2018) dL_law_2014 (by decide) ?_
          refine g_istore (q := 2020) dL_law_2018 rfl (Nat.le_of_ble_eq_true rfl) ?_
          refine g_goto (q := 0) (t := 3002) dL_law_2020 (by decide) ?_
          exact g_forget (z_sub_r (z_sub_r (z_sub_r (z_sub_r (z_sub_r (z_sub_r (z_sub_r (z_sub_r (z_sub_r (z_sub_r (z_sub_r (z_sub_r (z_sub_r (z_sub_r (z_sub_r (z_sub_n (z_sub_n (z_sub_n (z_sub_r (z_sub_n (z_sub_n (z_sub_n (z_sub_n (z_sub_n (z_sub_n (z_sub_n (z_sub_n (z_sub_n (z_sub_n (z_sub_n (z_sub_n (z_sub_n (z_sub_n (z_sub_n (z_sub_n (z_sub_n (z_sub_n (z_sub_n (z_sub_n (z_sub_n (z_sub_n (z_sub_n (z_sub_n (z_sub_n (z_sub_n (z_sub_n (z_sub_n (z_sub_n (z_sub_n (z_sub_n z_sub_0)))))))))))))))))))))))))))))))))))))))))))))))))) (z_G.widen (by omega) (hK _ hI.same))
        have k54 := lc_wait hO hn k91 c 0 (by omega)
        refine g_istore (q := 1934) dL_law_1932 rfl (Nat.le_of_ble_eq_true rfl) ?_
        refine g_iload (q := 1936) dL_law_1934 rfl rfl ?_
        refine g_if_eq (t := 1948) (q := 1939) dL_law_1936 (by decide) rfl (fun h1936 => ?_) (fun h1936 => (False.elim (by omega)))
        refine g_iconst (q := 1949) dL_law_1948 rfl ⟨by decide, by decide⟩ ?_
        refine g_istore (q := 1951) dL_law_1949 rfl (Nat.le_of_ble_eq_true rfl) ?_
        refine g_iconst (q := 1952) dL_law_1951 rfl ⟨by decide, by decide⟩ ?_
        refine g_istore (q := 1954) dL_law_1952 rfl (Nat.le_of_ble_eq_true rfl) ?_
        exact k54
    rw [ea] at k32 hl qv qs
    refine g_aload (q := 1878) dL_law_1876 rfl rfl ?_
    refine g_iconst (q := 1879) dL_law_1878 rfl ⟨by decide, by decide⟩ ?_
    refine g_ildv (q := 1880) (z := S.2.1 47 1) dL_law_1879 rfl ⟨by decide, rfl, rfl⟩ (by omega) (by omega) rfl ?_
    refine g_if_ne (t := 1886) (q := 1883) dL_law_1880 (by decide) rfl (fun h1880 => ?_) (fun h1880 => (False.elim (by omega)))
    refine g_iload (q := 1888) dL_law_1886 rfl rfl ?_
    refine g_aload (q := 1890) dL_law_1888 rfl rfl ?_
    refine g_iconst (q := 1891) dL_law_1890 rfl ⟨by decide, by decide⟩ ?_
    refine g_ildv (q := 1892) (z := S.2.1 47 1) dL_law_1891 rfl ⟨by decide, rfl, rfl⟩ (by omega) (by omega) rfl ?_
    refine g_fnS (as := [zI w, zI (S.2.1 47 1)]) (q := 1895) (u' := 500 * n + 10) dL_law_1892 rfl ck_L_125 rfl rfl (Nat.le_of_ble_eq_true rfl) ⟨Nat.le_of_ble_eq_true rfl, Nat.le_of_ble_eq_true rfl⟩ rfl (show 500 * n + 10 ≤ 100000 by omega) (s_L_low (by omega)) rfl ?_
    refine g_istore (q := 1897) dL_law_1895 rfl (Nat.le_of_ble_eq_true rfl) ?_
    refine g_aload (q := 1899) dL_law_1897 rfl rfl ?_
    refine g_iload (q := 1901) dL_law_1899 rfl rfl ?_
    refine g_ildv (q := 1902) (z := S.2.1 42 (zlow w (S.2.1 47 1))) dL_law_1901 rfl ⟨by decide, rfl, rfl⟩ (by omega) (by omega) rfl ?_
    refine g_fnS (as := [zI (S.2.1 42 (zlow w (S.2.1 47 1)))]) (q := 1905) (u' := 500 * n + 10) dL_law_1902 rfl ck_L_96 rfl rfl (Nat.le_of_ble_eq_true rfl) ⟨Nat.le_of_ble_eq_true rfl, Nat.le_of_ble_eq_true rfl⟩ rfl (show 500 * n + 10 ≤ 100000 by omega) (s_L_state (by omega)) rfl ?_
    refine g_iconst (q := 1906) dL_law_1905 rfl ⟨by decide, by decide⟩ ?_
    refine g_icmp_ne (t := 1931) (q := 1909) dL_law_1906 (by decide) rfl (fun h1906 => ?_) (fun h1906 => ?_)
    · refine g_iconst (q := 1932) dL_law_1931 rfl ⟨by decide, by decide⟩ ?_
      exact k32 _ (by omega)
    · refine g_aload (q := 1911) dL_law_1909 rfl rfl ?_
      refine g_iload (q := 1913) dL_law_1911 rfl rfl ?_
      refine g_ildv (q := 1914) (z := S.2.1 42 (zlow w (S.2.1 47 1))) dL_law_1913 rfl ⟨by decide, rfl, rfl⟩ (by omega) (by omega) rfl ?_
      refine g_fnS (as := [zI (S.2.1 42 (zlow w (S.2.1 47 1)))]) (q := 1917) (u' := 500 * n + 10) dL_law_1914 rfl ck_L_101 rfl rfl (Nat.le_of_ble_eq_true rfl) ⟨Nat.le_of_ble_eq_true rfl, Nat.le_of_ble_eq_true rfl⟩ rfl (show 500 * n + 10 ≤ 100000 by omega) (s_L_minute (by omega)) rfl ?_
      refine g_aload (q := 1919) dL_law_1917 rfl rfl ?_
      refine g_iconst (q := 1920) dL_law_1919 rfl ⟨by decide, by decide⟩ ?_
      refine g_ildv (q := 1921) (z := S.2.1 47 0) dL_law_1920 rfl ⟨by decide, rfl, rfl⟩ (by omega) (by omega) rfl ?_
      refine g_bipush (q := 1923) dL_law_1921 rfl ⟨by decide, by decide⟩ (by decide) ?_
      refine g_iadd (q := 1924) dL_law_1923 rfl (by constructor <;> omega) ?_
      refine g_icmp_lt (t := 1931) (q := 1927) dL_law_1924 (by decide) rfl (fun h1924 => ?_) (fun h1924 => ?_)
      · refine g_iconst (q := 1932) dL_law_1931 rfl ⟨by decide, by decide⟩ ?_
        exact k32 _ (by omega)
      · refine g_iconst (q := 1928) dL_law_1927 rfl ⟨by decide, by decide⟩ ?_
        refine g_goto (q := 0) (t := 1932) dL_law_1928 (by decide) ?_
        exact k32 _ (by omega)
end
