/-! ===== the law's cases: ends of contracts, corrections, blocks back, orders ===== -/
theorem lk_178 : Cond.constant RL 178 (Int32.ofInt (4194304)) ∈ z_big := z_big_of (by decide +kernel) rfl
theorem lk_191 : Cond.constant RL 191 (Int32.ofInt (1572864)) ∈ z_big := z_big_of (by decide +kernel) rfl
theorem lk_223 : Cond.constant RL 223 (Int32.ofInt (65535)) ∈ z_big := z_big_of (by decide +kernel) rfl
theorem lk_224 : Cond.constant RL 224 (Int32.ofInt (-57345)) ∈ z_big := z_big_of (by decide +kernel) rfl
theorem lk_179 : Cond.constantLong RL 179 (Int64.ofInt (6)) ∈ z_big := z_big_of (by decide +kernel) rfl
theorem lk_108 : Cond.constantLong RL 108 (Int64.ofInt (7)) ∈ z_big := z_big_of (by decide +kernel) rfl
theorem lk_172 : Cond.constantLong RL 172 (Int64.ofInt (15)) ∈ z_big := z_big_of (by decide +kernel) rfl
theorem yO.cong {T U : zS} {c : Nat} (h : yO T c) (e1 : U.2.1 47 1 = T.2.1 47 1) (e2 : U.2.1 42 = T.2.1 42) : yO U c := ⟨e1.trans h.1, h.2.1, fun a x y => by rw [e2]; exact h.2.2 a x y⟩
theorem zlw_note {U Y : zS} {b n x : Int} (h : zlw U Y) : zlw (x_note U b n x) Y := zlw_s (zlw_c (zlw_c (zlw_c h (by omega)) (by omega)) (by omega))
theorem zlw_chg {U Y : zS} {m n p : Int} (h : zlw U Y) : zlw (x_chg U m n p) Y := zlw_s (zlw_c (zlw_c (zlw_c h (by omega)) (by omega)) (by omega))
theorem zlw_en {S : zS} {n : Int} {c : Nat} : zlw (x_en S n c) S := by
  have h1 : zlw (x_note (x_fin S n (S.1 0)) 0 n (-1)) S := zlw_note (zlw_c (zlw_c (zlw_c (zlw_c (zlw_c zlw.rf (by omega)) (by omega)) (by omega)) (by omega)) (by omega))
  have h2 : zlw (x_cf (x_note (x_fin S n (S.1 0)) 0 n (-1)) n c) S := by
    unfold x_cf
    split
    · exact zlw_c h1 (by omega)
    · exact h1
  unfold x_en
  split
  · exact h2
  · exact zlw_chg h2
theorem x_en_sc {S : zS} {n : Int} {c : Nat} : (x_en S n c).1 3 = S.1 3 + 1 ∧ (S.1 2 ≤ (x_en S n c).1 2 ∧ (x_en S n c).1 2 ≤ S.1 2 + 1) ∧ (x_en S n c).2.1 12 = S.2.1 12 := by
  have f := x_cf_fr (S := x_note (x_fin S n (S.1 0)) 0 n (-1)) (n := n) (c := c)
  have f3 : (x_cf (x_note (x_fin S n (S.1 0)) 0 n (-1)) n c).1 3 = S.1 3 + 1 := by rw [f.1]; rfl
  have f2 : (x_cf (x_note (x_fin S n (S.1 0)) 0 n (-1)) n c).1 2 = S.1 2 := by rw [f.1]; rfl
  have f12 : (x_cf (x_note (x_fin S n (S.1 0)) 0 n (-1)) n c).2.1 12 = S.2.1 12 := by
    funext j
    rw [f.2.1 12 j (by omega)]
    rfl
  unfold x_en
  split
  · exact ⟨f3, by omega, f12⟩
  · refine ⟨f3, ?_, f12⟩
    show S.1 2 ≤ (x_cf (x_note (x_fin S n (S.1 0)) 0 n (-1)) n c).1 2 + 1 ∧ (x_cf (x_note (x_fin S n (S.1 0)) 0 n (-1)) n c).1 2 + 1 ≤ S.1 2 + 1
    omega
section
variable {hh : List (Nat × Nat × Nat × Nat)} {F : zF} {n : Nat} {S : zS} {v w i f : Int}
theorem lc_end (hI : zInv n S) (hg : S.1 2 < 46) (hn : n < 150) (hi : 0 ≤ i ∧ i < 12) (hK : ∀ U, zInv (n + 1) U → z_G (mLw hh) F (500 * n + 60) 3002 [some (zR 49), some (zR 0), some (zR 7), some (zR 40), some (zR 41), some (zR 42), some (zR 43), some (zR 44), some (zR 48), some (zR 45), some (zR 46), some (zR 47), some (zI (n : Int)), some (zI v), some (zI w), none, none, none, some (zI 1), none, none, none, none, none, none, none, none, none, none, none, none, none, none, none, none, none, none, none, none, none, none, none, none, none, none, none, none, none, none, none] [] U) : z_G (mLw hh) F (500 * n + 10) 629 [some (zR 49), some (zR 0), some (zR 7), some (zR 40), some (zR 41), some (zR 42), some (zR 43), some (zR 44), some (zR 48), some (zR 45), some (zR 46), some (zR 47), some (zI (n : Int)), some (zI v), some (zI w), some (zI i), some (zI (zdg i)), some (zI f), some (zI 1), none, none, none, none, none, none, none, none, none, none, none, none, none, none, none, none, none, none, none, none, none, none, none, none, none, none, none, none, none, none, none] [] S := by
  have h := hI.1
  have h3 : S.1 3 < 572 := by have := hI.2.2; omega
  have hO := h.yO'
  have hnow := h.now
  have hnr := h.nowr
  have hcr := h.chgr
  have hcg := h.chg
  have hs := h.serv i hi.1 hi.2
  obtain ⟨c, ec⟩ : ∃ c, c = (S.1 1).toNat := ⟨_, rfl⟩
  rw [← ec] at hO
  have k0 : z_G (mLw hh) F (500 * n + 10) 640 [some (zR 49), some (zR 0), some (zR 7), some (zR 40), some (zR 41), some (zR 42), some (zR 43), some (zR 44), some (zR 48), some (zR 45), some (zR 46), some (zR 47), some (zI (n : Int)), some (zI v), some (zI w), some (zI i), some (zI (zdg i)), some (zI f), some (zI 1), none, none, none, none, none, none, none, none, none, none, none, none, none, none, none, none, none, none, none, none, none, none, none, none, none, none, none, none, none, none, none] [] S := by
    by_cases c1 : S.2.1 40 i = -1
    · have q := q_end_ex h (by omega) h3 hi c1
      refine g_aload_n (i := 1) (q := 641) dL_law_640 rfl rfl rfl ?_
      refine g_iload (q := 643) dL_law_641 rfl rfl ?_
      refine g_fnW (as := [zR 0, zI (zdg i)]) (q := 646) (u' := 500 * n + 12) dL_law_643 rfl ck_L_189 rfl rfl (Nat.le_of_ble_eq_true rfl) ⟨Nat.le_of_ble_eq_true rfl, Nat.le_of_ble_eq_true rfl⟩ rfl (show 500 * n + 12 ≤ 100000 by omega) (q) ?_
      refine g_aload_n (i := 3) (q := 647) dL_law_646 rfl rfl rfl ?_
      refine g_iload (q := 649) dL_law_647 rfl rfl ?_
      refine g_ildv (q := 650) (z := S.2.1 40 i) dL_law_649 rfl ⟨by decide, rfl, rfl⟩ (by omega) (by omega) rfl ?_
      refine g_iconst (q := 651) dL_law_650 rfl ⟨by decide, by decide⟩ ?_
      refine g_icmp_ne (t := 660) (q := 654) dL_law_651 (by decide) rfl (fun h651 => (False.elim (by omega))) (fun h651 => ?_)
      refine g_sipush (q := 657) dL_law_654 rfl ⟨by decide, by decide⟩ (by decide) ?_
      refine g_goto (q := 0) (t := 664) dL_law_657 (by decide) ?_
      refine g_icmp_ne (t := 671) (q := 667) dL_law_664 (by decide) rfl (fun h664 => (False.elim (by omega))) (fun h664 => ?_)
      refine g_iconst (q := 668) dL_law_667 rfl ⟨by decide, by decide⟩ ?_
      refine g_goto (q := 0) (t := 672) dL_law_668 (by decide) ?_
      refine g_istore (q := 674) dL_law_672 rfl (Nat.le_of_ble_eq_true rfl) ?_
      refine g_aload_n (i := 3) (q := 675) dL_law_674 rfl rfl rfl ?_
      refine g_iload (q := 677) dL_law_675 rfl rfl ?_
      refine g_ildv (q := 678) (z := S.2.1 40 i) dL_law_677 rfl ⟨by decide, rfl, rfl⟩ (by omega) (by omega) rfl ?_
      refine g_iconst (q := 679) dL_law_678 rfl ⟨by decide, by decide⟩ ?_
      refine g_icmp_ne (t := 685) (q := 682) dL_law_679 (by decide) rfl (fun h679 => (False.elim (by omega))) (fun h679 => ?_)
      refine g_goto (q := 0) (t := 3002) dL_law_682 (by decide) ?_
      exact g_forget (z_sub_r (z_sub_r (z_sub_r (z_sub_r (z_sub_r (z_sub_r (z_sub_r (z_sub_r (z_sub_r (z_sub_r (z_sub_r (z_sub_r (z_sub_r (z_sub_r (z_sub_r (z_sub_n (z_sub_n (z_sub_n (z_sub_r (z_sub_n (z_sub_n (z_sub_n (z_sub_n (z_sub_n (z_sub_n (z_sub_n (z_sub_n (z_sub_n (z_sub_n (z_sub_n (z_sub_n (z_sub_n (z_sub_n (z_sub_n (z_sub_n (z_sub_n (z_sub_n (z_sub_n (z_sub_n (z_sub_n (z_sub_n (z_sub_n (z_sub_n (z_sub_n (z_sub_n (z_sub_n (z_sub_n (z_sub_n (z_sub_n (z_sub_n z_sub_0)))))))))))))))))))))))))))))))))))))))))))))))))) (z_G.widen (by omega) (hK _ hI.same))
    · have q := q_end_ok h (by omega) h3 hi c1
      have hlw := zlw_en (S := S) (n := zdg i) (c := (S.1 1).toNat)
      have hsc := x_en_sc (S := S) (n := zdg i) (c := (S.1 1).toNat)
      have hre := rel_en h hi
      rw [← ec] at q hlw hsc hre
      obtain ⟨X, eX⟩ : ∃ X, X = x_en S (zdg i) c := ⟨_, rfl⟩
      rw [← eX] at q hlw hsc hre
      have e40 : ∀ j, X.2.1 40 j = S.2.1 40 j := fun j => congrFun (hlw.1 40 (by omega)) j
      have e7 : ∀ j, X.2.1 7 j = S.2.1 7 j := fun j => congrFun (hlw.1 7 (by omega)) j
      have e47 : ∀ j, X.2.1 47 j = S.2.1 47 j := fun j => congrFun (hlw.1 47 (by omega)) j
      have k723 : ∀ W T' : zS, W.1 = X.1 → zcl W X → zlw W T' → T'.2.1 42 = S.2.1 42 → T'.2.1 47 0 = S.2.1 47 0 → T'.2.1 47 1 = S.2.1 47 1 → W.2.1 12 = X.2.1 12 → Rel X (y_cf (y_fin T' i) i c) → z_G (mLw hh) F (500 * n + 12) 723 [some (zR 49), some (zR 0), some (zR 7), some (zR 40), some (zR 41), some (zR 42), some (zR 43), some (zR 44), some (zR 48), some (zR 45), some (zR 46), some (zR 47), some (zI (n : Int)), some (zI v), some (zI w), some (zI i), some (zI (zdg i)), some (zI f), some (zI 1), none, none, none, none, none, none, none, none, none, none, none, none, none, none, none, none, none, none, none, none, none, none, none, none, none, none, none, none, none, none, none] [] W := by
        intro W T' es hc hl t1 t2 t3 e12 hR
        have w47 : ∀ j, W.2.1 47 j = T'.2.1 47 j := fun j => congrFun (hl.1 47 (by omega)) j
        have w42 : ∀ j, W.2.1 42 j = S.2.1 42 j := fun j => (congrFun (hl.1 42 (by omega)) j).trans (congrFun t1 j)
        have w0 : W.2.1 47 0 = S.2.1 47 0 := (w47 0).trans t2
        obtain ⟨W1, eW1⟩ : ∃ W1, W1 = z_sA (z_sA (z_sA (z_sA W 40 i (-1)) 40 (24 + i) (S.2.1 47 0 + 99)) 40 (36 + i) (-1)) 40 (48 + i) (-1) := ⟨_, rfl⟩
        have hl1 : zlw W1 (y_fin T' i) := by
          rw [eW1]
          unfold y_fin
          rw [t2]
          exact zlw_w (zlw_w (zlw_w (zlw_w hl)))
        have hc1 : zcl W1 X := by
          rw [eW1]
          exact zcl_w (zcl_w (zcl_w (zcl_w hc (by omega)) (by omega)) (by omega)) (by omega)
        have hO1 : yO W1 c := hO.cong (by rw [eW1]; exact (w47 1).trans t3) (by rw [eW1]; exact funext w42)
        have x42 : ∀ j, W1.2.1 42 j = S.2.1 42 j := fun j => by rw [eW1]; exact w42 j
        have hsp := s_L_waits (n := i) hO1
        rw [y_wt_cong (S := S) (U := W1) (funext x42)] at hsp
        have sc : W1.1 = X.1 := by rw [eW1]; exact es
        have x12 : W1.2.1 12 = X.2.1 12 := by rw [eW1]; exact e12
        unfold y_cf at hR
        rw [y_wt_cong (S := S) (U := y_fin T' i) (by unfold y_fin; exact t1)] at hR
        have hN : ∀ U : zS, U.1 = X.1 → U.2.1 12 = X.2.1 12 → Rel U U → zInv (n + 1) U := by
          intro U u1 u12 hU
          exact hI.next hU (by rw [u1]; exact hsc.2.1.1) (by rw [u1]; omega) (by rw [u12]; exact hsc.2.2) (by rw [u1]; omega)
        cases ew : y_wt S i c with
        | none =>
          rw [ew] at hsp hR
          rw [show z_on none = -1 from rfl] at hsp
          have hr : Rel W1 W1 := Rel.both hR hc1 hl1
          have hfin := hK _ (hN W1 sc x12 hr)
          rw [eW1] at hsp hfin
          refine g_aload_n (i := 3) (q := 724) dL_law_723 rfl rfl rfl ?_
          refine g_iload (q := 726) dL_law_724 rfl rfl ?_
          refine g_iconst (q := 727) dL_law_726 rfl ⟨by decide, by decide⟩ ?_
          refine g_iast (q := 728) dL_law_727 rfl ⟨by decide, rfl, rfl⟩ (by omega) (by omega) ?_
          refine g_aload_n (i := 3) (q := 729) dL_law_728 rfl rfl rfl ?_
          refine g_bipush (q := 731) dL_law_729 rfl ⟨by decide, by decide⟩ (by decide) ?_
          refine g_iload (q := 733) dL_law_731 rfl rfl ?_
          refine g_iadd (q := 734) dL_law_733 rfl (by constructor <;> omega) ?_
          refine g_aload (q := 736) dL_law_734 rfl rfl ?_
          refine g_iconst (q := 737) dL_law_736 rfl ⟨by decide, by decide⟩ ?_
          refine g_ildv (q := 738) (z := S.2.1 47 0) dL_law_737 rfl ⟨by decide, rfl, rfl⟩ (by omega) (by omega) w0 ?_
          refine g_bipush (q := 740) dL_law_738 rfl ⟨by decide, by decide⟩ (by decide) ?_
          refine g_iadd (q := 741) dL_law_740 rfl (by constructor <;> omega) ?_
          refine g_iast (q := 742) dL_law_741 rfl ⟨by decide, rfl, rfl⟩ (by omega) (by omega) ?_
          refine g_aload_n (i := 3) (q := 743) dL_law_742 rfl rfl rfl ?_
          refine g_bipush (q := 745) dL_law_743 rfl ⟨by decide, by decide⟩ (by decide) ?_
          refine g_iload (q := 747) dL_law_745 rfl rfl ?_
          refine g_iadd (q := 748) dL_law_747 rfl (by constructor <;> omega) ?_
          refine g_iconst (q := 749) dL_law_748 rfl ⟨by decide, by decide⟩ ?_
          refine g_iast (q := 750) dL_law_749 rfl ⟨by decide, rfl, rfl⟩ (by omega) (by omega) ?_
          refine g_aload_n (i := 3) (q := 751) dL_law_750 rfl rfl rfl ?_
          refine g_bipush (q := 753) dL_law_751 rfl ⟨by decide, by decide⟩ (by decide) ?_
          refine g_iload (q := 755) dL_law_753 rfl rfl ?_
          refine g_iadd (q := 756) dL_law_755 rfl (by constructor <;> omega) ?_
          refine g_iconst (q := 757) dL_law_756 rfl ⟨by decide, by decide⟩ ?_
          refine g_iast (q := 758) dL_law_757 rfl ⟨by decide, rfl, rfl⟩ (by omega) (by omega) ?_
          refine g_iload (q := 760) dL_law_758 rfl rfl ?_
          refine g_aload (q := 762) dL_law_760 rfl rfl ?_
          refine g_aload (q := 764) dL_law_762 rfl rfl ?_
          refine g_fnS (as := [zI i, zR 42, zR 47]) (q := 767) (u' := 500 * n + 12) dL_law_764 rfl ck_L_142 rfl rfl (Nat.le_of_ble_eq_true rfl) ⟨Nat.le_of_ble_eq_true rfl, Nat.le_of_ble_eq_true rfl⟩ rfl (show 500 * n + 12 ≤ 100000 by omega) (hsp) rfl ?_
          refine g_istore (q := 769) dL_law_767 rfl (Nat.le_of_ble_eq_true rfl) ?_
          refine g_iload (q := 771) dL_law_769 rfl rfl ?_
          refine g_iconst (q := 772) dL_law_771 rfl ⟨by decide, by decide⟩ ?_
          refine g_icmp_eq (t := 3002) (q := 775) dL_law_772 (by decide) rfl (fun h772 => ?_) (fun h772 => (False.elim (by omega)))
          exact g_forget (z_sub_r (z_sub_r (z_sub_r (z_sub_r (z_sub_r (z_sub_r (z_sub_r (z_sub_r (z_sub_r (z_sub_r (z_sub_r (z_sub_r (z_sub_r (z_sub_r (z_sub_r (z_sub_n (z_sub_n (z_sub_n (z_sub_r (z_sub_n (z_sub_n (z_sub_n (z_sub_n (z_sub_n (z_sub_n (z_sub_n (z_sub_n (z_sub_n (z_sub_n (z_sub_n (z_sub_n (z_sub_n (z_sub_n (z_sub_n (z_sub_n (z_sub_n (z_sub_n (z_sub_n (z_sub_n (z_sub_n (z_sub_n (z_sub_n (z_sub_n (z_sub_n (z_sub_n (z_sub_n (z_sub_n (z_sub_n (z_sub_n (z_sub_n z_sub_0)))))))))))))))))))))))))))))))))))))))))))))))))) (z_G.widen (by omega) hfin)
        | some k =>
          rw [ew] at hsp hR
          rw [show z_on (some k) = (k : Int) from rfl] at hsp
          have hk := z_first_some _ _ _ ew
          have hkc := hO.2.1
          have ho := hO.2.2 (k : Int) (by omega) (by omega)
          have y42 : (y_fin T' i).2.1 42 (k : Int) = S.2.1 42 (k : Int) := congrFun t1 _
          have hR2 : Rel X (z_sA (y_fin T' i) 42 (k : Int) (S.2.1 42 (k : Int) + 2)) := by rw [← y42]; exact hR
          have hr : Rel (z_sA W1 42 (k : Int) (S.2.1 42 (k : Int) + 2)) (z_sA W1 42 (k : Int) (S.2.1 42 (k : Int) + 2)) := Rel.both hR2 (zcl_w hc1 (by omega)) (zlw_w hl1)
          have hov := h.orv (k : Int) (by omega) (by omega)
          have hfin := hK _ (hN (z_sA W1 42 (k : Int) (S.2.1 42 (k : Int) + 2)) sc x12 hr)
          have xk := x42 (k : Int)
          rw [eW1] at hsp hfin xk
          refine g_aload_n (i := 3) (q := 724) dL_law_723 rfl rfl rfl ?_
          refine g_iload (q := 726) dL_law_724 rfl rfl ?_
          refine g_iconst (q := 727) dL_law_726 rfl ⟨by decide, by decide⟩ ?_
          refine g_iast (q := 728) dL_law_727 rfl ⟨by decide, rfl, rfl⟩ (by omega) (by omega) ?_
          refine g_aload_n (i := 3) (q := 729) dL_law_728 rfl rfl rfl ?_
          refine g_bipush (q := 731) dL_law_729 rfl ⟨by decide, by decide⟩ (by decide) ?_
          refine g_iload (q := 733) dL_law_731 rfl rfl ?_
          refine g_iadd (q := 734) dL_law_733 rfl (by constructor <;> omega) ?_
          refine g_aload (q := 736) dL_law_734 rfl rfl ?_
          refine g_iconst (q := 737) dL_law_736 rfl ⟨by decide, by decide⟩ ?_
          refine g_ildv (q := 738) (z := S.2.1 47 0) dL_law_737 rfl ⟨by decide, rfl, rfl⟩ (by omega) (by omega) w0 ?_
          refine g_bipush (q := 740) dL_law_738 rfl ⟨by decide, by decide⟩ (by decide) ?_
          refine g_iadd (q := 741) dL_law_740 rfl (by constructor <;> omega) ?_
          refine g_iast (q := 742) dL_law_741 rfl ⟨by decide, rfl, rfl⟩ (by omega) (by omega) ?_
          refine g_aload_n (i := 3) (q := 743) dL_law_742 rfl rfl rfl ?_
          refine g_bipush (q := 745) dL_law_743 rfl ⟨by decide, by decide⟩ (by decide) ?_
          refine g_iload (q := 747) dL_law_745 rfl rfl ?_
          refine g_iadd (q := 748) dL_law_747 rfl (by constructor <;> omega) ?_
          refine g_iconst (q := 749) dL_law_748 rfl ⟨by decide, by decide⟩ ?_
          refine g_iast (q := 750) dL_law_749 rfl ⟨by decide, rfl, rfl⟩ (by omega) (by omega) ?_
          refine g_aload_n (i := 3) (q := 751) dL_law_750 rfl rfl rfl ?_
          refine g_bipush (q := 753) dL_law_751 rfl ⟨by decide, by decide⟩ (by decide) ?_
          refine g_iload (q := 755) dL_law_753 rfl rfl ?_
          refine g_iadd (q := 756) dL_law_755 rfl (by constructor <;> omega) ?_
          refine g_iconst (q := 757) dL_law_756 rfl ⟨by decide, by decide⟩ ?_
          refine g_iast (q := 758) dL_law_757 rfl ⟨by decide, rfl, rfl⟩ (by omega) (by omega) ?_
          refine g_iload (q := 760) dL_law_758 rfl rfl ?_
          refine g_aload (q := 762) dL_law_760 rfl rfl ?_
          refine g_aload (q := 764) dL_law_762 rfl rfl ?_
          refine g_fnS (as := [zI i, zR 42, zR 47]) (q := 767) (u' := 500 * n + 12) dL_law_764 rfl ck_L_142 rfl rfl (Nat.le_of_ble_eq_true rfl) ⟨Nat.le_of_ble_eq_true rfl, Nat.le_of_ble_eq_true rfl⟩ rfl (show 500 * n + 12 ≤ 100000 by omega) (hsp) rfl ?_
          refine g_istore (q := 769) dL_law_767 rfl (Nat.le_of_ble_eq_true rfl) ?_
          refine g_iload (q := 771) dL_law_769 rfl rfl ?_
          refine g_iconst (q := 772) dL_law_771 rfl ⟨by decide, by decide⟩ ?_
          refine g_icmp_eq (t := 3002) (q := 775) dL_law_772 (by decide) rfl (fun h772 => (False.elim (by omega))) (fun h772 => ?_)
          refine g_aload (q := 777) dL_law_775 rfl rfl ?_
          refine g_iload (q := 779) dL_law_777 rfl rfl ?_
          refine g_dup2 (q := 780) dL_law_779 rfl trivial trivial ?_
          refine g_ildv (q := 781) (z := S.2.1 42 (k : Int)) dL_law_780 rfl ⟨by decide, rfl, rfl⟩ (by omega) (by omega) xk ?_
          refine g_iconst (q := 782) dL_law_781 rfl ⟨by decide, by decide⟩ ?_
          refine g_iadd (q := 783) dL_law_782 rfl (by constructor <;> omega) ?_
          refine g_iast (q := 784) dL_law_783 rfl ⟨by decide, rfl, rfl⟩ (by omega) (by omega) ?_
          refine g_goto (q := 0) (t := 3002) dL_law_784 (by decide) ?_
          exact g_forget (z_sub_r (z_sub_r (z_sub_r (z_sub_r (z_sub_r (z_sub_r (z_sub_r (z_sub_r (z_sub_r (z_sub_r (z_sub_r (z_sub_r (z_sub_r (z_sub_r (z_sub_r (z_sub_n (z_sub_n (z_sub_n (z_sub_r (z_sub_n (z_sub_n (z_sub_n (z_sub_n (z_sub_n (z_sub_n (z_sub_n (z_sub_n (z_sub_n (z_sub_n (z_sub_n (z_sub_n (z_sub_n (z_sub_n (z_sub_n (z_sub_n (z_sub_n (z_sub_n (z_sub_n (z_sub_n (z_sub_n (z_sub_n (z_sub_n (z_sub_n (z_sub_n (z_sub_n (z_sub_n (z_sub_n (z_sub_n (z_sub_n (z_sub_n z_sub_0)))))))))))))))))))))))))))))))))))))))))))))))))) (z_G.widen (by omega) hfin)
      by_cases c2 : S.2.1 40 i = S.2.1 7 (i / 3)
      · have hR : Rel X (y_cf (y_fin S i) i c) := by
          unfold y_en at hre
          rw [if_pos c2] at hre
          exact hre
        have k1 := k723 X S rfl zcl.rf hlw rfl rfl rfl rfl hR
        refine g_aload_n (i := 1) (q := 641) dL_law_640 rfl rfl rfl ?_
        refine g_iload (q := 643) dL_law_641 rfl rfl ?_
        refine g_fnW (as := [zR 0, zI (zdg i)]) (q := 646) (u' := 500 * n + 12) dL_law_643 rfl ck_L_189 rfl rfl (Nat.le_of_ble_eq_true rfl) ⟨Nat.le_of_ble_eq_true rfl, Nat.le_of_ble_eq_true rfl⟩ rfl (show 500 * n + 12 ≤ 100000 by omega) (q) ?_
        refine g_aload_n (i := 3) (q := 647) dL_law_646 rfl rfl rfl ?_
        refine g_iload (q := 649) dL_law_647 rfl rfl ?_
        refine g_ildv (q := 650) (z := S.2.1 40 i) dL_law_649 rfl ⟨by decide, rfl, rfl⟩ (by omega) (by omega) (e40 i) ?_
        refine g_iconst (q := 651) dL_law_650 rfl ⟨by decide, by decide⟩ ?_
        refine g_icmp_ne (t := 660) (q := 654) dL_law_651 (by decide) rfl (fun h651 => ?_) (fun h651 => (False.elim (by omega)))
        refine g_aload_n (i := 3) (q := 661) dL_law_660 rfl rfl rfl ?_
        refine g_iload (q := 663) dL_law_661 rfl rfl ?_
        refine g_ildv (q := 664) (z := S.2.1 40 i) dL_law_663 rfl ⟨by decide, rfl, rfl⟩ (by omega) (by omega) (e40 i) ?_
        refine g_icmp_ne (t := 671) (q := 667) dL_law_664 (by decide) rfl (fun h664 => (False.elim (by omega))) (fun h664 => ?_)
        refine g_iconst (q := 668) dL_law_667 rfl ⟨by decide, by decide⟩ ?_
        refine g_goto (q := 0) (t := 672) dL_law_668 (by decide) ?_
        refine g_istore (q := 674) dL_law_672 rfl (Nat.le_of_ble_eq_true rfl) ?_
        refine g_aload_n (i := 3) (q := 675) dL_law_674 rfl rfl rfl ?_
        refine g_iload (q := 677) dL_law_675 rfl rfl ?_
        refine g_ildv (q := 678) (z := S.2.1 40 i) dL_law_677 rfl ⟨by decide, rfl, rfl⟩ (by omega) (by omega) (e40 i) ?_
        refine g_iconst (q := 679) dL_law_678 rfl ⟨by decide, by decide⟩ ?_
        refine g_icmp_ne (t := 685) (q := 682) dL_law_679 (by decide) rfl (fun h679 => ?_) (fun h679 => (False.elim (by omega)))
        refine g_aload_n (i := 3) (q := 686) dL_law_685 rfl rfl rfl ?_
        refine g_iload (q := 688) dL_law_686 rfl rfl ?_
        refine g_ildv (q := 689) (z := S.2.1 40 i) dL_law_688 rfl ⟨by decide, rfl, rfl⟩ (by omega) (by omega) (e40 i) ?_
        refine g_aload_n (i := 2) (q := 690) dL_law_689 rfl rfl rfl ?_
        refine g_iload (q := 692) dL_law_690 rfl rfl ?_
        refine g_iconst (q := 693) dL_law_692 rfl ⟨by decide, by decide⟩ ?_
        refine g_idiv (q := 694) dL_law_693 rfl (by omega) (by omega) ?_
        refine g_ildv (q := 695) (z := S.2.1 7 (i / 3)) dL_law_694 rfl ⟨by decide, rfl, rfl⟩ (by omega) (by omega) (e7 (i / 3)) ?_
        refine g_icmp_eq (t := 723) (q := 698) dL_law_695 (by decide) rfl (fun h695 => ?_) (fun h695 => (False.elim (by omega)))
        exact g_forget (z_sub_r (z_sub_r (z_sub_r (z_sub_r (z_sub_r (z_sub_r (z_sub_r (z_sub_r (z_sub_r (z_sub_r (z_sub_r (z_sub_r (z_sub_r (z_sub_r (z_sub_r (z_sub_r (z_sub_r (z_sub_r (z_sub_r (z_sub_n (z_sub_n (z_sub_n (z_sub_n (z_sub_n (z_sub_n (z_sub_n (z_sub_n (z_sub_n (z_sub_n (z_sub_n (z_sub_n (z_sub_n (z_sub_n (z_sub_n (z_sub_n (z_sub_n (z_sub_n (z_sub_n (z_sub_n (z_sub_n (z_sub_n (z_sub_n (z_sub_n (z_sub_n (z_sub_n (z_sub_n (z_sub_n (z_sub_n (z_sub_n (z_sub_n z_sub_0)))))))))))))))))))))))))))))))))))))))))))))))))) k1
      · have hR : Rel X (y_cf (y_fin (z_sA (z_sA S 47 2 (S.2.1 47 2 + 1)) 44 (S.2.1 47 2) (S.2.1 47 0 + i * 16384 + 6 * 262144)) i) i c) := by
          unfold y_en at hre
          rw [if_neg c2] at hre
          exact hre
        have k1 := k723 (z_sA (z_sA X 47 2 (S.2.1 47 2 + 1)) 44 (S.2.1 47 2) (S.2.1 47 0 + i * 16384 + 6 * 262144)) (z_sA (z_sA S 47 2 (S.2.1 47 2 + 1)) 44 (S.2.1 47 2) (S.2.1 47 0 + i * 16384 + 6 * 262144)) rfl (zcl_w (zcl_w zcl.rf (by omega)) (by omega)) (zlw_w (zlw_w hlw)) rfl rfl rfl rfl hR
        refine g_aload_n (i := 1) (q := 641) dL_law_640 rfl rfl rfl ?_
        refine g_iload (q := 643) dL_law_641 rfl rfl ?_
        refine g_fnW (as := [zR 0, zI (zdg i)]) (q := 646) (u' := 500 * n + 12) dL_law_643 rfl ck_L_189 rfl rfl (Nat.le_of_ble_eq_true rfl) ⟨Nat.le_of_ble_eq_true rfl, Nat.le_of_ble_eq_true rfl⟩ rfl (show 500 * n + 12 ≤ 100000 by omega) (q) ?_
        refine g_aload_n (i := 3) (q := 647) dL_law_646 rfl rfl rfl ?_
        refine g_iload (q := 649) dL_law_647 rfl rfl ?_
        refine g_ildv (q := 650) (z := S.2.1 40 i) dL_law_649 rfl ⟨by decide, rfl, rfl⟩ (by omega) (by omega) (e40 i) ?_
        refine g_iconst (q := 651) dL_law_650 rfl ⟨by decide, by decide⟩ ?_
        refine g_icmp_ne (t := 660) (q := 654) dL_law_651 (by decide) rfl (fun h651 => ?_) (fun h651 => (False.elim (by omega)))
        refine g_aload_n (i := 3) (q := 661) dL_law_660 rfl rfl rfl ?_
        refine g_iload (q := 663) dL_law_661 rfl rfl ?_
        refine g_ildv (q := 664) (z := S.2.1 40 i) dL_law_663 rfl ⟨by decide, rfl, rfl⟩ (by omega) (by omega) (e40 i) ?_
        refine g_icmp_ne (t := 671) (q := 667) dL_law_664 (by decide) rfl (fun h664 => (False.elim (by omega))) (fun h664 => ?_)
        refine g_iconst (q := 668) dL_law_667 rfl ⟨by decide, by decide⟩ ?_
        refine g_goto (q := 0) (t := 672) dL_law_668 (by decide) ?_
        refine g_istore (q := 674) dL_law_672 rfl (Nat.le_of_ble_eq_true rfl) ?_
        refine g_aload_n (i := 3) (q := 675) dL_law_674 rfl rfl rfl ?_
        refine g_iload (q := 677) dL_law_675 rfl rfl ?_
        refine g_ildv (q := 678) (z := S.2.1 40 i) dL_law_677 rfl ⟨by decide, rfl, rfl⟩ (by omega) (by omega) (e40 i) ?_
        refine g_iconst (q := 679) dL_law_678 rfl ⟨by decide, by decide⟩ ?_
        refine g_icmp_ne (t := 685) (q := 682) dL_law_679 (by decide) rfl (fun h679 => ?_) (fun h679 => (False.elim (by omega)))
        refine g_aload_n (i := 3) (q := 686) dL_law_685 rfl rfl rfl ?_
        refine g_iload (q := 688) dL_law_686 rfl rfl ?_
        refine g_ildv (q := 689) (z := S.2.1 40 i) dL_law_688 rfl ⟨by decide, rfl, rfl⟩ (by omega) (by omega) (e40 i) ?_
        refine g_aload_n (i := 2) (q := 690) dL_law_689 rfl rfl rfl ?_
        refine g_iload (q := 692) dL_law_690 rfl rfl ?_
        refine g_iconst (q := 693) dL_law_692 rfl ⟨by decide, by decide⟩ ?_
        refine g_idiv (q := 694) dL_law_693 rfl (by omega) (by omega) ?_
        refine g_ildv (q := 695) (z := S.2.1 7 (i / 3)) dL_law_694 rfl ⟨by decide, rfl, rfl⟩ (by omega) (by omega) (e7 (i / 3)) ?_
        refine g_icmp_eq (t := 723) (q := 698) dL_law_695 (by decide) rfl (fun h695 => (False.elim (by omega))) (fun h695 => ?_)
        refine g_aload (q := 700) dL_law_698 rfl rfl ?_
        refine g_aload (q := 702) dL_law_700 rfl rfl ?_
        refine g_iconst (q := 703) dL_law_702 rfl ⟨by decide, by decide⟩ ?_
        refine g_dup2 (q := 704) dL_law_703 rfl trivial trivial ?_
        refine g_ildv (q := 705) (z := S.2.1 47 2) dL_law_704 rfl ⟨by decide, rfl, rfl⟩ (by omega) (by omega) (e47 2) ?_
        refine g_dup_x2 (q := 706) dL_law_705 rfl trivial trivial trivial ?_
        refine g_iconst (q := 707) dL_law_706 rfl ⟨by decide, by decide⟩ ?_
        refine g_iadd (q := 708) dL_law_707 rfl (by constructor <;> omega) ?_
        refine g_iast (q := 709) dL_law_708 rfl ⟨by decide, rfl, rfl⟩ (by omega) (by omega) ?_
        refine g_aload (q := 711) dL_law_709 rfl rfl ?_
        refine g_iconst (q := 712) dL_law_711 rfl ⟨by decide, by decide⟩ ?_
        refine g_ildv (q := 713) (z := S.2.1 47 0) dL_law_712 rfl ⟨by decide, rfl, rfl⟩ (by omega) (by omega) (e47 0) ?_
        refine g_iload (q := 715) dL_law_713 rfl rfl ?_
        refine g_bipush (q := 717) dL_law_715 rfl ⟨by decide, by decide⟩ (by decide) ?_
        refine g_ishlv (q := 718) (z := i * 16384) dL_law_717 rfl (zShl_p 14 (by decide) (by decide) (by omega) (by omega)) ?_
        refine g_iorv (q := 719) (z := S.2.1 47 0 + i * 16384) dL_law_718 rfl (zOr_q (p := 16384) 14 (by decide) (by omega) (by omega) (by omega) (by omega) (by omega)) ?_
        refine g_ldc (z := 1572864) (q := 721) dL_law_719 rfl lk_191 (by constructor <;> decide) ?_
        refine g_iorv (q := 722) (z := S.2.1 47 0 + i * 16384 + 6 * 262144) dL_law_721 rfl ((zOr_q (p := 262144) 18 (by decide) (by omega) (by omega) (by omega) (by omega) (by omega)).trans (by omega)) ?_
        refine g_iast (q := 723) dL_law_722 rfl ⟨by decide, rfl, rfl⟩ (by omega) (by omega) ?_
        exact g_forget (z_sub_r (z_sub_r (z_sub_r (z_sub_r (z_sub_r (z_sub_r (z_sub_r (z_sub_r (z_sub_r (z_sub_r (z_sub_r (z_sub_r (z_sub_r (z_sub_r (z_sub_r (z_sub_r (z_sub_r (z_sub_r (z_sub_r (z_sub_n (z_sub_n (z_sub_n (z_sub_n (z_sub_n (z_sub_n (z_sub_n (z_sub_n (z_sub_n (z_sub_n (z_sub_n (z_sub_n (z_sub_n (z_sub_n (z_sub_n (z_sub_n (z_sub_n (z_sub_n (z_sub_n (z_sub_n (z_sub_n (z_sub_n (z_sub_n (z_sub_n (z_sub_n (z_sub_n (z_sub_n (z_sub_n (z_sub_n (z_sub_n (z_sub_n z_sub_0)))))))))))))))))))))))))))))))))))))))))))))))))) k1
  refine g_iload (q := 631) dL_law_629 rfl rfl ?_
  refine g_bipush (q := 633) dL_law_631 rfl ⟨by decide, by decide⟩ (by decide) ?_
  refine g_iandv (q := 634) (z := zAnd w 6) dL_law_633 rfl (rfl) ?_
  refine g_if_le (t := 640) (q := 637) dL_law_634 (by decide) rfl (fun h634 => ?_) (fun h634 => ?_)
  · exact k0
  · refine g_goto (q := 0) (t := 3002) dL_law_637 (by decide) ?_
    exact g_forget (z_sub_r (z_sub_r (z_sub_r (z_sub_r (z_sub_r (z_sub_r (z_sub_r (z_sub_r (z_sub_r (z_sub_r (z_sub_r (z_sub_r (z_sub_r (z_sub_r (z_sub_r (z_sub_n (z_sub_n (z_sub_n (z_sub_r (z_sub_n (z_sub_n (z_sub_n (z_sub_n (z_sub_n (z_sub_n (z_sub_n (z_sub_n (z_sub_n (z_sub_n (z_sub_n (z_sub_n (z_sub_n (z_sub_n (z_sub_n (z_sub_n (z_sub_n (z_sub_n (z_sub_n (z_sub_n (z_sub_n (z_sub_n (z_sub_n (z_sub_n (z_sub_n (z_sub_n (z_sub_n (z_sub_n (z_sub_n (z_sub_n (z_sub_n z_sub_0)))))))))))))))))))))))))))))))))))))))))))))))))) (z_G.widen (by omega) (hK _ hI.same))
theorem y_ln_fr {f : Int} {b : Bool} : ∀ (k a : Nat) (T : zS), zcl (y_ln f b a k T) T ∧ (y_ln f b a k T).1 = T.1
  | 0, a, T => by rw [y_ln]; exact ⟨zcl.rf, rfl⟩
  | k + 1, a, T => by
    rw [y_ln]
    split
    · have g := y_ln_fr (f := f) (b := b) k (a + 1) (y_l1 T f a)
      exact ⟨g.1.tr (zcl_w zcl.rf (by omega)), g.2⟩
    · exact ⟨zcl.rf, rfl⟩
theorem y_ln_cong {f : Int} {b : Bool} : ∀ (k a : Nat) (U T : zS), zlw U T → zlw (y_ln f b a k U) (y_ln f b a k T)
  | 0, a, U, T, h => by rw [y_ln, y_ln]; exact h
  | k + 1, a, U, T, h => by
    have e46 := congrFun (h.1 46 (by omega)) f
    have e44 := congrFun (h.1 44 (by omega)) (a : Int)
    have e47 := congrFun (h.1 47 (by omega)) 0
    have e22 := congrFun h.2 f
    rw [y_ln, y_ln, e46, e44, e47]
    split
    · refine y_ln_cong k (a + 1) _ _ ?_
      unfold y_l1
      rw [e44, e22]
      exact zlw_w (zlw_l h)
    · exact h
theorem zlw_la {f : Int} (hf : 0 ≤ f ∧ f < 6) : ∀ (k a : Nat) (S : zS), zlw (x_la S f a k) S ∧ (x_la S f a k).1 = S.1 ∧ (x_la S f a k).2.1 12 = S.2.1 12
  | 0, a, S => by rw [x_la]; exact ⟨zlw_c zlw.rf (by omega), rfl, rfl⟩
  | k + 1, a, S => by
    rw [x_la]
    have g := zlw_la hf k (a + 1) (z_sA S (30 + f.toNat) (S.2.1 26 a) (S.2.1 27 a))
    exact ⟨g.1.tr (zlw_c zlw.rf (by omega)), g.2.1, g.2.2.trans (funext fun j => za_ne (by omega))⟩
theorem Rel.yL' {X T : zS} (h : Rel X T) (hb : zAb X) (h2 : X.1 2 ≤ 64) {f : Int} (hf : 0 ≤ f ∧ f < 6) : yL T (X.1 2).toNat f := by
  have hc := h.chgr
  have hcg := h.chg
  have hn := h.now
  have hnr := h.nowr
  have hw := h.word hb hf
  refine ⟨by omega, by omega, fun j x y => ?_, hw.1, h.yT', by omega⟩
  have q := h.cat j x (by omega)
  exact ⟨q.1, q.2.1, q.2.2.1⟩
theorem yL.cong {U T : zS} {c : Nat} {f : Int} (h : yL T c f) (e : zlw U T) : yL U c f := by
  obtain ⟨h1, h2, h3, h4, h5, h6⟩ := h
  have e44 := e.1 44 (by omega)
  have e46 := e.1 46 (by omega)
  have e47 := e.1 47 (by omega)
  refine ⟨by rw [e47]; exact h1, h2, by rw [e44]; exact h3, by rw [e46]; exact h4, fun g x y => by rw [e.2]; exact h5 g x y, by rw [e47]; exact h6⟩
theorem lc_corr (hI : zInv n S) (hg : S.1 2 < 46) (hn : n < 150) (hf : 0 ≤ f ∧ f < 6) (hK : ∀ U, zInv (n + 1) U → z_G (mLw hh) F (500 * n + 60) 3002 [some (zR 49), some (zR 0), some (zR 7), some (zR 40), some (zR 41), some (zR 42), some (zR 43), some (zR 44), some (zR 48), some (zR 45), some (zR 46), some (zR 47), some (zI (n : Int)), some (zI v), some (zI w), none, none, none, some (zI 1), none, none, none, none, none, none, none, none, none, none, none, none, none, none, none, none, none, none, none, none, none, none, none, none, none, none, none, none, none, none, none] [] U) : z_G (mLw hh) F (500 * n + 10) 1487 [some (zR 49), some (zR 0), some (zR 7), some (zR 40), some (zR 41), some (zR 42), some (zR 43), some (zR 44), some (zR 48), some (zR 45), some (zR 46), some (zR 47), some (zI (n : Int)), some (zI v), some (zI w), some (zI i), some (zI (zdg i)), some (zI f), some (zI 1), none, none, none, none, none, none, none, none, none, none, none, none, none, none, none, none, none, none, none, none, none, none, none, none, none, none, none, none, none, none, none] [] S := by
  have h := hI.1
  have hb := hI.ab (by omega)
  have hl := h.lrn f hf.1 hf.2
  have hcr := h.chgr
  have q := q_correct h (by omega) hf
  obtain ⟨a, ea⟩ := zb_nat hl.2.1
  obtain ⟨c, ec⟩ := zb_nat hcr
  have hla := zlw_la hf ((S.1 2).toNat - (S.2.1 28 f).toNat) (S.2.1 28 f).toNat S
  have hr := rel_la hf (c - a) a S S (by rw [← ea, za_id]; exact h) (by omega)
  have hyl := (h.yL' hb (by omega) hf).cong hla.1
  rw [ea, ec, Int.toNat_natCast, Int.toNat_natCast] at q hla
  rw [ea, ec, Int.toNat_natCast, Int.toNat_natCast] at hyl
  obtain ⟨X, eX⟩ : ∃ X, X = x_la S f a (c - a) := ⟨_, rfl⟩
  rw [← eX] at q hla hr hyl
  have x45 : X.2.1 45 f = a := by
    rw [hla.1.1 45 (by omega), hl.1, ea]
  have hsl := s_L_learns (T := X) (f := f) (bi := 1) (b := true) (.inl ⟨rfl, rfl⟩) hf x45 (by omega) hyl
  rw [y_ln_all (c - a) a X x45, show ((a + (c - a) : Nat) : Int) - (a : Int) = (c : Int) - a by omega] at hsl
  have hfr := y_ln_fr (f := f) (b := true) (c - a) a X
  have hcg := y_ln_cong (f := f) (b := true) (c - a) a X S hla.1
  obtain ⟨Y, eY⟩ : ∃ Y, Y = y_ln f true a (c - a) X := ⟨_, rfl⟩
  rw [← eY] at hsl hfr hcg
  have hR : Rel Y Y := hr.both hfr.1 hcg
  have hN : zInv (n + 1) Y := hI.next hR (by rw [hfr.2, hla.2.1]; exact Int.le_refl _) (by rw [hfr.2, hla.2.1]; omega) ((hfr.1.2 12 (by omega) (by omega) (by omega)).trans hla.2.2) (by rw [hfr.2, hla.2.1]; exact hI.2.2.2)
  refine g_iload (q := 1489) dL_law_1487 rfl rfl ?_
  refine g_bipush (q := 1491) dL_law_1489 rfl ⟨by decide, by decide⟩ (by decide) ?_
  refine g_iandv (q := 1492) (z := zAnd w 6) dL_law_1491 rfl (rfl) ?_
  refine g_if_ne (t := 3002) (q := 1495) dL_law_1492 (by decide) rfl (fun h1492 => ?_) (fun h1492 => ?_)
  · first | exact g_forget (z_sub_r (z_sub_r (z_sub_r (z_sub_r (z_sub_r (z_sub_r (z_sub_r (z_sub_r (z_sub_r (z_sub_r (z_sub_r (z_sub_r (z_sub_r (z_sub_r (z_sub_r (z_sub_n (z_sub_n (z_sub_n (z_sub_r (z_sub_n (z_sub_n (z_sub_n (z_sub_n (z_sub_n (z_sub_n (z_sub_n (z_sub_n (z_sub_n (z_sub_n (z_sub_n (z_sub_n (z_sub_n (z_sub_n (z_sub_n (z_sub_n (z_sub_n (z_sub_n (z_sub_n (z_sub_n (z_sub_n (z_sub_n (z_sub_n (z_sub_n (z_sub_n (z_sub_n (z_sub_n (z_sub_n (z_sub_n (z_sub_n (z_sub_n z_sub_0)))))))))))))))))))))))))))))))))))))))))))))))))) (z_G.widen (by omega) (hK _ hN)) | exact g_forget (z_sub_r (z_sub_r (z_sub_r (z_sub_r (z_sub_r (z_sub_r (z_sub_r (z_sub_r (z_sub_r (z_sub_r (z_sub_r (z_sub_r (z_sub_r (z_sub_r (z_sub_r (z_sub_n (z_sub_n (z_sub_n (z_sub_r (z_sub_n (z_sub_n (z_sub_n (z_sub_n (z_sub_n (z_sub_n (z_sub_n (z_sub_n (z_sub_n (z_sub_n (z_sub_n (z_sub_n (z_sub_n (z_sub_n (z_sub_n (z_sub_n (z_sub_n (z_sub_n (z_sub_n (z_sub_n (z_sub_n (z_sub_n (z_sub_n (z_sub_n (z_sub_n (z_sub_n (z_sub_n (z_sub_n (z_sub_n (z_sub_n (z_sub_n z_sub_0)))))))))))))))))))))))))))))))))))))))))))))))))) (z_G.widen (by omega) (hK _ hI.same))
  · refine g_aload_n (i := 1) (q := 1496) dL_law_1495 rfl rfl rfl ?_
    refine g_iload (q := 1498) dL_law_1496 rfl rfl ?_
    refine g_fnW (as := [zR 0, zI f]) (q := 1501) (u' := 500 * n + 11) dL_law_1498 rfl ck_L_207 rfl rfl (Nat.le_of_ble_eq_true rfl) ⟨Nat.le_of_ble_eq_true rfl, Nat.le_of_ble_eq_true rfl⟩ rfl (show 500 * n + 11 ≤ 100000 by omega) (q) ?_
    refine g_iload (q := 1503) dL_law_1501 rfl rfl ?_
    refine g_iconst (q := 1504) dL_law_1503 rfl ⟨by decide, by decide⟩ ?_
    refine g_aload (q := 1506) dL_law_1504 rfl rfl ?_
    refine g_aload (q := 1508) dL_law_1506 rfl rfl ?_
    refine g_aload (q := 1510) dL_law_1508 rfl rfl ?_
    refine g_aload (q := 1512) dL_law_1510 rfl rfl ?_
    refine g_aload (q := 1514) dL_law_1512 rfl rfl ?_
    refine g_fnS (as := [zI f, zI 1, zR 44, zR 48, zR 45, zR 46, zR 47]) (q := 1517) (u' := 500 * n + 11) dL_law_1514 rfl ck_L_209 rfl rfl (Nat.le_of_ble_eq_true rfl) ⟨Nat.le_of_ble_eq_true rfl, Nat.le_of_ble_eq_true rfl⟩ rfl (show 500 * n + 11 ≤ 100000 by omega) (hsl) rfl ?_
    refine g_icmp_ne (t := 1524) (q := 1520) dL_law_1517 (by decide) rfl (fun h1517 => (False.elim (by omega))) (fun h1517 => ?_)
    refine g_iconst (q := 1521) dL_law_1520 rfl ⟨by decide, by decide⟩ ?_
    refine g_goto (q := 0) (t := 1525) dL_law_1521 (by decide) ?_
    refine g_istore (q := 1527) dL_law_1525 rfl (Nat.le_of_ble_eq_true rfl) ?_
    refine g_goto (q := 0) (t := 3002) dL_law_1527 (by decide) ?_
    first | exact g_forget (z_sub_r (z_sub_r (z_sub_r (z_sub_r (z_sub_r (z_sub_r (z_sub_r (z_sub_r (z_sub_r (z_sub_r (z_sub_r (z_sub_r (z_sub_r (z_sub_r (z_sub_r (z_sub_n (z_sub_n (z_sub_n (z_sub_r (z_sub_n (z_sub_n (z_sub_n (z_sub_n (z_sub_n (z_sub_n (z_sub_n (z_sub_n (z_sub_n (z_sub_n (z_sub_n (z_sub_n (z_sub_n (z_sub_n (z_sub_n (z_sub_n (z_sub_n (z_sub_n (z_sub_n (z_sub_n (z_sub_n (z_sub_n (z_sub_n (z_sub_n (z_sub_n (z_sub_n (z_sub_n (z_sub_n (z_sub_n (z_sub_n (z_sub_n z_sub_0)))))))))))))))))))))))))))))))))))))))))))))))))) (z_G.widen (by omega) (hK _ hN)) | exact g_forget (z_sub_r (z_sub_r (z_sub_r (z_sub_r (z_sub_r (z_sub_r (z_sub_r (z_sub_r (z_sub_r (z_sub_r (z_sub_r (z_sub_r (z_sub_r (z_sub_r (z_sub_r (z_sub_n (z_sub_n (z_sub_n (z_sub_r (z_sub_n (z_sub_n (z_sub_n (z_sub_n (z_sub_n (z_sub_n (z_sub_n (z_sub_n (z_sub_n (z_sub_n (z_sub_n (z_sub_n (z_sub_n (z_sub_n (z_sub_n (z_sub_n (z_sub_n (z_sub_n (z_sub_n (z_sub_n (z_sub_n (z_sub_n (z_sub_n (z_sub_n (z_sub_n (z_sub_n (z_sub_n (z_sub_n (z_sub_n (z_sub_n (z_sub_n z_sub_0)))))))))))))))))))))))))))))))))))))))))))))))))) (z_G.widen (by omega) (hK _ hI.same))
theorem zAnd01 : zAnd 1 1 = 1 ∧ zAnd 1 0 = 0 ∧ zAnd 0 1 = 0 ∧ zAnd 0 0 = 0 := by decide
theorem lc_back_loop {b : Int} (hb : 0 ≤ b ∧ b < 4) (hn : n < 150) (hk : ∀ fr : Int, ((fr = 1 ∧ ¬ S.2.1 7 b = -1 ∧ ∀ j : Int, 3 * b ≤ j → j < 3 * b + 3 → S.2.1 40 j = -1 ∧ S.2.1 40 (24 + j) < S.2.1 47 0) ∨ (fr = 0 ∧ (S.2.1 7 b = -1 ∨ ∃ j : Int, 3 * b ≤ j ∧ j < 3 * b + 3 ∧ ¬ (S.2.1 40 j = -1 ∧ S.2.1 40 (24 + j) < S.2.1 47 0)))) → z_G (mLw hh) F (500 * n + 10) 2344 [some (zR 49), some (zR 0), some (zR 7), some (zR 40), some (zR 41), some (zR 42), some (zR 43), some (zR 44), some (zR 48), some (zR 45), some (zR 46), some (zR 47), some (zI (n : Int)), some (zI v), some (zI w), some (zI i), some (zI (zdg i)), some (zI f), some (zI 1), none, none, none, none, none, none, none, none, none, none, none, none, none, none, none, none, none, none, some (zI b), some (zI fr), none, none, none, none, none, none, none, none, none, none, none] [] S) : ∀ (k : Nat) (j fr : Int), j + k = 3 * b + 3 → 3 * b ≤ j → ((fr = 1 ∧ ¬ S.2.1 7 b = -1 ∧ ∀ m : Int, 3 * b ≤ m → m < j → S.2.1 40 m = -1 ∧ S.2.1 40 (24 + m) < S.2.1 47 0) ∨ (fr = 0 ∧ (S.2.1 7 b = -1 ∨ ∃ m : Int, 3 * b ≤ m ∧ m < j ∧ ¬ (S.2.1 40 m = -1 ∧ S.2.1 40 (24 + m) < S.2.1 47 0)))) → z_G (mLw hh) F (500 * n + 10) 2295 [some (zR 49), some (zR 0), some (zR 7), some (zR 40), some (zR 41), some (zR 42), some (zR 43), some (zR 44), some (zR 48), some (zR 45), some (zR 46), some (zR 47), some (zI (n : Int)), some (zI v), some (zI w), some (zI i), some (zI (zdg i)), some (zI f), some (zI 1), none, none, none, none, none, none, none, none, none, none, none, none, none, none, none, none, none, none, some (zI b), some (zI fr), some (zI j), none, none, none, none, none, none, none, none, none, none] [] S := by
  intro k
  induction k with
  | zero =>
    intro j fr hj hj2 hfr
    have ej : j = 3 * b + 3 := by omega
    rw [ej] at hfr
    have h0 := hk fr hfr
    clear hk hfr
    refine g_iload (q := 2297) dL_law_2295 rfl rfl ?_
    refine g_iconst (q := 2298) dL_law_2297 rfl ⟨by decide, by decide⟩ ?_
    refine g_iload (q := 2300) dL_law_2298 rfl rfl ?_
    refine g_imul (q := 2301) dL_law_2300 rfl (by constructor <;> omega) ?_
    refine g_iconst (q := 2302) dL_law_2301 rfl ⟨by decide, by decide⟩ ?_
    refine g_iadd (q := 2303) dL_law_2302 rfl (by constructor <;> omega) ?_
    refine g_icmp_ge (t := 2344) (q := 2306) dL_law_2303 (by decide) rfl (fun h2303 => ?_) (fun h2303 => (False.elim (by omega)))
    exact g_forget (z_sub_r (z_sub_r (z_sub_r (z_sub_r (z_sub_r (z_sub_r (z_sub_r (z_sub_r (z_sub_r (z_sub_r (z_sub_r (z_sub_r (z_sub_r (z_sub_r (z_sub_r (z_sub_r (z_sub_r (z_sub_r (z_sub_r (z_sub_n (z_sub_n (z_sub_n (z_sub_n (z_sub_n (z_sub_n (z_sub_n (z_sub_n (z_sub_n (z_sub_n (z_sub_n (z_sub_n (z_sub_n (z_sub_n (z_sub_n (z_sub_n (z_sub_n (z_sub_n (z_sub_r (z_sub_r (z_sub_n (z_sub_n (z_sub_n (z_sub_n (z_sub_n (z_sub_n (z_sub_n (z_sub_n (z_sub_n (z_sub_n (z_sub_n z_sub_0)))))))))))))))))))))))))))))))))))))))))))))))))) h0
  | succ k ih =>
    intro j fr hj hj2 hfr
    have hnx : ∀ fr2 : Int, ((fr2 = 1 ∧ fr = 1 ∧ S.2.1 40 j = -1 ∧ S.2.1 40 (24 + j) < S.2.1 47 0) ∨ (fr2 = 0 ∧ (fr = 0 ∨ ¬ (S.2.1 40 j = -1 ∧ S.2.1 40 (24 + j) < S.2.1 47 0)))) → z_G (mLw hh) F (500 * n + 10) 2295 [some (zR 49), some (zR 0), some (zR 7), some (zR 40), some (zR 41), some (zR 42), some (zR 43), some (zR 44), some (zR 48), some (zR 45), some (zR 46), some (zR 47), some (zI (n : Int)), some (zI v), some (zI w), some (zI i), some (zI (zdg i)), some (zI f), some (zI 1), none, none, none, none, none, none, none, none, none, none, none, none, none, none, none, none, none, none, some (zI b), some (zI fr2), some (zI (j + 1)), none, none, none, none, none, none, none, none, none, none] [] S := by
      intro fr2 h2
      refine ih (j + 1) fr2 (by omega) (by omega) ?_
      rcases h2 with ⟨a1, a2, a3⟩ | ⟨a1, a2⟩
      · rcases hfr with ⟨-, b2, b3⟩ | ⟨b1, -⟩
        · refine .inl ⟨a1, b2, fun m x y => ?_⟩
          by_cases e : m = j
          · rw [e]; exact a3
          · exact b3 m x (by omega)
        · omega
      · refine .inr ⟨a1, ?_⟩
        rcases a2 with a2 | a2
        · rcases hfr with ⟨b1, -, -⟩ | ⟨-, b2⟩
          · omega
          · rcases b2 with b2 | ⟨m, m1, m2, m3⟩
            · exact .inl b2
            · exact .inr ⟨m, m1, by omega, m3⟩
        · exact .inr ⟨j, hj2, by omega, a2⟩
    have hf01 : fr = 0 ∨ fr = 1 := hfr.elim (fun q => .inr q.1) (fun q => .inl q.1)
    have k35 : ∀ x : Int, ((x = 1 ∧ S.2.1 40 j = -1 ∧ S.2.1 40 (24 + j) < S.2.1 47 0) ∨ (x = 0 ∧ ¬ (S.2.1 40 j = -1 ∧ S.2.1 40 (24 + j) < S.2.1 47 0))) → z_G (mLw hh) F (500 * n + 10) 2335 [some (zR 49), some (zR 0), some (zR 7), some (zR 40), some (zR 41), some (zR 42), some (zR 43), some (zR 44), some (zR 48), some (zR 45), some (zR 46), some (zR 47), some (zI (n : Int)), some (zI v), some (zI w), some (zI i), some (zI (zdg i)), some (zI f), some (zI 1), none, none, none, none, none, none, none, none, none, none, none, none, none, none, none, none, none, none, some (zI b), some (zI fr), some (zI j), none, none, none, none, none, none, none, none, none, none] [zI x, zI fr] S := by
      intro x hx
      clear hfr hk ih
      have h1 := hnx (zAnd fr x) (by
        obtain ⟨z1, z2, z3, z4⟩ := zAnd01
        rcases hf01 with rfl | rfl <;> rcases hx with ⟨rfl, hx⟩ | ⟨rfl, hx⟩
        · rw [z3]; exact .inr ⟨rfl, .inl rfl⟩
        · rw [z4]; exact .inr ⟨rfl, .inl rfl⟩
        · rw [z1]; exact .inl ⟨rfl, rfl, hx⟩
        · rw [z2]; exact .inr ⟨rfl, .inr hx⟩)
      refine g_iandv (q := 2336) (z := zAnd fr x) dL_law_2335 rfl (rfl) ?_
      refine g_istore (q := 2338) dL_law_2336 rfl (Nat.le_of_ble_eq_true rfl) ?_
      refine g_iinc (q := 2341) (i := 39) (n := 1) dL_law_2338 rfl rfl (by constructor <;> omega) ?_
      refine g_goto (q := 0) (t := 2295) dL_law_2341 (by decide) ?_
      exact h1
    clear hfr hk ih hnx
    refine g_iload (q := 2297) dL_law_2295 rfl rfl ?_
    refine g_iconst (q := 2298) dL_law_2297 rfl ⟨by decide, by decide⟩ ?_
    refine g_iload (q := 2300) dL_law_2298 rfl rfl ?_
    refine g_imul (q := 2301) dL_law_2300 rfl (by constructor <;> omega) ?_
    refine g_iconst (q := 2302) dL_law_2301 rfl ⟨by decide, by decide⟩ ?_
    refine g_iadd (q := 2303) dL_law_2302 rfl (by constructor <;> omega) ?_
    refine g_icmp_ge (t := 2344) (q := 2306) dL_law_2303 (by decide) rfl (fun h2303 => (False.elim (by omega))) (fun h2303 => ?_)
    refine g_iload (q := 2308) dL_law_2306 rfl rfl ?_
    refine g_aload_n (i := 3) (q := 2309) dL_law_2308 rfl rfl rfl ?_
    refine g_iload (q := 2311) dL_law_2309 rfl rfl ?_
    refine g_ildv (q := 2312) (z := S.2.1 40 j) dL_law_2311 rfl ⟨by decide, rfl, rfl⟩ (by omega) (by omega) rfl ?_
    refine g_iconst (q := 2313) dL_law_2312 rfl ⟨by decide, by decide⟩ ?_
    refine g_icmp_ne (t := 2334) (q := 2316) dL_law_2313 (by decide) rfl (fun h2313 => ?_) (fun h2313 => ?_)
    · refine g_iconst (q := 2335) dL_law_2334 rfl ⟨by decide, by decide⟩ ?_
      exact k35 _ (by omega)
    · refine g_aload_n (i := 3) (q := 2317) dL_law_2316 rfl rfl rfl ?_
      refine g_bipush (q := 2319) dL_law_2317 rfl ⟨by decide, by decide⟩ (by decide) ?_
      refine g_iload (q := 2321) dL_law_2319 rfl rfl ?_
      refine g_iadd (q := 2322) dL_law_2321 rfl (by constructor <;> omega) ?_
      refine g_ildv (q := 2323) (z := S.2.1 40 (24 + j)) dL_law_2322 rfl ⟨by decide, rfl, rfl⟩ (by omega) (by omega) rfl ?_
      refine g_aload (q := 2325) dL_law_2323 rfl rfl ?_
      refine g_iconst (q := 2326) dL_law_2325 rfl ⟨by decide, by decide⟩ ?_
      refine g_ildv (q := 2327) (z := S.2.1 47 0) dL_law_2326 rfl ⟨by decide, rfl, rfl⟩ (by omega) (by omega) rfl ?_
      refine g_icmp_ge (t := 2334) (q := 2330) dL_law_2327 (by decide) rfl (fun h2327 => ?_) (fun h2327 => ?_)
      · refine g_iconst (q := 2335) dL_law_2334 rfl ⟨by decide, by decide⟩ ?_
        exact k35 _ (by omega)
      · refine g_iconst (q := 2331) dL_law_2330 rfl ⟨by decide, by decide⟩ ?_
        refine g_goto (q := 0) (t := 2335) dL_law_2331 (by decide) ?_
        exact k35 _ (by omega)
theorem lc_back (hI : zInv n S) (hn : n < 150) (hK : ∀ U, zInv (n + 1) U → z_G (mLw hh) F (500 * n + 60) 3002 [some (zR 49), some (zR 0), some (zR 7), some (zR 40), some (zR 41), some (zR 42), some (zR 43), some (zR 44), some (zR 48), some (zR 45), some (zR 46), some (zR 47), some (zI (n : Int)), some (zI v), some (zI w), none, none, none, some (zI 1), none, none, none, none, none, none, none, none, none, none, none, none, none, none, none, none, none, none, none, none, none, none, none, none, none, none, none, none, none, none, none] [] U) : z_G (mLw hh) F (500 * n + 10) 2266 [some (zR 49), some (zR 0), some (zR 7), some (zR 40), some (zR 41), some (zR 42), some (zR 43), some (zR 44), some (zR 48), some (zR 45), some (zR 46), some (zR 47), some (zI (n : Int)), some (zI v), some (zI w), some (zI i), some (zI (zdg i)), some (zI f), some (zI 1), none, none, none, none, none, none, none, none, none, none, none, none, none, none, none, none, none, none, none, none, none, none, none, none, none, none, none, none, none, none, none] [] S := by
  have h := hI.1
  have hl := zlow_rng (v := w) (n := 4) (by omega)
  obtain ⟨b, eb⟩ : ∃ z, z = zlow w 4 := ⟨_, rfl⟩
  rw [← eb] at hl
  have k44 : ∀ fr : Int, ((fr = 1 ∧ ¬ S.2.1 7 b = -1 ∧ ∀ j : Int, 3 * b ≤ j → j < 3 * b + 3 → S.2.1 40 j = -1 ∧ S.2.1 40 (24 + j) < S.2.1 47 0) ∨ (fr = 0 ∧ (S.2.1 7 b = -1 ∨ ∃ j : Int, 3 * b ≤ j ∧ j < 3 * b + 3 ∧ ¬ (S.2.1 40 j = -1 ∧ S.2.1 40 (24 + j) < S.2.1 47 0)))) → z_G (mLw hh) F (500 * n + 10) 2344 [some (zR 49), some (zR 0), some (zR 7), some (zR 40), some (zR 41), some (zR 42), some (zR 43), some (zR 44), some (zR 48), some (zR 45), some (zR 46), some (zR 47), some (zI (n : Int)), some (zI v), some (zI w), some (zI i), some (zI (zdg i)), some (zI f), some (zI 1), none, none, none, none, none, none, none, none, none, none, none, none, none, none, none, none, none, none, some (zI b), some (zI fr), none, none, none, none, none, none, none, none, none, none, none] [] S := by
    intro fr hfr
    rcases hfr with ⟨rfl, c1, c2⟩ | ⟨rfl, c1⟩
    · have q := q_back_ok h hl c1 c2
      have r := (rel_hold h hl (f := -1) (by omega) (fun _ i x y e => by
        have s := h.serv i x y
        have := c2 i (by omega) (by omega)
        omega)).both (U := z_sA (z_sA S 8 b (-1)) 7 b (-1)) (zcl_w zcl.rf (by omega)) (zlw_w (zlw_c zlw.rf (by omega)))
      have hN : zInv (n + 1) (z_sA (z_sA S 8 b (-1)) 7 b (-1)) := hI.next r (Int.le_refl _) (by show S.1 3 ≤ S.1 3 + 1 + (S.1 2 - S.1 2); omega) rfl hI.2.2.2
      clear c2
      refine g_aload_n (i := 1) (q := 2345) dL_law_2344 rfl rfl rfl ?_
      refine g_iload (q := 2347) dL_law_2345 rfl rfl ?_
      refine g_fnW (as := [zR 0, zI b]) (q := 2350) (u' := 500 * n + 11) dL_law_2347 rfl ck_L_219 rfl rfl (Nat.le_of_ble_eq_true rfl) ⟨Nat.le_of_ble_eq_true rfl, Nat.le_of_ble_eq_true rfl⟩ rfl (show 500 * n + 11 ≤ 100000 by omega) (q) ?_
      refine g_iload (q := 2352) dL_law_2350 rfl rfl ?_
      refine g_if_eq (t := 2362) (q := 2355) dL_law_2352 (by decide) rfl (fun h2352 => (False.elim (by omega))) (fun h2352 => ?_)
      refine g_aload_n (i := 2) (q := 2356) dL_law_2355 rfl rfl rfl ?_
      refine g_iload (q := 2358) dL_law_2356 rfl rfl ?_
      refine g_ildv (q := 2359) (z := S.2.1 7 b) dL_law_2358 rfl ⟨by decide, rfl, rfl⟩ (by omega) (by omega) rfl ?_
      refine g_goto (q := 0) (t := 2365) dL_law_2359 (by decide) ?_
      refine g_icmp_ne (t := 2372) (q := 2368) dL_law_2365 (by decide) rfl (fun h2365 => (False.elim (by omega))) (fun h2365 => ?_)
      refine g_iconst (q := 2369) dL_law_2368 rfl ⟨by decide, by decide⟩ ?_
      refine g_goto (q := 0) (t := 2373) dL_law_2369 (by decide) ?_
      refine g_istore (q := 2375) dL_law_2373 rfl (Nat.le_of_ble_eq_true rfl) ?_
      refine g_aload_n (i := 2) (q := 2376) dL_law_2375 rfl rfl rfl ?_
      refine g_iload (q := 2378) dL_law_2376 rfl rfl ?_
      refine g_iload (q := 2380) dL_law_2378 rfl rfl ?_
      refine g_if_eq (t := 2387) (q := 2383) dL_law_2380 (by decide) rfl (fun h2380 => (False.elim (by omega))) (fun h2380 => ?_)
      refine g_iconst (q := 2384) dL_law_2383 rfl ⟨by decide, by decide⟩ ?_
      refine g_goto (q := 0) (t := 2391) dL_law_2384 (by decide) ?_
      refine g_iast (q := 2392) dL_law_2391 rfl ⟨by decide, rfl, rfl⟩ (by omega) (by omega) ?_
      refine g_goto (q := 0) (t := 3002) dL_law_2392 (by decide) ?_
      exact g_forget (z_sub_r (z_sub_r (z_sub_r (z_sub_r (z_sub_r (z_sub_r (z_sub_r (z_sub_r (z_sub_r (z_sub_r (z_sub_r (z_sub_r (z_sub_r (z_sub_r (z_sub_r (z_sub_n (z_sub_n (z_sub_n (z_sub_r (z_sub_n (z_sub_n (z_sub_n (z_sub_n (z_sub_n (z_sub_n (z_sub_n (z_sub_n (z_sub_n (z_sub_n (z_sub_n (z_sub_n (z_sub_n (z_sub_n (z_sub_n (z_sub_n (z_sub_n (z_sub_n (z_sub_n (z_sub_n (z_sub_n (z_sub_n (z_sub_n (z_sub_n (z_sub_n (z_sub_n (z_sub_n (z_sub_n (z_sub_n (z_sub_n (z_sub_n z_sub_0)))))))))))))))))))))))))))))))))))))))))))))))))) (z_G.widen (by omega) (hK _ hN))
    · have q := q_back_ex h hl c1
      clear c1
      refine g_aload_n (i := 1) (q := 2345) dL_law_2344 rfl rfl rfl ?_
      refine g_iload (q := 2347) dL_law_2345 rfl rfl ?_
      refine g_fnW (as := [zR 0, zI b]) (q := 2350) (u' := 500 * n + 11) dL_law_2347 rfl ck_L_219 rfl rfl (Nat.le_of_ble_eq_true rfl) ⟨Nat.le_of_ble_eq_true rfl, Nat.le_of_ble_eq_true rfl⟩ rfl (show 500 * n + 11 ≤ 100000 by omega) (q) ?_
      refine g_iload (q := 2352) dL_law_2350 rfl rfl ?_
      refine g_if_eq (t := 2362) (q := 2355) dL_law_2352 (by decide) rfl (fun h2352 => ?_) (fun h2352 => (False.elim (by omega)))
      refine g_sipush (q := 2365) dL_law_2362 rfl ⟨by decide, by decide⟩ (by decide) ?_
      refine g_icmp_ne (t := 2372) (q := 2368) dL_law_2365 (by decide) rfl (fun h2365 => (False.elim (by omega))) (fun h2365 => ?_)
      refine g_iconst (q := 2369) dL_law_2368 rfl ⟨by decide, by decide⟩ ?_
      refine g_goto (q := 0) (t := 2373) dL_law_2369 (by decide) ?_
      refine g_istore (q := 2375) dL_law_2373 rfl (Nat.le_of_ble_eq_true rfl) ?_
      refine g_aload_n (i := 2) (q := 2376) dL_law_2375 rfl rfl rfl ?_
      refine g_iload (q := 2378) dL_law_2376 rfl rfl ?_
      refine g_iload (q := 2380) dL_law_2378 rfl rfl ?_
      refine g_if_eq (t := 2387) (q := 2383) dL_law_2380 (by decide) rfl (fun h2380 => ?_) (fun h2380 => (False.elim (by omega)))
      refine g_aload_n (i := 2) (q := 2388) dL_law_2387 rfl rfl rfl ?_
      refine g_iload (q := 2390) dL_law_2388 rfl rfl ?_
      refine g_ildv (q := 2391) (z := S.2.1 7 b) dL_law_2390 rfl ⟨by decide, rfl, rfl⟩ (by omega) (by omega) rfl ?_
      refine g_iast (q := 2392) dL_law_2391 rfl ⟨by decide, rfl, rfl⟩ (by omega) (by omega) ?_
      refine g_goto (q := 0) (t := 3002) dL_law_2392 (by decide) ?_
      rw [za_id]
      exact g_forget (z_sub_r (z_sub_r (z_sub_r (z_sub_r (z_sub_r (z_sub_r (z_sub_r (z_sub_r (z_sub_r (z_sub_r (z_sub_r (z_sub_r (z_sub_r (z_sub_r (z_sub_r (z_sub_n (z_sub_n (z_sub_n (z_sub_r (z_sub_n (z_sub_n (z_sub_n (z_sub_n (z_sub_n (z_sub_n (z_sub_n (z_sub_n (z_sub_n (z_sub_n (z_sub_n (z_sub_n (z_sub_n (z_sub_n (z_sub_n (z_sub_n (z_sub_n (z_sub_n (z_sub_n (z_sub_n (z_sub_n (z_sub_n (z_sub_n (z_sub_n (z_sub_n (z_sub_n (z_sub_n (z_sub_n (z_sub_n (z_sub_n (z_sub_n z_sub_0)))))))))))))))))))))))))))))))))))))))))))))))))) (z_G.widen (by omega) (hK _ hI.same))
  have k95 : ∀ fr : Int, ((fr = 1 ∧ ¬ S.2.1 7 b = -1) ∨ (fr = 0 ∧ S.2.1 7 b = -1)) → z_G (mLw hh) F (500 * n + 10) 2287 [some (zR 49), some (zR 0), some (zR 7), some (zR 40), some (zR 41), some (zR 42), some (zR 43), some (zR 44), some (zR 48), some (zR 45), some (zR 46), some (zR 47), some (zI (n : Int)), some (zI v), some (zI w), some (zI i), some (zI (zdg i)), some (zI f), some (zI 1), none, none, none, none, none, none, none, none, none, none, none, none, none, none, none, none, none, none, some (zI b), none, none, none, none, none, none, none, none, none, none, none, none] [zI fr] S := by
    intro fr hfr
    have hlp := lc_back_loop hl hn k44 3 (3 * b) fr (by omega) (by omega) (by
      rcases hfr with ⟨a, c⟩ | ⟨a, c⟩
      · exact .inl ⟨a, c, fun m x y => by omega⟩
      · exact .inr ⟨a, .inl c⟩)
    refine g_istore (q := 2289) dL_law_2287 rfl (Nat.le_of_ble_eq_true rfl) ?_
    refine g_iconst (q := 2290) dL_law_2289 rfl ⟨by decide, by decide⟩ ?_
    refine g_iload (q := 2292) dL_law_2290 rfl rfl ?_
    refine g_imul (q := 2293) dL_law_2292 rfl (by constructor <;> omega) ?_
    refine g_istore (q := 2295) dL_law_2293 rfl (Nat.le_of_ble_eq_true rfl) ?_
    exact hlp
  rw [eb] at k95 hl
  refine g_iload (q := 2268) dL_law_2266 rfl rfl ?_
  refine g_iconst (q := 2269) dL_law_2268 rfl ⟨by decide, by decide⟩ ?_
  refine g_fnS (as := [zI w, zI 4]) (q := 2272) (u' := 500 * n + 10) dL_law_2269 rfl ck_L_125 rfl rfl (Nat.le_of_ble_eq_true rfl) ⟨Nat.le_of_ble_eq_true rfl, Nat.le_of_ble_eq_true rfl⟩ rfl (show 500 * n + 10 ≤ 100000 by omega) (s_L_low (by omega)) rfl ?_
  refine g_istore (q := 2274) dL_law_2272 rfl (Nat.le_of_ble_eq_true rfl) ?_
  refine g_aload_n (i := 2) (q := 2275) dL_law_2274 rfl rfl rfl ?_
  refine g_iload (q := 2277) dL_law_2275 rfl rfl ?_
  refine g_ildv (q := 2278) (z := S.2.1 7 (zlow w 4)) dL_law_2277 rfl ⟨by decide, rfl, rfl⟩ (by omega) (by omega) rfl ?_
  refine g_iconst (q := 2279) dL_law_2278 rfl ⟨by decide, by decide⟩ ?_
  refine g_icmp_eq (t := 2286) (q := 2282) dL_law_2279 (by decide) rfl (fun h2279 => ?_) (fun h2279 => ?_)
  · refine g_iconst (q := 2287) dL_law_2286 rfl ⟨by decide, by decide⟩ ?_
    exact k95 _ (by omega)
  · refine g_iconst (q := 2283) dL_law_2282 rfl ⟨by decide, by decide⟩ ?_
    refine g_goto (q := 0) (t := 2287) dL_law_2283 (by decide) ?_
    exact k95 _ (by omega)
end
