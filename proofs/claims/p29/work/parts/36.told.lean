/-! ===== the law's isTold ===== -/
section
variable {Q : zQ} {S : zS} {v i : Int}
/-- how many hops: the law counts them -/
theorem l_told_many {U : zS} {H : Int → Int} {n f w : Int} {m wn : Nat} (hm : m ≤ 7) (hH : ∀ j : Int, 0 ≤ j → j < m → 0 ≤ H j ∧ H j < 6) (hk : z_G mL_isTold (z_F mL_isTold Q) (35 * wn + 130) 787 [some (zR 0), some (zI v), some (zR 7), some (zR 40), some (zR 42), some (zR 48), some (zR 45), some (zR 46), some (zR 47), some (zI i), some (zI n), none, none, some (zI f), some (zI w), some (zL (zenc H m)), none, some (zI (m : Int)), none, none] [] U) : ∀ (k c : Nat), c + k = m → z_G mL_isTold (z_F mL_isTold Q) (35 * wn + 130) 768 [some (zR 0), some (zI v), some (zR 7), some (zR 40), some (zR 42), some (zR 48), some (zR 45), some (zR 46), some (zR 47), some (zI i), some (zI n), none, none, some (zI f), some (zI w), some (zL (zenc H m)), none, some (zI (c : Int)), some (zL (zenc H k)), none] [] U := by
  intro k
  induction k with
  | zero =>
    intro c hc
    have e : c = m := by omega
    have e0 : zenc H 0 = 0 := rfl
    subst e
    refine g_lload (q := 770) dL_isTold_768 rfl rfl ?_
    refine g_lconst (q := 771) (z := 0) dL_isTold_770 rfl ⟨by decide, by decide⟩ rfl ?_
    refine g_lcmpv (q := 772) (z := 0) dL_isTold_771 rfl (by omega) ?_
    refine g_if_le (t := 787) (q := 775) dL_isTold_772 (by decide) rfl (fun h772 => ?_) (fun h772 => (False.elim (by omega)))
    exact g_forget (z_sub_r (z_sub_r (z_sub_r (z_sub_r (z_sub_r (z_sub_r (z_sub_r (z_sub_r (z_sub_r (z_sub_r (z_sub_r (z_sub_n (z_sub_n (z_sub_r (z_sub_r (z_sub_r (z_sub_r (z_sub_r (z_sub_n (z_sub_n z_sub_0)))))))))))))))))))) hk
  | succ k ih =>
    intro c hc
    have h1 := zenc_7 (h := H) (m := k) (by omega) (fun j x y => hH j x (by omega))
    have h2 := hH k (by omega) (by omega)
    have hnx := ih (c + 1) (by omega)
    rw [zenc]
    refine g_lload (q := 770) dL_isTold_768 rfl rfl ?_
    refine g_lconst (q := 771) (z := 0) dL_isTold_770 rfl ⟨by decide, by decide⟩ rfl ?_
    refine g_lcmpv (q := 772) (z := 1) dL_isTold_771 rfl (by omega) ?_
    refine g_if_le (t := 787) (q := 775) dL_isTold_772 (by decide) rfl (fun h772 => (False.elim (by omega))) (fun h772 => ?_)
    refine g_iinc (q := 778) (i := 17) (n := 1) dL_isTold_775 rfl rfl (by constructor <;> omega) ?_
    refine g_lload (q := 780) dL_isTold_778 rfl rfl ?_
    refine g_iconst (q := 781) dL_isTold_780 rfl ⟨by decide, by decide⟩ ?_
    refine g_lshrv (q := 782) (z := zenc H k) dL_isTold_781 rfl (((zLshr_p (p := 16) 4 (by decide) (by decide) (by constructor <;> omega)).trans (by omega))) ?_
    refine g_lstore (q := 784) dL_isTold_782 rfl (Nat.le_of_ble_eq_true rfl) (by decide) ?_
    refine g_goto (q := 0) (t := 768) dL_isTold_784 (by decide) ?_
    exact hnx
/-- the hops, one by one -/
theorem l_told_place (h : Rel S S) {f w : Int} {m wn : Nat} (hi : 0 ≤ i ∧ i < 12) (hf : 0 ≤ f ∧ f < 6) (hw : 0 ≤ w ∧ w ≤ 2) (hwn : wn < 3) (hm : m ≤ 7) (em : (x_tc S f (zdg i) w).1.1 4 = m) (hH : ∀ j : Int, 0 ≤ j → j < m → 0 ≤ (x_tc S f (zdg i) w).1.2.1 39 j ∧ (x_tc S f (zdg i) w).1.2.1 39 j < 6)
    (hk : ∀ U, zRt S U → z_G mL_isTold (z_F mL_isTold Q) (35 * wn + 162) 854 [some (zR 0), some (zI v), some (zR 7), some (zR 40), some (zR 42), some (zR 48), some (zR 45), some (zR 46), some (zR 47), some (zI i), some (zI (zdg i)), none, none, some (zI f), some (zI w), none, none, none, none, none] [] U) : ∀ (k p : Nat) (U : zS), p + k = m + 1 → zRt S U → ∀ v19, z_G mL_isTold (z_F mL_isTold Q) (35 * wn + 4 * p + 130) 790 [some (zR 0), some (zI v), some (zR 7), some (zR 40), some (zR 42), some (zR 48), some (zR 45), some (zR 46), some (zR 47), some (zI i), some (zI (zdg i)), none, none, some (zI f), some (zI w), some (zL (zenc ((x_tc S f (zdg i) w).1.2.1 39) m)), none, some (zI (m : Int)), some (zI (p : Int)), v19] [] U := by
  have hrow := zenc_7 (h := (x_tc S f (zdg i) w).1.2.1 39) hm hH
  intro k
  induction k with
  | zero =>
    intro p U hp g v19
    refine g_iload (q := 792) dL_isTold_790 rfl rfl ?_
    refine g_iload (q := 794) dL_isTold_792 rfl rfl ?_
    refine g_icmp_gt (t := 854) (q := 797) dL_isTold_794 (by decide) rfl (fun h794 => ?_) (fun h794 => (False.elim (by omega)))
    exact g_forget (z_sub_r (z_sub_r (z_sub_r (z_sub_r (z_sub_r (z_sub_r (z_sub_r (z_sub_r (z_sub_r (z_sub_r (z_sub_r (z_sub_n (z_sub_n (z_sub_r (z_sub_r (z_sub_n (z_sub_n (z_sub_n (z_sub_n (z_sub_n z_sub_0)))))))))))))))))))) (z_G.widen (by omega) (hk U g))
  | succ k ih =>
    intro p U hp g v19
    obtain ⟨U1, w1, r1⟩ := q_hop h g hf hi hw (p := (p : Int)) (by omega)
    have hnx := ih (p + 1) U1 (by omega) r1
    unfold x_hop at w1
    rw [em] at w1
    by_cases c : p = m
    · rw [if_neg (by omega)] at w1
      refine g_iload (q := 792) dL_isTold_790 rfl rfl ?_
      refine g_iload (q := 794) dL_isTold_792 rfl rfl ?_
      refine g_icmp_gt (t := 854) (q := 797) dL_isTold_794 (by decide) rfl (fun h794 => (False.elim (by omega))) (fun h794 => ?_)
      refine g_iload (q := 799) dL_isTold_797 rfl rfl ?_
      refine g_iload (q := 801) dL_isTold_799 rfl rfl ?_
      refine g_icmp_ne (t := 808) (q := 804) dL_isTold_801 (by decide) rfl (fun h801 => (False.elim (by omega))) (fun h801 => ?_)
      refine g_iconst (q := 805) dL_isTold_804 rfl ⟨by decide, by decide⟩ ?_
      refine g_goto (q := 0) (t := 827) dL_isTold_805 (by decide) ?_
      refine g_istore (q := 829) dL_isTold_827 rfl (Nat.le_of_ble_eq_true rfl) ?_
      refine g_aload_n (i := 0) (q := 830) dL_isTold_829 rfl rfl rfl ?_
      refine g_iload (q := 832) dL_isTold_830 rfl rfl ?_
      refine g_iload (q := 834) dL_isTold_832 rfl rfl ?_
      refine g_iload (q := 836) dL_isTold_834 rfl rfl ?_
      refine g_iload (q := 838) dL_isTold_836 rfl rfl ?_
      refine g_fnW (as := [zR 0, zI f, zI (zdg i), zI w, zI (p : Int)]) (q := 841) (u' := 35 * wn + 4 * p + 134) dL_isTold_838 rfl ck_L_174 rfl rfl (Nat.le_of_ble_eq_true rfl) ⟨Nat.le_of_ble_eq_true rfl, Nat.le_of_ble_eq_true rfl⟩ rfl (show 35 * wn + 4 * p + 134 ≤ 400 by omega) (w1) ?_
      refine g_iload (q := 843) dL_isTold_841 rfl rfl ?_
      refine g_icmp_eq (t := 848) (q := 846) dL_isTold_843 (by decide) rfl (fun h843 => ?_) (fun h843 => (False.elim (by omega)))
      refine g_iinc (q := 851) (i := 18) (n := 1) dL_isTold_848 rfl rfl (by constructor <;> omega) ?_
      refine g_goto (q := 0) (t := 790) dL_isTold_851 (by decide) ?_
      exact z_G.widen (by omega) (hnx _)
    · rw [if_pos (by omega)] at w1
      have hp2 := hH p (by omega) (by omega)
      have hd := zenc_div (h := (x_tc S f (zdg i) w).1.2.1 39) (k := p + 1) (m - 1 - p) (fun j x y => hH j x (by omega))
      rw [show p + 1 + (m - 1 - p) = m by omega] at hd
      have es : zLshr (zenc ((x_tc S f (zdg i) w).1.2.1 39) m) (4 * ((m : Int) - 1 - p)) = zenc ((x_tc S f (zdg i) w).1.2.1 39) p * 16 + ((x_tc S f (zdg i) w).1.2.1 39 p + 1) := by
        rw [show 4 * ((m : Int) - 1 - p) = ((4 * (m - 1 - p) : Nat) : Int) by omega, zLshr_k (by omega) (by constructor <;> omega), hd, zenc]
      have hr2 := zenc_7 (h := (x_tc S f (zdg i) w).1.2.1 39) (m := p) (by omega) (fun j x y => hH j x (by omega))
      obtain ⟨hp, ehp⟩ : ∃ z, z = (x_tc S f (zdg i) w).1.2.1 39 p := ⟨_, rfl⟩
      rw [← ehp] at w1 es hp2
      refine g_iload (q := 792) dL_isTold_790 rfl rfl ?_
      refine g_iload (q := 794) dL_isTold_792 rfl rfl ?_
      refine g_icmp_gt (t := 854) (q := 797) dL_isTold_794 (by decide) rfl (fun h794 => (False.elim (by omega))) (fun h794 => ?_)
      refine g_iload (q := 799) dL_isTold_797 rfl rfl ?_
      refine g_iload (q := 801) dL_isTold_799 rfl rfl ?_
      refine g_icmp_ne (t := 808) (q := 804) dL_isTold_801 (by decide) rfl (fun h801 => ?_) (fun h801 => (False.elim (by omega)))
      refine g_lload (q := 810) dL_isTold_808 rfl rfl ?_
      refine g_iconst (q := 811) dL_isTold_810 rfl ⟨by decide, by decide⟩ ?_
      refine g_iload (q := 813) dL_isTold_811 rfl rfl ?_
      refine g_iconst (q := 814) dL_isTold_813 rfl ⟨by decide, by decide⟩ ?_
      refine g_isub (q := 815) dL_isTold_814 rfl (by constructor <;> omega) ?_
      refine g_iload (q := 817) dL_isTold_815 rfl rfl ?_
      refine g_isub (q := 818) dL_isTold_817 rfl (by constructor <;> omega) ?_
      refine g_imul (q := 819) dL_isTold_818 rfl (by constructor <;> omega) ?_
      refine g_lshrv (q := 820) (z := zenc ((x_tc S f (zdg i) w).1.2.1 39) p * 16 + (hp + 1)) dL_isTold_819 rfl (es) ?_
      refine g_ldc2 (z := 15) (q := 823) dL_isTold_820 rfl (z_big_of (by decide +kernel) rfl) (by constructor <;> decide) ?_
      refine g_landv (q := 824) (z := hp + 1) dL_isTold_823 rfl (((zLand_m (p := 16) 4 (by decide) (by decide) (by omega) (by omega)).trans (by omega))) ?_
      refine g_l2iv (q := 825) (z := hp + 1) dL_isTold_824 rfl rfl (by constructor <;> omega) ?_
      refine g_iconst (q := 826) dL_isTold_825 rfl ⟨by decide, by decide⟩ ?_
      refine g_isub (q := 827) dL_isTold_826 rfl (by constructor <;> omega) ?_
      refine g_istore (q := 829) dL_isTold_827 rfl (Nat.le_of_ble_eq_true rfl) ?_
      refine g_aload_n (i := 0) (q := 830) dL_isTold_829 rfl rfl rfl ?_
      refine g_iload (q := 832) dL_isTold_830 rfl rfl ?_
      refine g_iload (q := 834) dL_isTold_832 rfl rfl ?_
      refine g_iload (q := 836) dL_isTold_834 rfl rfl ?_
      refine g_iload (q := 838) dL_isTold_836 rfl rfl ?_
      refine g_fnW (as := [zR 0, zI f, zI (zdg i), zI w, zI (p : Int)]) (q := 841) (u' := 35 * wn + 4 * p + 134) dL_isTold_838 rfl ck_L_174 rfl rfl (Nat.le_of_ble_eq_true rfl) ⟨Nat.le_of_ble_eq_true rfl, Nat.le_of_ble_eq_true rfl⟩ rfl (show 35 * wn + 4 * p + 134 ≤ 400 by omega) (w1) ?_
      refine g_iload (q := 843) dL_isTold_841 rfl rfl ?_
      refine g_icmp_eq (t := 848) (q := 846) dL_isTold_843 (by decide) rfl (fun h843 => ?_) (fun h843 => (False.elim (by omega)))
      refine g_iinc (q := 851) (i := 18) (n := 1) dL_isTold_848 rfl rfl (by constructor <;> omega) ?_
      refine g_goto (q := 0) (t := 790) dL_isTold_851 (by decide) ?_
      exact z_G.widen (by omega) (hnx _)
/-- the three ways -/
theorem l_told_way (h : Rel S S) (hb : zAb S) {f : Int} (hi : 0 ≤ i ∧ i < 12) (hf : 0 ≤ f ∧ f < 6) (hQ : ∀ U, zRt S U → Q (.ok (some (zI 1))) U) : ∀ (k wn : Nat) (U : zS), wn + k = 3 → zRt S U → z_G mL_isTold (z_F mL_isTold Q) (35 * wn + 127) 710 [some (zR 0), some (zI v), some (zR 7), some (zR 40), some (zR 42), some (zR 48), some (zR 45), some (zR 46), some (zR 47), some (zI i), some (zI (zdg i)), none, none, some (zI f), some (zI (wn : Int)), none, none, none, none, none] [] U := by
  intro k
  induction k with
  | zero =>
    intro wn U hk g
    have hU := h.rt g
    have hx := q_ofx hU
    have h1 := hU.ord
    have h0 := hU.ordr
    refine g_iload (q := 712) dL_isTold_710 rfl rfl ?_
    refine g_iconst (q := 713) dL_isTold_712 rfl ⟨by decide, by decide⟩ ?_
    refine g_icmp_gt (t := 860) (q := 716) dL_isTold_713 (by decide) rfl (fun h713 => ?_) (fun h713 => (False.elim (by omega)))
    refine g_aload_n (i := 0) (q := 861) dL_isTold_860 rfl rfl rfl ?_
    refine g_aload (q := 863) dL_isTold_861 rfl rfl ?_
    refine g_iconst (q := 864) dL_isTold_863 rfl ⟨by decide, by decide⟩ ?_
    refine g_ildv (q := 865) (z := U.2.1 47 1) dL_isTold_864 rfl ⟨by decide, rfl, rfl⟩ (by omega) (by omega) rfl ?_
    refine g_iconst (q := 866) dL_isTold_865 rfl ⟨by decide, by decide⟩ ?_
    refine g_fnW (as := [zR 0, zI (U.2.1 47 1), zI 0]) (q := 869) (u' := 35 * wn + 129) dL_isTold_866 rfl ck_L_155 rfl rfl (Nat.le_of_ble_eq_true rfl) ⟨Nat.le_of_ble_eq_true rfl, Nat.le_of_ble_eq_true rfl⟩ rfl (show 35 * wn + 129 ≤ 400 by omega) (hx) ?_
    refine g_sipush (q := 872) dL_isTold_869 rfl ⟨by decide, by decide⟩ (by decide) ?_
    refine g_icmp_ne (t := 879) (q := 875) dL_isTold_872 (by decide) rfl (fun h872 => (False.elim (by omega))) (fun h872 => ?_)
    refine g_iconst (q := 876) dL_isTold_875 rfl ⟨by decide, by decide⟩ ?_
    refine g_goto (q := 0) (t := 880) dL_isTold_876 (by decide) ?_
    exact g_retz dL_isTold_880 rfl (by omega) (show 35 * wn + 129 ≤ 400 by omega) (hQ U g)
  | succ k ih =>
    intro wn U hk g
    have hw : 0 ≤ (wn : Int) ∧ (wn : Int) ≤ 2 := by omega
    have hd := zdg_rng hi
    have hgo := s_L_goes (h.rtl g) hb hf hi hw
    obtain ⟨U1, w1, r1⟩ := q_why h g hf hi hw
    have hfr := x_tc_fr (w := (wn : Int)) hf ⟨hd.1, hd.2.1⟩ h.xR2'
    obtain ⟨m, em⟩ := zb_nat (x := (x_tc S f (zdg i) (wn : Int)).1.1 4) (by omega)
    have he := x_tc_e (S := S) (f := f) (n := zdg i) (w := (wn : Int))
    have hH : ∀ j : Int, 0 ≤ j → j < m → 0 ≤ (x_tc S f (zdg i) (wn : Int)).1.2.1 39 j ∧ (x_tc S f (zdg i) (wn : Int)).1.2.1 39 j < 6 := fun j x y => hfr.2.2.2.2 j x (by omega)
    have hrow := zenc_7 (h := (x_tc S f (zdg i) (wn : Int)).1.2.1 39) (m := m) (by omega) hH
    have hpl := l_told_place (v := v) (Q := Q) h hi hf hw (wn := wn) (m := m) (by omega) (by omega) em hH (fun U2 g2 => by
      have hnx := ih (wn + 1) U2 (by omega) g2
      refine g_iinc (q := 857) (i := 14) (n := 1) dL_isTold_854 rfl rfl (by constructor <;> omega) ?_
      refine g_goto (q := 0) (t := 710) dL_isTold_857 (by decide) ?_
      exact z_G.widen (by omega) hnx) (m + 1) 0 U1 (by omega) r1
    have hmany := l_told_many (v := v) (i := i) (Q := Q) (U := U1) (H := (x_tc S f (zdg i) (wn : Int)).1.2.1 39) (n := zdg i) (f := f) (w := (wn : Int)) (m := m) (wn := wn) (by omega) hH (by
      have hp0 := hpl none
      refine g_iconst (q := 788) dL_isTold_787 rfl ⟨by decide, by decide⟩ ?_
      refine g_istore (q := 790) dL_isTold_788 rfl (Nat.le_of_ble_eq_true rfl) ?_
      exact hp0) m 0 (by omega)
    obtain ⟨e, ee⟩ : ∃ z, z = (x_tc S f (zdg i) (wn : Int)).2 := ⟨_, rfl⟩
    have ez : zrow (x_tc S f (zdg i) (wn : Int)) = zenc ((x_tc S f (zdg i) (wn : Int)).1.2.1 39) m * 8 + e := by
      unfold zrow
      rw [em, Int.toNat_natCast, ee]
    rw [ez] at hgo
    rw [← ee] at w1 he
    obtain ⟨E, eE⟩ : ∃ z, z = zenc ((x_tc S f (zdg i) (wn : Int)).1.2.1 39) m := ⟨_, rfl⟩
    rw [← eE] at hgo hrow hmany
    refine g_iload (q := 712) dL_isTold_710 rfl rfl ?_
    refine g_iconst (q := 713) dL_isTold_712 rfl ⟨by decide, by decide⟩ ?_
    refine g_icmp_gt (t := 860) (q := 716) dL_isTold_713 (by decide) rfl (fun h713 => (False.elim (by omega))) (fun h713 => ?_)
    refine g_iload (q := 718) dL_isTold_716 rfl rfl ?_
    refine g_iload (q := 720) dL_isTold_718 rfl rfl ?_
    refine g_iload (q := 722) dL_isTold_720 rfl rfl ?_
    refine g_aload_n (i := 2) (q := 723) dL_isTold_722 rfl rfl rfl ?_
    refine g_aload_n (i := 3) (q := 724) dL_isTold_723 rfl rfl rfl ?_
    refine g_aload (q := 726) dL_isTold_724 rfl rfl ?_
    refine g_aload (q := 728) dL_isTold_726 rfl rfl ?_
    refine g_fnS (as := [zI f, zI i, zI (wn : Int), zR 7, zR 40, zR 48, zR 46]) (q := 731) (u' := 35 * wn + 127) dL_isTold_728 rfl ck_L_165 rfl rfl (Nat.le_of_ble_eq_true rfl) ⟨Nat.le_of_ble_eq_true rfl, Nat.le_of_ble_eq_true rfl⟩ rfl (show 35 * wn + 127 ≤ 400 by omega) (hgo) rfl ?_
    refine g_lstore (q := 733) dL_isTold_731 rfl (Nat.le_of_ble_eq_true rfl) (by decide) ?_
    refine g_aload_n (i := 0) (q := 734) dL_isTold_733 rfl rfl rfl ?_
    refine g_iload (q := 736) dL_isTold_734 rfl rfl ?_
    refine g_iload (q := 738) dL_isTold_736 rfl rfl ?_
    refine g_iload (q := 740) dL_isTold_738 rfl rfl ?_
    refine g_fnW (as := [zR 0, zI f, zI (zdg i), zI (wn : Int)]) (q := 743) (u' := 35 * wn + 130) dL_isTold_740 rfl ck_L_169 rfl rfl (Nat.le_of_ble_eq_true rfl) ⟨Nat.le_of_ble_eq_true rfl, Nat.le_of_ble_eq_true rfl⟩ rfl (show 35 * wn + 130 ≤ 400 by omega) (w1) ?_
    refine g_lload (q := 745) dL_isTold_743 rfl rfl ?_
    refine g_ldc2 (z := 7) (q := 748) dL_isTold_745 rfl (z_big_of (by decide +kernel) rfl) (by constructor <;> decide) ?_
    refine g_landv (q := 749) (z := e) dL_isTold_748 rfl (((zLand_m (p := 8) 3 (by decide) (by decide) (by omega) (by omega)).trans (by omega))) ?_
    refine g_l2iv (q := 750) (z := e) dL_isTold_749 rfl rfl (by constructor <;> omega) ?_
    refine g_icmp_eq (t := 755) (q := 753) dL_isTold_750 (by decide) rfl (fun h750 => ?_) (fun h750 => (False.elim (by omega)))
    refine g_lload (q := 757) dL_isTold_755 rfl rfl ?_
    refine g_iconst (q := 758) dL_isTold_757 rfl ⟨by decide, by decide⟩ ?_
    refine g_lshrv (q := 759) (z := E) dL_isTold_758 rfl (((zLshr_p (p := 8) 3 (by decide) (by decide) (by constructor <;> omega)).trans (by omega))) ?_
    refine g_lstore (q := 761) dL_isTold_759 rfl (Nat.le_of_ble_eq_true rfl) (by decide) ?_
    refine g_iconst (q := 762) dL_isTold_761 rfl ⟨by decide, by decide⟩ ?_
    refine g_istore (q := 764) dL_isTold_762 rfl (Nat.le_of_ble_eq_true rfl) ?_
    refine g_lload (q := 766) dL_isTold_764 rfl rfl ?_
    refine g_lstore (q := 768) dL_isTold_766 rfl (Nat.le_of_ble_eq_true rfl) (by decide) ?_
    exact g_forget (z_sub_r (z_sub_r (z_sub_r (z_sub_r (z_sub_r (z_sub_r (z_sub_r (z_sub_r (z_sub_r (z_sub_r (z_sub_r (z_sub_n (z_sub_n (z_sub_r (z_sub_r (z_sub_r (z_sub_n (z_sub_r (z_sub_r (z_sub_n z_sub_0)))))))))))))))))))) hmany
/-- numbers and calls to them, by one firm -/
theorem z_ct_succ {p : Nat → Bool} {k : Nat} : ((z_ct p (k + 1) : Nat) : Int) = (z_ct p k : Int) + (if p k = true then 1 else 0) := by
  rw [z_ct]
  split <;> simp
theorem l_told_blocks {f n : Int} {fn : Nat} (hfn : fn ≤ 6) (hf : 0 ≤ f ∧ f < 6) (hk : z_G mL_isTold (z_F mL_isTold Q) (17 * fn + 12) 229 [some (zR 0), some (zI v), some (zR 7), some (zR 40), some (zR 42), some (zR 48), some (zR 45), some (zR 46), some (zR 47), some (zI i), some (zI n), some (zI f), some (zI (z_ct (fun b => decide (S.2.1 7 b = f)) 4 : Int)), some (zI 0), some (zI 0), none, none, none, none, none] [] S) : ∀ (k b : Nat), b + k = 4 → z_G mL_isTold (z_F mL_isTold Q) (17 * fn + 12) 198 [some (zR 0), some (zI v), some (zR 7), some (zR 40), some (zR 42), some (zR 48), some (zR 45), some (zR 46), some (zR 47), some (zI i), some (zI n), some (zI f), some (zI (z_ct (fun b => decide (S.2.1 7 b = f)) b : Int)), some (zI 0), some (zI 0), some (zI (b : Int)), none, none, none, none] [] S := by
  intro k
  induction k with
  | zero =>
    intro b hb
    have e : b = 4 := by omega
    subst e
    refine g_iload (q := 200) dL_isTold_198 rfl rfl ?_
    refine g_iconst (q := 201) dL_isTold_200 rfl ⟨by decide, by decide⟩ ?_
    refine g_icmp_ge (t := 229) (q := 204) dL_isTold_201 (by decide) rfl (fun h201 => ?_) (fun h201 => (False.elim (by omega)))
    exact g_forget (z_sub_r (z_sub_r (z_sub_r (z_sub_r (z_sub_r (z_sub_r (z_sub_r (z_sub_r (z_sub_r (z_sub_r (z_sub_r (z_sub_r (z_sub_r (z_sub_r (z_sub_r (z_sub_n (z_sub_n (z_sub_n (z_sub_n (z_sub_n z_sub_0)))))))))))))))))))) hk
  | succ k ih =>
    intro b hb
    have hle := z_ct_le (fun b : Nat => decide (S.2.1 7 b = f)) b
    have hnx := ih (b + 1) (by omega)
    rw [z_ct_succ] at hnx
    by_cases c : S.2.1 7 b = f
    · rw [if_pos (decide_eq_true c)] at hnx
      refine g_iload (q := 200) dL_isTold_198 rfl rfl ?_
      refine g_iconst (q := 201) dL_isTold_200 rfl ⟨by decide, by decide⟩ ?_
      refine g_icmp_ge (t := 229) (q := 204) dL_isTold_201 (by decide) rfl (fun h201 => (False.elim (by omega))) (fun h201 => ?_)
      refine g_iload (q := 206) dL_isTold_204 rfl rfl ?_
      refine g_aload_n (i := 2) (q := 207) dL_isTold_206 rfl rfl rfl ?_
      refine g_iload (q := 209) dL_isTold_207 rfl rfl ?_
      refine g_ildv (q := 210) (z := S.2.1 7 (b : Int)) dL_isTold_209 rfl ⟨by decide, rfl, rfl⟩ (by omega) (by omega) rfl ?_
      refine g_iload (q := 212) dL_isTold_210 rfl rfl ?_
      refine g_icmp_ne (t := 219) (q := 215) dL_isTold_212 (by decide) rfl (fun h212 => (False.elim (by omega))) (fun h212 => ?_)
      refine g_iconst (q := 216) dL_isTold_215 rfl ⟨by decide, by decide⟩ ?_
      refine g_goto (q := 0) (t := 220) dL_isTold_216 (by decide) ?_
      refine g_iadd (q := 221) dL_isTold_220 rfl (by constructor <;> omega) ?_
      refine g_istore (q := 223) dL_isTold_221 rfl (Nat.le_of_ble_eq_true rfl) ?_
      refine g_iinc (q := 226) (i := 15) (n := 1) dL_isTold_223 rfl rfl (by constructor <;> omega) ?_
      refine g_goto (q := 0) (t := 198) dL_isTold_226 (by decide) ?_
      exact hnx
    · rw [if_neg (by simpa using c)] at hnx
      refine g_iload (q := 200) dL_isTold_198 rfl rfl ?_
      refine g_iconst (q := 201) dL_isTold_200 rfl ⟨by decide, by decide⟩ ?_
      refine g_icmp_ge (t := 229) (q := 204) dL_isTold_201 (by decide) rfl (fun h201 => (False.elim (by omega))) (fun h201 => ?_)
      refine g_iload (q := 206) dL_isTold_204 rfl rfl ?_
      refine g_aload_n (i := 2) (q := 207) dL_isTold_206 rfl rfl rfl ?_
      refine g_iload (q := 209) dL_isTold_207 rfl rfl ?_
      refine g_ildv (q := 210) (z := S.2.1 7 (b : Int)) dL_isTold_209 rfl ⟨by decide, rfl, rfl⟩ (by omega) (by omega) rfl ?_
      refine g_iload (q := 212) dL_isTold_210 rfl rfl ?_
      refine g_icmp_ne (t := 219) (q := 215) dL_isTold_212 (by decide) rfl (fun h212 => ?_) (fun h212 => (False.elim (by omega)))
      refine g_iconst (q := 220) dL_isTold_219 rfl ⟨by decide, by decide⟩ ?_
      refine g_iadd (q := 221) dL_isTold_220 rfl (by constructor <;> omega) ?_
      refine g_istore (q := 223) dL_isTold_221 rfl (Nat.le_of_ble_eq_true rfl) ?_
      refine g_iinc (q := 226) (i := 15) (n := 1) dL_isTold_223 rfl rfl (by constructor <;> omega) ?_
      refine g_goto (q := 0) (t := 198) dL_isTold_226 (by decide) ?_
      exact hnx
theorem l_told_nums (h : Rel S S) {f n bl : Int} {fn : Nat} (hfn : fn ≤ 6) (hf : 0 ≤ f ∧ f < 6) (hk : z_G mL_isTold (z_F mL_isTold Q) (17 * fn + 12) 299 [some (zR 0), some (zI v), some (zR 7), some (zR 40), some (zR 42), some (zR 48), some (zR 45), some (zR 46), some (zR 47), some (zI i), some (zI n), some (zI f), some (zI bl), some (zI (z_ct (fun a => decide (S.2.1 40 a = f)) 12 : Int)), some (zI (z_ct (fun a => decide (¬ S.2.1 40 a = -1 ∧ ¬ y_iw S f a = S.2.1 40 a)) 12 : Int)), none, none, none, none, none] [] S) : ∀ (k b : Nat), b + k = 12 → z_G mL_isTold (z_F mL_isTold Q) (17 * fn + 12) 232 [some (zR 0), some (zI v), some (zR 7), some (zR 40), some (zR 42), some (zR 48), some (zR 45), some (zR 46), some (zR 47), some (zI i), some (zI n), some (zI f), some (zI bl), some (zI (z_ct (fun a => decide (S.2.1 40 a = f)) b : Int)), some (zI (z_ct (fun a => decide (¬ S.2.1 40 a = -1 ∧ ¬ y_iw S f a = S.2.1 40 a)) b : Int)), some (zI (b : Int)), none, none, none, none] [] S := by
  have hT := h.yT'
  intro k
  induction k with
  | zero =>
    intro b hb
    have e : b = 12 := by omega
    subst e
    refine g_iload (q := 234) dL_isTold_232 rfl rfl ?_
    refine g_bipush (q := 236) dL_isTold_234 rfl ⟨by decide, by decide⟩ (by decide) ?_
    refine g_icmp_ge (t := 299) (q := 239) dL_isTold_236 (by decide) rfl (fun h236 => ?_) (fun h236 => (False.elim (by omega)))
    exact g_forget (z_sub_r (z_sub_r (z_sub_r (z_sub_r (z_sub_r (z_sub_r (z_sub_r (z_sub_r (z_sub_r (z_sub_r (z_sub_r (z_sub_r (z_sub_r (z_sub_r (z_sub_r (z_sub_n (z_sub_n (z_sub_n (z_sub_n (z_sub_n z_sub_0)))))))))))))))))))) hk
  | succ k ih =>
    intro b hb
    have hle := z_ct_le (fun a : Nat => decide (S.2.1 40 a = f)) b
    have hle2 := z_ct_le (fun a : Nat => decide (¬ S.2.1 40 a = -1 ∧ ¬ y_iw S f a = S.2.1 40 a)) b
    have hnx := ih (b + 1) (by omega)
    rw [z_ct_succ, z_ct_succ] at hnx
    have hB : ∀ c1 : Int, c1 = (z_ct (fun a => decide (S.2.1 40 a = f)) b : Int) + (if decide (S.2.1 40 (b : Nat) = f) = true then 1 else 0) → z_G mL_isTold (z_F mL_isTold Q) (17 * fn + 12) 258 [some (zR 0), some (zI v), some (zR 7), some (zR 40), some (zR 42), some (zR 48), some (zR 45), some (zR 46), some (zR 47), some (zI i), some (zI n), some (zI f), some (zI bl), some (zI c1), some (zI (z_ct (fun a => decide (¬ S.2.1 40 a = -1 ∧ ¬ y_iw S f a = S.2.1 40 a)) b : Int)), some (zI (b : Int)), none, none, none, none] [] S := by
      intro c1 hc1
      rw [← hc1] at hnx
      by_cases c : ¬ S.2.1 40 b = -1 ∧ ¬ y_iw S f b = S.2.1 40 b
      · rw [if_pos (decide_eq_true c)] at hnx
        refine g_iload (q := 260) dL_isTold_258 rfl rfl ?_
        refine g_aload_n (i := 3) (q := 261) dL_isTold_260 rfl rfl rfl ?_
        refine g_iload (q := 263) dL_isTold_261 rfl rfl ?_
        refine g_ildv (q := 264) (z := S.2.1 40 (b : Int)) dL_isTold_263 rfl ⟨by decide, rfl, rfl⟩ (by omega) (by omega) rfl ?_
        refine g_iconst (q := 265) dL_isTold_264 rfl ⟨by decide, by decide⟩ ?_
        refine g_icmp_eq (t := 289) (q := 268) dL_isTold_265 (by decide) rfl (fun h265 => (False.elim (by omega))) (fun h265 => ?_)
        refine g_iload (q := 270) dL_isTold_268 rfl rfl ?_
        refine g_iload (q := 272) dL_isTold_270 rfl rfl ?_
        refine g_aload_n (i := 2) (q := 273) dL_isTold_272 rfl rfl rfl ?_
        refine g_aload (q := 275) dL_isTold_273 rfl rfl ?_
        refine g_fnS (as := [zI f, zI (b : Int), zR 7, zR 48]) (q := 278) (u' := 17 * fn + 12) dL_isTold_275 rfl ck_L_119 rfl rfl (Nat.le_of_ble_eq_true rfl) ⟨Nat.le_of_ble_eq_true rfl, Nat.le_of_ble_eq_true rfl⟩ rfl (show 17 * fn + 12 ≤ 400 by omega) (s_L_isWith (by omega) (by omega) hT) rfl ?_
        refine g_aload_n (i := 3) (q := 279) dL_isTold_278 rfl rfl rfl ?_
        refine g_iload (q := 281) dL_isTold_279 rfl rfl ?_
        refine g_ildv (q := 282) (z := S.2.1 40 (b : Int)) dL_isTold_281 rfl ⟨by decide, rfl, rfl⟩ (by omega) (by omega) rfl ?_
        refine g_icmp_eq (t := 289) (q := 285) dL_isTold_282 (by decide) rfl (fun h282 => (False.elim (by omega))) (fun h282 => ?_)
        refine g_iconst (q := 286) dL_isTold_285 rfl ⟨by decide, by decide⟩ ?_
        refine g_goto (q := 0) (t := 290) dL_isTold_286 (by decide) ?_
        refine g_iadd (q := 291) dL_isTold_290 rfl (by constructor <;> omega) ?_
        refine g_istore (q := 293) dL_isTold_291 rfl (Nat.le_of_ble_eq_true rfl) ?_
        refine g_iinc (q := 296) (i := 15) (n := 1) dL_isTold_293 rfl rfl (by constructor <;> omega) ?_
        refine g_goto (q := 0) (t := 232) dL_isTold_296 (by decide) ?_
        exact hnx
      · rw [if_neg (by rw [decide_eq_true_eq]; exact c)] at hnx
        refine g_iload (q := 260) dL_isTold_258 rfl rfl ?_
        refine g_aload_n (i := 3) (q := 261) dL_isTold_260 rfl rfl rfl ?_
        refine g_iload (q := 263) dL_isTold_261 rfl rfl ?_
        refine g_ildv (q := 264) (z := S.2.1 40 (b : Int)) dL_isTold_263 rfl ⟨by decide, rfl, rfl⟩ (by omega) (by omega) rfl ?_
        refine g_iconst (q := 265) dL_isTold_264 rfl ⟨by decide, by decide⟩ ?_
        refine g_icmp_eq (t := 289) (q := 268) dL_isTold_265 (by decide) rfl (fun h265 => ?_) (fun h265 => ?_)
        · refine g_iconst (q := 290) dL_isTold_289 rfl ⟨by decide, by decide⟩ ?_
          refine g_iadd (q := 291) dL_isTold_290 rfl (by constructor <;> omega) ?_
          refine g_istore (q := 293) dL_isTold_291 rfl (Nat.le_of_ble_eq_true rfl) ?_
          refine g_iinc (q := 296) (i := 15) (n := 1) dL_isTold_293 rfl rfl (by constructor <;> omega) ?_
          refine g_goto (q := 0) (t := 232) dL_isTold_296 (by decide) ?_
          exact hnx
        · refine g_iload (q := 270) dL_isTold_268 rfl rfl ?_
          refine g_iload (q := 272) dL_isTold_270 rfl rfl ?_
          refine g_aload_n (i := 2) (q := 273) dL_isTold_272 rfl rfl rfl ?_
          refine g_aload (q := 275) dL_isTold_273 rfl rfl ?_
          refine g_fnS (as := [zI f, zI (b : Int), zR 7, zR 48]) (q := 278) (u' := 17 * fn + 12) dL_isTold_275 rfl ck_L_119 rfl rfl (Nat.le_of_ble_eq_true rfl) ⟨Nat.le_of_ble_eq_true rfl, Nat.le_of_ble_eq_true rfl⟩ rfl (show 17 * fn + 12 ≤ 400 by omega) (s_L_isWith (by omega) (by omega) hT) rfl ?_
          refine g_aload_n (i := 3) (q := 279) dL_isTold_278 rfl rfl rfl ?_
          refine g_iload (q := 281) dL_isTold_279 rfl rfl ?_
          refine g_ildv (q := 282) (z := S.2.1 40 (b : Int)) dL_isTold_281 rfl ⟨by decide, rfl, rfl⟩ (by omega) (by omega) rfl ?_
          refine g_icmp_eq (t := 289) (q := 285) dL_isTold_282 (by decide) rfl (fun h282 => ?_) (fun h282 => ?_)
          · refine g_iconst (q := 290) dL_isTold_289 rfl ⟨by decide, by decide⟩ ?_
            refine g_iadd (q := 291) dL_isTold_290 rfl (by constructor <;> omega) ?_
            refine g_istore (q := 293) dL_isTold_291 rfl (Nat.le_of_ble_eq_true rfl) ?_
            refine g_iinc (q := 296) (i := 15) (n := 1) dL_isTold_293 rfl rfl (by constructor <;> omega) ?_
            refine g_goto (q := 0) (t := 232) dL_isTold_296 (by decide) ?_
            exact hnx
          · exact absurd ⟨h265, h282⟩ c
    by_cases c : S.2.1 40 b = f
    · skip
      refine g_iload (q := 234) dL_isTold_232 rfl rfl ?_
      refine g_bipush (q := 236) dL_isTold_234 rfl ⟨by decide, by decide⟩ (by decide) ?_
      refine g_icmp_ge (t := 299) (q := 239) dL_isTold_236 (by decide) rfl (fun h236 => (False.elim (by omega))) (fun h236 => ?_)
      refine g_iload (q := 241) dL_isTold_239 rfl rfl ?_
      refine g_aload_n (i := 3) (q := 242) dL_isTold_241 rfl rfl rfl ?_
      refine g_iload (q := 244) dL_isTold_242 rfl rfl ?_
      refine g_ildv (q := 245) (z := S.2.1 40 (b : Int)) dL_isTold_244 rfl ⟨by decide, rfl, rfl⟩ (by omega) (by omega) rfl ?_
      refine g_iload (q := 247) dL_isTold_245 rfl rfl ?_
      refine g_icmp_ne (t := 254) (q := 250) dL_isTold_247 (by decide) rfl (fun h247 => (False.elim (by omega))) (fun h247 => ?_)
      refine g_iconst (q := 251) dL_isTold_250 rfl ⟨by decide, by decide⟩ ?_
      refine g_goto (q := 0) (t := 255) dL_isTold_251 (by decide) ?_
      refine g_iadd (q := 256) dL_isTold_255 rfl (by constructor <;> omega) ?_
      refine g_istore (q := 258) dL_isTold_256 rfl (Nat.le_of_ble_eq_true rfl) ?_
      exact hB _ (by rw [if_pos (decide_eq_true c)])
    · skip
      refine g_iload (q := 234) dL_isTold_232 rfl rfl ?_
      refine g_bipush (q := 236) dL_isTold_234 rfl ⟨by decide, by decide⟩ (by decide) ?_
      refine g_icmp_ge (t := 299) (q := 239) dL_isTold_236 (by decide) rfl (fun h236 => (False.elim (by omega))) (fun h236 => ?_)
      refine g_iload (q := 241) dL_isTold_239 rfl rfl ?_
      refine g_aload_n (i := 3) (q := 242) dL_isTold_241 rfl rfl rfl ?_
      refine g_iload (q := 244) dL_isTold_242 rfl rfl ?_
      refine g_ildv (q := 245) (z := S.2.1 40 (b : Int)) dL_isTold_244 rfl ⟨by decide, rfl, rfl⟩ (by omega) (by omega) rfl ?_
      refine g_iload (q := 247) dL_isTold_245 rfl rfl ?_
      refine g_icmp_ne (t := 254) (q := 250) dL_isTold_247 (by decide) rfl (fun h247 => ?_) (fun h247 => (False.elim (by omega)))
      refine g_iconst (q := 255) dL_isTold_254 rfl ⟨by decide, by decide⟩ ?_
      refine g_iadd (q := 256) dL_isTold_255 rfl (by constructor <;> omega) ?_
      refine g_istore (q := 258) dL_isTold_256 rfl (Nat.le_of_ble_eq_true rfl) ?_
      exact hB _ (by rw [if_neg (by rw [decide_eq_true_eq]; exact c)])
/-- all firms -/
theorem l_told_firm (h : Rel S S) (hb : zAb S) (h2 : S.1 2 ≤ 600) (hi : 0 ≤ i ∧ i < 12) (hk : z_G mL_isTold (z_F mL_isTold Q) 114 474 [some (zR 0), some (zI v), some (zR 7), some (zR 40), some (zR 42), some (zR 48), some (zR 45), some (zR 46), some (zR 47), some (zI i), some (zI (zdg i)), none, none, none, none, none, none, none, none, none] [] S) : ∀ (k fn : Nat), fn + k = 6 → ∀ v12 v13 v14 v15, z_nlb v15 = true → z_G mL_isTold (z_F mL_isTold Q) (17 * fn + 12) 179 [some (zR 0), some (zI v), some (zR 7), some (zR 40), some (zR 42), some (zR 48), some (zR 45), some (zR 46), some (zR 47), some (zI i), some (zI (zdg i)), some (zI (fn : Int)), v12, v13, v14, v15, none, none, none, none] [] S := by
  have hT := h.yT'
  intro k
  induction k with
  | zero =>
    intro fn hfk v12 v13 v14 v15 h15
    have e : fn = 6 := by omega
    subst e
    refine g_iload (q := 181) dL_isTold_179 rfl rfl ?_
    refine g_bipush (q := 183) dL_isTold_181 rfl ⟨by decide, by decide⟩ (by decide) ?_
    refine g_icmp_ge (t := 474) (q := 186) dL_isTold_183 (by decide) rfl (fun h183 => ?_) (fun h183 => (False.elim (by omega)))
    exact g_forget (z_sub_r (z_sub_r (z_sub_r (z_sub_r (z_sub_r (z_sub_r (z_sub_r (z_sub_r (z_sub_r (z_sub_r (z_sub_r (z_sub_n (z_sub_n (z_sub_n (z_sub_n (z_sub_n (z_sub_n (z_sub_n (z_sub_n (z_sub_n z_sub_0)))))))))))))))))))) hk
  | succ k ih =>
    intro fn hfk v12 v13 v14 v15 h15
    have hf : 0 ≤ (fn : Int) ∧ (fn : Int) < 6 := by omega
    have hw := h.word hb hf
    have hl := h.lrn (fn : Int) hf.1 hf.2
    have hc := h.chg
    have hcr := h.chgr
    have hfl := h.flag (fn : Int) hf.1 hf.2
    have q0 := q_firm h h2 hf (w := 0) (z := S.2.1 9 (fn : Int)) (by decide) (if_pos rfl)
    have q1 := q_firm1 h h2 hf
    have q2 := q_firm2 h h2 hf
    have q3 := q_firm h h2 hf (w := 3) (z := S.2.1 10 (fn : Int)) (by decide) (by rw [if_neg (by decide), if_neg (by decide), if_neg (by decide), if_pos rfl])
    have q4 := q_firm h h2 hf (w := 4) (z := S.2.1 11 (fn : Int)) (by decide) (by rw [if_neg (by decide), if_neg (by decide), if_neg (by decide), if_neg (by decide), if_pos rfl])
    have q5 := q_firm h h2 hf (w := 5) (z := S.2.1 12 (fn : Int)) (by decide) (by rw [if_neg (by decide), if_neg (by decide), if_neg (by decide), if_neg (by decide), if_neg (by decide), if_pos rfl])
    have q6 := q_firm h h2 hf (w := 6) (z := S.1 2 - S.2.1 28 (fn : Int)) (by decide) (by rw [if_neg (by decide), if_neg (by decide), if_neg (by decide), if_neg (by decide), if_neg (by decide), if_neg (by decide)])
    have q7 := q_known h hf hi
    have q8 := q_audit h hf
    have hnx := ih (fn + 1) (by omega)
    have hC : z_G mL_isTold (z_F mL_isTold Q) (17 * fn + 12) 299 [some (zR 0), some (zI v), some (zR 7), some (zR 40), some (zR 42), some (zR 48), some (zR 45), some (zR 46), some (zR 47), some (zI i), some (zI (zdg i)), some (zI (fn : Int)), some (zI (z_ct (fun b => decide (S.2.1 7 b = (fn : Int))) 4 : Int)), some (zI (z_ct (fun a => decide (S.2.1 40 a = (fn : Int))) 12 : Int)), some (zI (z_ct (fun a => decide (¬ S.2.1 40 a = -1 ∧ ¬ y_iw S (fn : Int) a = S.2.1 40 a)) 12 : Int)), none, none, none, none, none] [] S := by
      obtain ⟨bl, ebl⟩ : ∃ z : Int, z = (z_ct (fun b => decide (S.2.1 7 b = (fn : Int))) 4 : Int) := ⟨_, rfl⟩
      obtain ⟨sv, esv⟩ : ∃ z : Int, z = (z_ct (fun a => decide (S.2.1 40 a = (fn : Int))) 12 : Int) := ⟨_, rfl⟩
      obtain ⟨au, eau⟩ : ∃ z : Int, z = (z_ct (fun a => decide (¬ S.2.1 40 a = -1 ∧ ¬ y_iw S (fn : Int) a = S.2.1 40 a)) 12 : Int) := ⟨_, rfl⟩
      rw [← ebl] at q1 ⊢
      rw [← esv] at q2 ⊢
      rw [← eau] at q8 ⊢
      refine g_aload_n (i := 0) (q := 300) dL_isTold_299 rfl rfl rfl ?_
      refine g_iload (q := 302) dL_isTold_300 rfl rfl ?_
      refine g_iconst (q := 303) dL_isTold_302 rfl ⟨by decide, by decide⟩ ?_
      refine g_fnW (as := [zR 0, zI (fn : Int), zI 0]) (q := 306) (u' := 17 * fn + 14) dL_isTold_303 rfl ck_L_146 rfl rfl (Nat.le_of_ble_eq_true rfl) ⟨Nat.le_of_ble_eq_true rfl, Nat.le_of_ble_eq_true rfl⟩ rfl (show 17 * fn + 14 ≤ 400 by omega) (q0) ?_
      refine g_aload (q := 308) dL_isTold_306 rfl rfl ?_
      refine g_iload (q := 310) dL_isTold_308 rfl rfl ?_
      refine g_ildv (q := 311) (z := S.2.1 46 (fn : Int)) dL_isTold_310 rfl ⟨by decide, rfl, rfl⟩ (by omega) (by omega) rfl ?_
      refine g_fnS (as := [zI (S.2.1 46 (fn : Int))]) (q := 314) (u' := 17 * fn + 14) dL_isTold_311 rfl ck_L_114 rfl rfl (Nat.le_of_ble_eq_true rfl) ⟨Nat.le_of_ble_eq_true rfl, Nat.le_of_ble_eq_true rfl⟩ rfl (show 17 * fn + 14 ≤ 400 by omega) (s_L_isGone (by omega)) rfl ?_
      refine g_if_eq (t := 321) (q := 317) dL_isTold_314 (by decide) rfl (fun h314 => ?_) (fun h314 => ?_)
      · refine g_iconst (q := 322) dL_isTold_321 rfl ⟨by decide, by decide⟩ ?_
        refine g_icmp_ne (t := 432) (q := 325) dL_isTold_322 (by decide) rfl (fun h322 => ?_) (fun h322 => ?_)
        · exact False.elim (by omega)
        · refine g_aload_n (i := 0) (q := 326) dL_isTold_325 rfl rfl rfl ?_
          refine g_iload (q := 328) dL_isTold_326 rfl rfl ?_
          refine g_iconst (q := 329) dL_isTold_328 rfl ⟨by decide, by decide⟩ ?_
          refine g_fnW (as := [zR 0, zI (fn : Int), zI 1]) (q := 332) (u' := 17 * fn + 16) dL_isTold_329 rfl ck_L_146 rfl rfl (Nat.le_of_ble_eq_true rfl) ⟨Nat.le_of_ble_eq_true rfl, Nat.le_of_ble_eq_true rfl⟩ rfl (show 17 * fn + 16 ≤ 400 by omega) (q1) ?_
          refine g_iload (q := 334) dL_isTold_332 rfl rfl ?_
          refine g_icmp_ne (t := 432) (q := 337) dL_isTold_334 (by decide) rfl (fun h334 => ?_) (fun h334 => ?_)
          · exact False.elim (by omega)
          · refine g_aload_n (i := 0) (q := 338) dL_isTold_337 rfl rfl rfl ?_
            refine g_iload (q := 340) dL_isTold_338 rfl rfl ?_
            refine g_iconst (q := 341) dL_isTold_340 rfl ⟨by decide, by decide⟩ ?_
            refine g_fnW (as := [zR 0, zI (fn : Int), zI 2]) (q := 344) (u' := 17 * fn + 18) dL_isTold_341 rfl ck_L_146 rfl rfl (Nat.le_of_ble_eq_true rfl) ⟨Nat.le_of_ble_eq_true rfl, Nat.le_of_ble_eq_true rfl⟩ rfl (show 17 * fn + 18 ≤ 400 by omega) (q2) ?_
            refine g_iload (q := 346) dL_isTold_344 rfl rfl ?_
            refine g_icmp_ne (t := 432) (q := 349) dL_isTold_346 (by decide) rfl (fun h346 => ?_) (fun h346 => ?_)
            · exact False.elim (by omega)
            · refine g_aload_n (i := 0) (q := 350) dL_isTold_349 rfl rfl rfl ?_
              refine g_iload (q := 352) dL_isTold_350 rfl rfl ?_
              refine g_iconst (q := 353) dL_isTold_352 rfl ⟨by decide, by decide⟩ ?_
              refine g_fnW (as := [zR 0, zI (fn : Int), zI 3]) (q := 356) (u' := 17 * fn + 20) dL_isTold_353 rfl ck_L_146 rfl rfl (Nat.le_of_ble_eq_true rfl) ⟨Nat.le_of_ble_eq_true rfl, Nat.le_of_ble_eq_true rfl⟩ rfl (show 17 * fn + 20 ≤ 400 by omega) (q3) ?_
              refine g_aload (q := 358) dL_isTold_356 rfl rfl ?_
              refine g_iload (q := 360) dL_isTold_358 rfl rfl ?_
              refine g_ildv (q := 361) (z := S.2.1 46 (fn : Int)) dL_isTold_360 rfl ⟨by decide, rfl, rfl⟩ (by omega) (by omega) rfl ?_
              refine g_fnS (as := [zI (S.2.1 46 (fn : Int))]) (q := 364) (u' := 17 * fn + 20) dL_isTold_361 rfl ck_L_104 rfl rfl (Nat.le_of_ble_eq_true rfl) ⟨Nat.le_of_ble_eq_true rfl, Nat.le_of_ble_eq_true rfl⟩ rfl (show 17 * fn + 20 ≤ 400 by omega) (s_L_isDown (by omega)) rfl ?_
              refine g_if_eq (t := 371) (q := 367) dL_isTold_364 (by decide) rfl (fun h364 => ?_) (fun h364 => ?_)
              · refine g_iconst (q := 372) dL_isTold_371 rfl ⟨by decide, by decide⟩ ?_
                refine g_icmp_ne (t := 432) (q := 375) dL_isTold_372 (by decide) rfl (fun h372 => ?_) (fun h372 => ?_)
                · exact False.elim (by omega)
                · refine g_aload_n (i := 0) (q := 376) dL_isTold_375 rfl rfl rfl ?_
                  refine g_iload (q := 378) dL_isTold_376 rfl rfl ?_
                  refine g_iconst (q := 379) dL_isTold_378 rfl ⟨by decide, by decide⟩ ?_
                  refine g_fnW (as := [zR 0, zI (fn : Int), zI 4]) (q := 382) (u' := 17 * fn + 22) dL_isTold_379 rfl ck_L_146 rfl rfl (Nat.le_of_ble_eq_true rfl) ⟨Nat.le_of_ble_eq_true rfl, Nat.le_of_ble_eq_true rfl⟩ rfl (show 17 * fn + 22 ≤ 400 by omega) (q4) ?_
                  refine g_aload (q := 384) dL_isTold_382 rfl rfl ?_
                  refine g_iload (q := 386) dL_isTold_384 rfl rfl ?_
                  refine g_ildv (q := 387) (z := S.2.1 46 (fn : Int)) dL_isTold_386 rfl ⟨by decide, rfl, rfl⟩ (by omega) (by omega) rfl ?_
                  refine g_bipush (q := 389) dL_isTold_387 rfl ⟨by decide, by decide⟩ (by decide) ?_
                  refine g_iandv (q := 390) (z := (S.2.1 46 (fn : Int)) % 64) dL_isTold_389 rfl (zAnd_m 6 (by decide) (by decide) (by omega) (by omega)) ?_
                  refine g_icmp_ne (t := 432) (q := 393) dL_isTold_390 (by decide) rfl (fun h390 => ?_) (fun h390 => ?_)
                  · exact False.elim (by omega)
                  · refine g_aload_n (i := 0) (q := 394) dL_isTold_393 rfl rfl rfl ?_
                    refine g_iload (q := 396) dL_isTold_394 rfl rfl ?_
                    refine g_iconst (q := 397) dL_isTold_396 rfl ⟨by decide, by decide⟩ ?_
                    refine g_fnW (as := [zR 0, zI (fn : Int), zI 5]) (q := 400) (u' := 17 * fn + 24) dL_isTold_397 rfl ck_L_146 rfl rfl (Nat.le_of_ble_eq_true rfl) ⟨Nat.le_of_ble_eq_true rfl, Nat.le_of_ble_eq_true rfl⟩ rfl (show 17 * fn + 24 ≤ 400 by omega) (q5) ?_
                    refine g_aload (q := 402) dL_isTold_400 rfl rfl ?_
                    refine g_iload (q := 404) dL_isTold_402 rfl rfl ?_
                    refine g_ildv (q := 405) (z := S.2.1 46 (fn : Int)) dL_isTold_404 rfl ⟨by decide, rfl, rfl⟩ (by omega) (by omega) rfl ?_
                    refine g_fnS (as := [zI (S.2.1 46 (fn : Int))]) (q := 408) (u' := 17 * fn + 24) dL_isTold_405 rfl ck_L_148 rfl rfl (Nat.le_of_ble_eq_true rfl) ⟨Nat.le_of_ble_eq_true rfl, Nat.le_of_ble_eq_true rfl⟩ rfl (show 17 * fn + 24 ≤ 400 by omega) (s_L_account (by omega)) rfl ?_
                    refine g_icmp_ne (t := 432) (q := 411) dL_isTold_408 (by decide) rfl (fun h408 => ?_) (fun h408 => ?_)
                    · exact False.elim (by omega)
                    · refine g_aload_n (i := 0) (q := 412) dL_isTold_411 rfl rfl rfl ?_
                      refine g_iload (q := 414) dL_isTold_412 rfl rfl ?_
                      refine g_bipush (q := 416) dL_isTold_414 rfl ⟨by decide, by decide⟩ (by decide) ?_
                      refine g_fnW (as := [zR 0, zI (fn : Int), zI 6]) (q := 419) (u' := 17 * fn + 26) dL_isTold_416 rfl ck_L_146 rfl rfl (Nat.le_of_ble_eq_true rfl) ⟨Nat.le_of_ble_eq_true rfl, Nat.le_of_ble_eq_true rfl⟩ rfl (show 17 * fn + 26 ≤ 400 by omega) (q6) ?_
                      refine g_aload (q := 421) dL_isTold_419 rfl rfl ?_
                      refine g_iconst (q := 422) dL_isTold_421 rfl ⟨by decide, by decide⟩ ?_
                      refine g_ildv (q := 423) (z := S.2.1 47 2) dL_isTold_422 rfl ⟨by decide, rfl, rfl⟩ (by omega) (by omega) rfl ?_
                      refine g_aload (q := 425) dL_isTold_423 rfl rfl ?_
                      refine g_iload (q := 427) dL_isTold_425 rfl rfl ?_
                      refine g_ildv (q := 428) (z := S.2.1 45 (fn : Int)) dL_isTold_427 rfl ⟨by decide, rfl, rfl⟩ (by omega) (by omega) rfl ?_
                      refine g_isub (q := 429) dL_isTold_428 rfl (by constructor <;> omega) ?_
                      refine g_icmp_eq (t := 434) (q := 432) dL_isTold_429 (by decide) rfl (fun h429 => ?_) (fun h429 => ?_)
                      · refine g_aload_n (i := 0) (q := 435) dL_isTold_434 rfl rfl rfl ?_
                        refine g_iload (q := 437) dL_isTold_435 rfl rfl ?_
                        refine g_iload (q := 439) dL_isTold_437 rfl rfl ?_
                        refine g_fnW (as := [zR 0, zI (fn : Int), zI (zdg i)]) (q := 442) (u' := 17 * fn + 28) dL_isTold_439 rfl ck_L_151 rfl rfl (Nat.le_of_ble_eq_true rfl) ⟨Nat.le_of_ble_eq_true rfl, Nat.le_of_ble_eq_true rfl⟩ rfl (show 17 * fn + 28 ≤ 400 by omega) (q7) ?_
                        refine g_iload (q := 444) dL_isTold_442 rfl rfl ?_
                        refine g_iload (q := 446) dL_isTold_444 rfl rfl ?_
                        refine g_aload_n (i := 2) (q := 447) dL_isTold_446 rfl rfl rfl ?_
                        refine g_aload (q := 449) dL_isTold_447 rfl rfl ?_
                        refine g_fnS (as := [zI (fn : Int), zI i, zR 7, zR 48]) (q := 452) (u' := 17 * fn + 28) dL_isTold_449 rfl ck_L_119 rfl rfl (Nat.le_of_ble_eq_true rfl) ⟨Nat.le_of_ble_eq_true rfl, Nat.le_of_ble_eq_true rfl⟩ rfl (show 17 * fn + 28 ≤ 400 by omega) (s_L_isWith (by omega) (by omega) hT) rfl ?_
                        refine g_icmp_ne (t := 466) (q := 455) dL_isTold_452 (by decide) rfl (fun h452 => ?_) (fun h452 => ?_)
                        · exact False.elim (by omega)
                        · refine g_aload_n (i := 0) (q := 456) dL_isTold_455 rfl rfl rfl ?_
                          refine g_iload (q := 458) dL_isTold_456 rfl rfl ?_
                          refine g_fnW (as := [zR 0, zI (fn : Int)]) (q := 461) (u' := 17 * fn + 29) dL_isTold_458 rfl ck_L_153 rfl rfl (Nat.le_of_ble_eq_true rfl) ⟨Nat.le_of_ble_eq_true rfl, Nat.le_of_ble_eq_true rfl⟩ rfl (show 17 * fn + 29 ≤ 400 by omega) (q8) ?_
                          refine g_iload (q := 463) dL_isTold_461 rfl rfl ?_
                          refine g_icmp_eq (t := 468) (q := 466) dL_isTold_463 (by decide) rfl (fun h463 => ?_) (fun h463 => ?_)
                          · refine g_iinc (q := 471) (i := 11) (n := 1) dL_isTold_468 rfl rfl (by constructor <;> omega) ?_
                            refine g_goto (q := 0) (t := 179) dL_isTold_471 (by decide) ?_
                            exact z_G.widen (by omega) (hnx _ _ _ _ rfl)
                          · exact False.elim (by omega)
                      · exact False.elim (by omega)
              · refine g_iconst (q := 368) dL_isTold_367 rfl ⟨by decide, by decide⟩ ?_
                refine g_goto (q := 0) (t := 372) dL_isTold_368 (by decide) ?_
                refine g_icmp_ne (t := 432) (q := 375) dL_isTold_372 (by decide) rfl (fun h372 => ?_) (fun h372 => ?_)
                · exact False.elim (by omega)
                · refine g_aload_n (i := 0) (q := 376) dL_isTold_375 rfl rfl rfl ?_
                  refine g_iload (q := 378) dL_isTold_376 rfl rfl ?_
                  refine g_iconst (q := 379) dL_isTold_378 rfl ⟨by decide, by decide⟩ ?_
                  refine g_fnW (as := [zR 0, zI (fn : Int), zI 4]) (q := 382) (u' := 17 * fn + 22) dL_isTold_379 rfl ck_L_146 rfl rfl (Nat.le_of_ble_eq_true rfl) ⟨Nat.le_of_ble_eq_true rfl, Nat.le_of_ble_eq_true rfl⟩ rfl (show 17 * fn + 22 ≤ 400 by omega) (q4) ?_
                  refine g_aload (q := 384) dL_isTold_382 rfl rfl ?_
                  refine g_iload (q := 386) dL_isTold_384 rfl rfl ?_
                  refine g_ildv (q := 387) (z := S.2.1 46 (fn : Int)) dL_isTold_386 rfl ⟨by decide, rfl, rfl⟩ (by omega) (by omega) rfl ?_
                  refine g_bipush (q := 389) dL_isTold_387 rfl ⟨by decide, by decide⟩ (by decide) ?_
                  refine g_iandv (q := 390) (z := (S.2.1 46 (fn : Int)) % 64) dL_isTold_389 rfl (zAnd_m 6 (by decide) (by decide) (by omega) (by omega)) ?_
                  refine g_icmp_ne (t := 432) (q := 393) dL_isTold_390 (by decide) rfl (fun h390 => ?_) (fun h390 => ?_)
                  · exact False.elim (by omega)
                  · refine g_aload_n (i := 0) (q := 394) dL_isTold_393 rfl rfl rfl ?_
                    refine g_iload (q := 396) dL_isTold_394 rfl rfl ?_
                    refine g_iconst (q := 397) dL_isTold_396 rfl ⟨by decide, by decide⟩ ?_
                    refine g_fnW (as := [zR 0, zI (fn : Int), zI 5]) (q := 400) (u' := 17 * fn + 24) dL_isTold_397 rfl ck_L_146 rfl rfl (Nat.le_of_ble_eq_true rfl) ⟨Nat.le_of_ble_eq_true rfl, Nat.le_of_ble_eq_true rfl⟩ rfl (show 17 * fn + 24 ≤ 400 by omega) (q5) ?_
                    refine g_aload (q := 402) dL_isTold_400 rfl rfl ?_
                    refine g_iload (q := 404) dL_isTold_402 rfl rfl ?_
                    refine g_ildv (q := 405) (z := S.2.1 46 (fn : Int)) dL_isTold_404 rfl ⟨by decide, rfl, rfl⟩ (by omega) (by omega) rfl ?_
                    refine g_fnS (as := [zI (S.2.1 46 (fn : Int))]) (q := 408) (u' := 17 * fn + 24) dL_isTold_405 rfl ck_L_148 rfl rfl (Nat.le_of_ble_eq_true rfl) ⟨Nat.le_of_ble_eq_true rfl, Nat.le_of_ble_eq_true rfl⟩ rfl (show 17 * fn + 24 ≤ 400 by omega) (s_L_account (by omega)) rfl ?_
                    refine g_icmp_ne (t := 432) (q := 411) dL_isTold_408 (by decide) rfl (fun h408 => ?_) (fun h408 => ?_)
                    · exact False.elim (by omega)
                    · refine g_aload_n (i := 0) (q := 412) dL_isTold_411 rfl rfl rfl ?_
                      refine g_iload (q := 414) dL_isTold_412 rfl rfl ?_
                      refine g_bipush (q := 416) dL_isTold_414 rfl ⟨by decide, by decide⟩ (by decide) ?_
                      refine g_fnW (as := [zR 0, zI (fn : Int), zI 6]) (q := 419) (u' := 17 * fn + 26) dL_isTold_416 rfl ck_L_146 rfl rfl (Nat.le_of_ble_eq_true rfl) ⟨Nat.le_of_ble_eq_true rfl, Nat.le_of_ble_eq_true rfl⟩ rfl (show 17 * fn + 26 ≤ 400 by omega) (q6) ?_
                      refine g_aload (q := 421) dL_isTold_419 rfl rfl ?_
                      refine g_iconst (q := 422) dL_isTold_421 rfl ⟨by decide, by decide⟩ ?_
                      refine g_ildv (q := 423) (z := S.2.1 47 2) dL_isTold_422 rfl ⟨by decide, rfl, rfl⟩ (by omega) (by omega) rfl ?_
                      refine g_aload (q := 425) dL_isTold_423 rfl rfl ?_
                      refine g_iload (q := 427) dL_isTold_425 rfl rfl ?_
                      refine g_ildv (q := 428) (z := S.2.1 45 (fn : Int)) dL_isTold_427 rfl ⟨by decide, rfl, rfl⟩ (by omega) (by omega) rfl ?_
                      refine g_isub (q := 429) dL_isTold_428 rfl (by constructor <;> omega) ?_
                      refine g_icmp_eq (t := 434) (q := 432) dL_isTold_429 (by decide) rfl (fun h429 => ?_) (fun h429 => ?_)
                      · refine g_aload_n (i := 0) (q := 435) dL_isTold_434 rfl rfl rfl ?_
                        refine g_iload (q := 437) dL_isTold_435 rfl rfl ?_
                        refine g_iload (q := 439) dL_isTold_437 rfl rfl ?_
                        refine g_fnW (as := [zR 0, zI (fn : Int), zI (zdg i)]) (q := 442) (u' := 17 * fn + 28) dL_isTold_439 rfl ck_L_151 rfl rfl (Nat.le_of_ble_eq_true rfl) ⟨Nat.le_of_ble_eq_true rfl, Nat.le_of_ble_eq_true rfl⟩ rfl (show 17 * fn + 28 ≤ 400 by omega) (q7) ?_
                        refine g_iload (q := 444) dL_isTold_442 rfl rfl ?_
                        refine g_iload (q := 446) dL_isTold_444 rfl rfl ?_
                        refine g_aload_n (i := 2) (q := 447) dL_isTold_446 rfl rfl rfl ?_
                        refine g_aload (q := 449) dL_isTold_447 rfl rfl ?_
                        refine g_fnS (as := [zI (fn : Int), zI i, zR 7, zR 48]) (q := 452) (u' := 17 * fn + 28) dL_isTold_449 rfl ck_L_119 rfl rfl (Nat.le_of_ble_eq_true rfl) ⟨Nat.le_of_ble_eq_true rfl, Nat.le_of_ble_eq_true rfl⟩ rfl (show 17 * fn + 28 ≤ 400 by omega) (s_L_isWith (by omega) (by omega) hT) rfl ?_
                        refine g_icmp_ne (t := 466) (q := 455) dL_isTold_452 (by decide) rfl (fun h452 => ?_) (fun h452 => ?_)
                        · exact False.elim (by omega)
                        · refine g_aload_n (i := 0) (q := 456) dL_isTold_455 rfl rfl rfl ?_
                          refine g_iload (q := 458) dL_isTold_456 rfl rfl ?_
                          refine g_fnW (as := [zR 0, zI (fn : Int)]) (q := 461) (u' := 17 * fn + 29) dL_isTold_458 rfl ck_L_153 rfl rfl (Nat.le_of_ble_eq_true rfl) ⟨Nat.le_of_ble_eq_true rfl, Nat.le_of_ble_eq_true rfl⟩ rfl (show 17 * fn + 29 ≤ 400 by omega) (q8) ?_
                          refine g_iload (q := 463) dL_isTold_461 rfl rfl ?_
                          refine g_icmp_eq (t := 468) (q := 466) dL_isTold_463 (by decide) rfl (fun h463 => ?_) (fun h463 => ?_)
                          · refine g_iinc (q := 471) (i := 11) (n := 1) dL_isTold_468 rfl rfl (by constructor <;> omega) ?_
                            refine g_goto (q := 0) (t := 179) dL_isTold_471 (by decide) ?_
                            exact z_G.widen (by omega) (hnx _ _ _ _ rfl)
                          · exact False.elim (by omega)
                      · exact False.elim (by omega)
      · refine g_iconst (q := 318) dL_isTold_317 rfl ⟨by decide, by decide⟩ ?_
        refine g_goto (q := 0) (t := 322) dL_isTold_318 (by decide) ?_
        refine g_icmp_ne (t := 432) (q := 325) dL_isTold_322 (by decide) rfl (fun h322 => ?_) (fun h322 => ?_)
        · exact False.elim (by omega)
        · refine g_aload_n (i := 0) (q := 326) dL_isTold_325 rfl rfl rfl ?_
          refine g_iload (q := 328) dL_isTold_326 rfl rfl ?_
          refine g_iconst (q := 329) dL_isTold_328 rfl ⟨by decide, by decide⟩ ?_
          refine g_fnW (as := [zR 0, zI (fn : Int), zI 1]) (q := 332) (u' := 17 * fn + 16) dL_isTold_329 rfl ck_L_146 rfl rfl (Nat.le_of_ble_eq_true rfl) ⟨Nat.le_of_ble_eq_true rfl, Nat.le_of_ble_eq_true rfl⟩ rfl (show 17 * fn + 16 ≤ 400 by omega) (q1) ?_
          refine g_iload (q := 334) dL_isTold_332 rfl rfl ?_
          refine g_icmp_ne (t := 432) (q := 337) dL_isTold_334 (by decide) rfl (fun h334 => ?_) (fun h334 => ?_)
          · exact False.elim (by omega)
          · refine g_aload_n (i := 0) (q := 338) dL_isTold_337 rfl rfl rfl ?_
            refine g_iload (q := 340) dL_isTold_338 rfl rfl ?_
            refine g_iconst (q := 341) dL_isTold_340 rfl ⟨by decide, by decide⟩ ?_
            refine g_fnW (as := [zR 0, zI (fn : Int), zI 2]) (q := 344) (u' := 17 * fn + 18) dL_isTold_341 rfl ck_L_146 rfl rfl (Nat.le_of_ble_eq_true rfl) ⟨Nat.le_of_ble_eq_true rfl, Nat.le_of_ble_eq_true rfl⟩ rfl (show 17 * fn + 18 ≤ 400 by omega) (q2) ?_
            refine g_iload (q := 346) dL_isTold_344 rfl rfl ?_
            refine g_icmp_ne (t := 432) (q := 349) dL_isTold_346 (by decide) rfl (fun h346 => ?_) (fun h346 => ?_)
            · exact False.elim (by omega)
            · refine g_aload_n (i := 0) (q := 350) dL_isTold_349 rfl rfl rfl ?_
              refine g_iload (q := 352) dL_isTold_350 rfl rfl ?_
              refine g_iconst (q := 353) dL_isTold_352 rfl ⟨by decide, by decide⟩ ?_
              refine g_fnW (as := [zR 0, zI (fn : Int), zI 3]) (q := 356) (u' := 17 * fn + 20) dL_isTold_353 rfl ck_L_146 rfl rfl (Nat.le_of_ble_eq_true rfl) ⟨Nat.le_of_ble_eq_true rfl, Nat.le_of_ble_eq_true rfl⟩ rfl (show 17 * fn + 20 ≤ 400 by omega) (q3) ?_
              refine g_aload (q := 358) dL_isTold_356 rfl rfl ?_
              refine g_iload (q := 360) dL_isTold_358 rfl rfl ?_
              refine g_ildv (q := 361) (z := S.2.1 46 (fn : Int)) dL_isTold_360 rfl ⟨by decide, rfl, rfl⟩ (by omega) (by omega) rfl ?_
              refine g_fnS (as := [zI (S.2.1 46 (fn : Int))]) (q := 364) (u' := 17 * fn + 20) dL_isTold_361 rfl ck_L_104 rfl rfl (Nat.le_of_ble_eq_true rfl) ⟨Nat.le_of_ble_eq_true rfl, Nat.le_of_ble_eq_true rfl⟩ rfl (show 17 * fn + 20 ≤ 400 by omega) (s_L_isDown (by omega)) rfl ?_
              refine g_if_eq (t := 371) (q := 367) dL_isTold_364 (by decide) rfl (fun h364 => ?_) (fun h364 => ?_)
              · refine g_iconst (q := 372) dL_isTold_371 rfl ⟨by decide, by decide⟩ ?_
                refine g_icmp_ne (t := 432) (q := 375) dL_isTold_372 (by decide) rfl (fun h372 => ?_) (fun h372 => ?_)
                · exact False.elim (by omega)
                · refine g_aload_n (i := 0) (q := 376) dL_isTold_375 rfl rfl rfl ?_
                  refine g_iload (q := 378) dL_isTold_376 rfl rfl ?_
                  refine g_iconst (q := 379) dL_isTold_378 rfl ⟨by decide, by decide⟩ ?_
                  refine g_fnW (as := [zR 0, zI (fn : Int), zI 4]) (q := 382) (u' := 17 * fn + 22) dL_isTold_379 rfl ck_L_146 rfl rfl (Nat.le_of_ble_eq_true rfl) ⟨Nat.le_of_ble_eq_true rfl, Nat.le_of_ble_eq_true rfl⟩ rfl (show 17 * fn + 22 ≤ 400 by omega) (q4) ?_
                  refine g_aload (q := 384) dL_isTold_382 rfl rfl ?_
                  refine g_iload (q := 386) dL_isTold_384 rfl rfl ?_
                  refine g_ildv (q := 387) (z := S.2.1 46 (fn : Int)) dL_isTold_386 rfl ⟨by decide, rfl, rfl⟩ (by omega) (by omega) rfl ?_
                  refine g_bipush (q := 389) dL_isTold_387 rfl ⟨by decide, by decide⟩ (by decide) ?_
                  refine g_iandv (q := 390) (z := (S.2.1 46 (fn : Int)) % 64) dL_isTold_389 rfl (zAnd_m 6 (by decide) (by decide) (by omega) (by omega)) ?_
                  refine g_icmp_ne (t := 432) (q := 393) dL_isTold_390 (by decide) rfl (fun h390 => ?_) (fun h390 => ?_)
                  · exact False.elim (by omega)
                  · refine g_aload_n (i := 0) (q := 394) dL_isTold_393 rfl rfl rfl ?_
                    refine g_iload (q := 396) dL_isTold_394 rfl rfl ?_
                    refine g_iconst (q := 397) dL_isTold_396 rfl ⟨by decide, by decide⟩ ?_
                    refine g_fnW (as := [zR 0, zI (fn : Int), zI 5]) (q := 400) (u' := 17 * fn + 24) dL_isTold_397 rfl ck_L_146 rfl rfl (Nat.le_of_ble_eq_true rfl) ⟨Nat.le_of_ble_eq_true rfl, Nat.le_of_ble_eq_true rfl⟩ rfl (show 17 * fn + 24 ≤ 400 by omega) (q5) ?_
                    refine g_aload (q := 402) dL_isTold_400 rfl rfl ?_
                    refine g_iload (q := 404) dL_isTold_402 rfl rfl ?_
                    refine g_ildv (q := 405) (z := S.2.1 46 (fn : Int)) dL_isTold_404 rfl ⟨by decide, rfl, rfl⟩ (by omega) (by omega) rfl ?_
                    refine g_fnS (as := [zI (S.2.1 46 (fn : Int))]) (q := 408) (u' := 17 * fn + 24) dL_isTold_405 rfl ck_L_148 rfl rfl (Nat.le_of_ble_eq_true rfl) ⟨Nat.le_of_ble_eq_true rfl, Nat.le_of_ble_eq_true rfl⟩ rfl (show 17 * fn + 24 ≤ 400 by omega) (s_L_account (by omega)) rfl ?_
                    refine g_icmp_ne (t := 432) (q := 411) dL_isTold_408 (by decide) rfl (fun h408 => ?_) (fun h408 => ?_)
                    · exact False.elim (by omega)
                    · refine g_aload_n (i := 0) (q := 412) dL_isTold_411 rfl rfl rfl ?_
                      refine g_iload (q := 414) dL_isTold_412 rfl rfl ?_
                      refine g_bipush (q := 416) dL_isTold_414 rfl ⟨by decide, by decide⟩ (by decide) ?_
                      refine g_fnW (as := [zR 0, zI (fn : Int), zI 6]) (q := 419) (u' := 17 * fn + 26) dL_isTold_416 rfl ck_L_146 rfl rfl (Nat.le_of_ble_eq_true rfl) ⟨Nat.le_of_ble_eq_true rfl, Nat.le_of_ble_eq_true rfl⟩ rfl (show 17 * fn + 26 ≤ 400 by omega) (q6) ?_
                      refine g_aload (q := 421) dL_isTold_419 rfl rfl ?_
                      refine g_iconst (q := 422) dL_isTold_421 rfl ⟨by decide, by decide⟩ ?_
                      refine g_ildv (q := 423) (z := S.2.1 47 2) dL_isTold_422 rfl ⟨by decide, rfl, rfl⟩ (by omega) (by omega) rfl ?_
                      refine g_aload (q := 425) dL_isTold_423 rfl rfl ?_
                      refine g_iload (q := 427) dL_isTold_425 rfl rfl ?_
                      refine g_ildv (q := 428) (z := S.2.1 45 (fn : Int)) dL_isTold_427 rfl ⟨by decide, rfl, rfl⟩ (by omega) (by omega) rfl ?_
                      refine g_isub (q := 429) dL_isTold_428 rfl (by constructor <;> omega) ?_
                      refine g_icmp_eq (t := 434) (q := 432) dL_isTold_429 (by decide) rfl (fun h429 => ?_) (fun h429 => ?_)
                      · refine g_aload_n (i := 0) (q := 435) dL_isTold_434 rfl rfl rfl ?_
                        refine g_iload (q := 437) dL_isTold_435 rfl rfl ?_
                        refine g_iload (q := 439) dL_isTold_437 rfl rfl ?_
                        refine g_fnW (as := [zR 0, zI (fn : Int), zI (zdg i)]) (q := 442) (u' := 17 * fn + 28) dL_isTold_439 rfl ck_L_151 rfl rfl (Nat.le_of_ble_eq_true rfl) ⟨Nat.le_of_ble_eq_true rfl, Nat.le_of_ble_eq_true rfl⟩ rfl (show 17 * fn + 28 ≤ 400 by omega) (q7) ?_
                        refine g_iload (q := 444) dL_isTold_442 rfl rfl ?_
                        refine g_iload (q := 446) dL_isTold_444 rfl rfl ?_
                        refine g_aload_n (i := 2) (q := 447) dL_isTold_446 rfl rfl rfl ?_
                        refine g_aload (q := 449) dL_isTold_447 rfl rfl ?_
                        refine g_fnS (as := [zI (fn : Int), zI i, zR 7, zR 48]) (q := 452) (u' := 17 * fn + 28) dL_isTold_449 rfl ck_L_119 rfl rfl (Nat.le_of_ble_eq_true rfl) ⟨Nat.le_of_ble_eq_true rfl, Nat.le_of_ble_eq_true rfl⟩ rfl (show 17 * fn + 28 ≤ 400 by omega) (s_L_isWith (by omega) (by omega) hT) rfl ?_
                        refine g_icmp_ne (t := 466) (q := 455) dL_isTold_452 (by decide) rfl (fun h452 => ?_) (fun h452 => ?_)
                        · exact False.elim (by omega)
                        · refine g_aload_n (i := 0) (q := 456) dL_isTold_455 rfl rfl rfl ?_
                          refine g_iload (q := 458) dL_isTold_456 rfl rfl ?_
                          refine g_fnW (as := [zR 0, zI (fn : Int)]) (q := 461) (u' := 17 * fn + 29) dL_isTold_458 rfl ck_L_153 rfl rfl (Nat.le_of_ble_eq_true rfl) ⟨Nat.le_of_ble_eq_true rfl, Nat.le_of_ble_eq_true rfl⟩ rfl (show 17 * fn + 29 ≤ 400 by omega) (q8) ?_
                          refine g_iload (q := 463) dL_isTold_461 rfl rfl ?_
                          refine g_icmp_eq (t := 468) (q := 466) dL_isTold_463 (by decide) rfl (fun h463 => ?_) (fun h463 => ?_)
                          · refine g_iinc (q := 471) (i := 11) (n := 1) dL_isTold_468 rfl rfl (by constructor <;> omega) ?_
                            refine g_goto (q := 0) (t := 179) dL_isTold_471 (by decide) ?_
                            exact z_G.widen (by omega) (hnx _ _ _ _ rfl)
                          · exact False.elim (by omega)
                      · exact False.elim (by omega)
              · refine g_iconst (q := 368) dL_isTold_367 rfl ⟨by decide, by decide⟩ ?_
                refine g_goto (q := 0) (t := 372) dL_isTold_368 (by decide) ?_
                refine g_icmp_ne (t := 432) (q := 375) dL_isTold_372 (by decide) rfl (fun h372 => ?_) (fun h372 => ?_)
                · exact False.elim (by omega)
                · refine g_aload_n (i := 0) (q := 376) dL_isTold_375 rfl rfl rfl ?_
                  refine g_iload (q := 378) dL_isTold_376 rfl rfl ?_
                  refine g_iconst (q := 379) dL_isTold_378 rfl ⟨by decide, by decide⟩ ?_
                  refine g_fnW (as := [zR 0, zI (fn : Int), zI 4]) (q := 382) (u' := 17 * fn + 22) dL_isTold_379 rfl ck_L_146 rfl rfl (Nat.le_of_ble_eq_true rfl) ⟨Nat.le_of_ble_eq_true rfl, Nat.le_of_ble_eq_true rfl⟩ rfl (show 17 * fn + 22 ≤ 400 by omega) (q4) ?_
                  refine g_aload (q := 384) dL_isTold_382 rfl rfl ?_
                  refine g_iload (q := 386) dL_isTold_384 rfl rfl ?_
                  refine g_ildv (q := 387) (z := S.2.1 46 (fn : Int)) dL_isTold_386 rfl ⟨by decide, rfl, rfl⟩ (by omega) (by omega) rfl ?_
                  refine g_bipush (q := 389) dL_isTold_387 rfl ⟨by decide, by decide⟩ (by decide) ?_
                  refine g_iandv (q := 390) (z := (S.2.1 46 (fn : Int)) % 64) dL_isTold_389 rfl (zAnd_m 6 (by decide) (by decide) (by omega) (by omega)) ?_
                  refine g_icmp_ne (t := 432) (q := 393) dL_isTold_390 (by decide) rfl (fun h390 => ?_) (fun h390 => ?_)
                  · exact False.elim (by omega)
                  · refine g_aload_n (i := 0) (q := 394) dL_isTold_393 rfl rfl rfl ?_
                    refine g_iload (q := 396) dL_isTold_394 rfl rfl ?_
                    refine g_iconst (q := 397) dL_isTold_396 rfl ⟨by decide, by decide⟩ ?_
                    refine g_fnW (as := [zR 0, zI (fn : Int), zI 5]) (q := 400) (u' := 17 * fn + 24) dL_isTold_397 rfl ck_L_146 rfl rfl (Nat.le_of_ble_eq_true rfl) ⟨Nat.le_of_ble_eq_true rfl, Nat.le_of_ble_eq_true rfl⟩ rfl (show 17 * fn + 24 ≤ 400 by omega) (q5) ?_
                    refine g_aload (q := 402) dL_isTold_400 rfl rfl ?_
                    refine g_iload (q := 404) dL_isTold_402 rfl rfl ?_
                    refine g_ildv (q := 405) (z := S.2.1 46 (fn : Int)) dL_isTold_404 rfl ⟨by decide, rfl, rfl⟩ (by omega) (by omega) rfl ?_
                    refine g_fnS (as := [zI (S.2.1 46 (fn : Int))]) (q := 408) (u' := 17 * fn + 24) dL_isTold_405 rfl ck_L_148 rfl rfl (Nat.le_of_ble_eq_true rfl) ⟨Nat.le_of_ble_eq_true rfl, Nat.le_of_ble_eq_true rfl⟩ rfl (show 17 * fn + 24 ≤ 400 by omega) (s_L_account (by omega)) rfl ?_
                    refine g_icmp_ne (t := 432) (q := 411) dL_isTold_408 (by decide) rfl (fun h408 => ?_) (fun h408 => ?_)
                    · exact False.elim (by omega)
                    · refine g_aload_n (i := 0) (q := 412) dL_isTold_411 rfl rfl rfl ?_
                      refine g_iload (q := 414) dL_isTold_412 rfl rfl ?_
                      refine g_bipush (q := 416) dL_isTold_414 rfl ⟨by decide, by decide⟩ (by decide) ?_
                      refine g_fnW (as := [zR 0, zI (fn : Int), zI 6]) (q := 419) (u' := 17 * fn + 26) dL_isTold_416 rfl ck_L_146 rfl rfl (Nat.le_of_ble_eq_true rfl) ⟨Nat.le_of_ble_eq_true rfl, Nat.le_of_ble_eq_true rfl⟩ rfl (show 17 * fn + 26 ≤ 400 by omega) (q6) ?_
                      refine g_aload (q := 421) dL_isTold_419 rfl rfl ?_
                      refine g_iconst (q := 422) dL_isTold_421 rfl ⟨by decide, by decide⟩ ?_
                      refine g_ildv (q := 423) (z := S.2.1 47 2) dL_isTold_422 rfl ⟨by decide, rfl, rfl⟩ (by omega) (by omega) rfl ?_
                      refine g_aload (q := 425) dL_isTold_423 rfl rfl ?_
                      refine g_iload (q := 427) dL_isTold_425 rfl rfl ?_
                      refine g_ildv (q := 428) (z := S.2.1 45 (fn : Int)) dL_isTold_427 rfl ⟨by decide, rfl, rfl⟩ (by omega) (by omega) rfl ?_
                      refine g_isub (q := 429) dL_isTold_428 rfl (by constructor <;> omega) ?_
                      refine g_icmp_eq (t := 434) (q := 432) dL_isTold_429 (by decide) rfl (fun h429 => ?_) (fun h429 => ?_)
                      · refine g_aload_n (i := 0) (q := 435) dL_isTold_434 rfl rfl rfl ?_
                        refine g_iload (q := 437) dL_isTold_435 rfl rfl ?_
                        refine g_iload (q := 439) dL_isTold_437 rfl rfl ?_
                        refine g_fnW (as := [zR 0, zI (fn : Int), zI (zdg i)]) (q := 442) (u' := 17 * fn + 28) dL_isTold_439 rfl ck_L_151 rfl rfl (Nat.le_of_ble_eq_true rfl) ⟨Nat.le_of_ble_eq_true rfl, Nat.le_of_ble_eq_true rfl⟩ rfl (show 17 * fn + 28 ≤ 400 by omega) (q7) ?_
                        refine g_iload (q := 444) dL_isTold_442 rfl rfl ?_
                        refine g_iload (q := 446) dL_isTold_444 rfl rfl ?_
                        refine g_aload_n (i := 2) (q := 447) dL_isTold_446 rfl rfl rfl ?_
                        refine g_aload (q := 449) dL_isTold_447 rfl rfl ?_
                        refine g_fnS (as := [zI (fn : Int), zI i, zR 7, zR 48]) (q := 452) (u' := 17 * fn + 28) dL_isTold_449 rfl ck_L_119 rfl rfl (Nat.le_of_ble_eq_true rfl) ⟨Nat.le_of_ble_eq_true rfl, Nat.le_of_ble_eq_true rfl⟩ rfl (show 17 * fn + 28 ≤ 400 by omega) (s_L_isWith (by omega) (by omega) hT) rfl ?_
                        refine g_icmp_ne (t := 466) (q := 455) dL_isTold_452 (by decide) rfl (fun h452 => ?_) (fun h452 => ?_)
                        · exact False.elim (by omega)
                        · refine g_aload_n (i := 0) (q := 456) dL_isTold_455 rfl rfl rfl ?_
                          refine g_iload (q := 458) dL_isTold_456 rfl rfl ?_
                          refine g_fnW (as := [zR 0, zI (fn : Int)]) (q := 461) (u' := 17 * fn + 29) dL_isTold_458 rfl ck_L_153 rfl rfl (Nat.le_of_ble_eq_true rfl) ⟨Nat.le_of_ble_eq_true rfl, Nat.le_of_ble_eq_true rfl⟩ rfl (show 17 * fn + 29 ≤ 400 by omega) (q8) ?_
                          refine g_iload (q := 463) dL_isTold_461 rfl rfl ?_
                          refine g_icmp_eq (t := 468) (q := 466) dL_isTold_463 (by decide) rfl (fun h463 => ?_) (fun h463 => ?_)
                          · refine g_iinc (q := 471) (i := 11) (n := 1) dL_isTold_468 rfl rfl (by constructor <;> omega) ?_
                            refine g_goto (q := 0) (t := 179) dL_isTold_471 (by decide) ?_
                            exact z_G.widen (by omega) (hnx _ _ _ _ rfl)
                          · exact False.elim (by omega)
                      · exact False.elim (by omega)
    have hB := l_told_nums (v := v) (i := i) (n := zdg i) h (fn := fn) (by omega) hf hC 12 0 (by omega)
    have hA := l_told_blocks (S := S) (v := v) (i := i) (n := zdg i) (fn := fn) (Q := Q) (by omega) hf (by
      refine g_iconst (q := 230) dL_isTold_229 rfl ⟨by decide, by decide⟩ ?_
      refine g_istore (q := 232) dL_isTold_230 rfl (Nat.le_of_ble_eq_true rfl) ?_
      exact hB) 4 0 (by omega)
    refine g_iload (q := 181) dL_isTold_179 rfl rfl ?_
    refine g_bipush (q := 183) dL_isTold_181 rfl ⟨by decide, by decide⟩ (by decide) ?_
    refine g_icmp_ge (t := 474) (q := 186) dL_isTold_183 (by decide) rfl (fun h183 => (False.elim (by omega))) (fun h183 => ?_)
    refine g_iconst (q := 187) dL_isTold_186 rfl ⟨by decide, by decide⟩ ?_
    refine g_istore (q := 189) dL_isTold_187 rfl (Nat.le_of_ble_eq_true rfl) ?_
    refine g_iconst (q := 190) dL_isTold_189 rfl ⟨by decide, by decide⟩ ?_
    refine g_istore (q := 192) dL_isTold_190 rfl (Nat.le_of_ble_eq_true rfl) ?_
    refine g_iconst (q := 193) dL_isTold_192 rfl ⟨by decide, by decide⟩ ?_
    refine g_istore (q := 195) dL_isTold_193 rfl (Nat.le_of_ble_eq_true rfl) ?_
    refine g_iconst (q := 196) dL_isTold_195 rfl ⟨by decide, by decide⟩ ?_
    refine g_istore (q := 198) dL_isTold_196 rfl (Nat.le_of_ble_eq_true rfl) ?_
    exact hA
/-- behind the firms: an order, room, the ways -/
theorem l_told_rest (h : Rel S S) (hb : zAb S) (hi : 0 ≤ i ∧ i < 12) (hQ : ∀ U, zRt S U → Q (.ok (some (zI 1))) U) : z_G mL_isTold (z_F mL_isTold Q) 114 474 [some (zR 0), some (zI v), some (zR 7), some (zR 40), some (zR 42), some (zR 48), some (zR 45), some (zR 46), some (zR 47), some (zI i), some (zI (zdg i)), none, none, none, none, none, none, none, none, none] [] S := by
  have hO := h.yO'
  obtain ⟨c, ec⟩ : ∃ c, c = (S.1 1).toNat := ⟨_, rfl⟩
  rw [← ec] at hO
  have h1 := h.ord
  have h0 := h.ordr
  have hn := h.now
  have hnr := h.nowr
  have kD : ∀ f : Int, 0 ≤ f ∧ f < 6 → z_G mL_isTold (z_F mL_isTold Q) 127 707 [some (zR 0), some (zI v), some (zR 7), some (zR 40), some (zR 42), some (zR 48), some (zR 45), some (zR 46), some (zR 47), some (zI i), some (zI (zdg i)), none, none, some (zI f), none, none, none, none, none, none] [] S := by
    intro f hf
    have hw := l_told_way (v := v) h hb hi hf hQ 3 0 S (by omega) zRt.rf
    refine g_iconst (q := 708) dL_isTold_707 rfl ⟨by decide, by decide⟩ ?_
    refine g_istore (q := 710) dL_isTold_708 rfl (Nat.le_of_ble_eq_true rfl) ?_
    exact hw
  have kC : z_G mL_isTold (z_F mL_isTold Q) 126 626 [some (zR 0), some (zI v), some (zR 7), some (zR 40), some (zR 42), some (zR 48), some (zR 45), some (zR 46), some (zR 47), some (zI i), some (zI (zdg i)), none, none, none, none, none, none, none, none, none] [] S := by
    have hl1 := zlow_rng (v := zShr v 7) (n := 400) (by omega)
    have hl2 := zlow_rng (v := zShr v 9) (n := 6) (by omega)
    have kE : ∀ at_, z_G mL_isTold (z_F mL_isTold Q) 127 696 [some (zR 0), some (zI v), some (zR 7), some (zR 40), some (zR 42), some (zR 48), some (zR 45), some (zR 46), some (zR 47), some (zI i), some (zI (zdg i)), none, some (zI at_), none, none, none, none, none, none, none] [] S := by
      intro at_
      refine g_iload_n (i := 1) (q := 697) dL_isTold_696 rfl rfl rfl ?_
      refine g_bipush (q := 699) dL_isTold_697 rfl ⟨by decide, by decide⟩ (by decide) ?_
      refine g_ishrv (q := 700) (z := zShr v 9) dL_isTold_699 rfl (rfl) ?_
      refine g_bipush (q := 702) dL_isTold_700 rfl ⟨by decide, by decide⟩ (by decide) ?_
      refine g_fnS (as := [zI (zShr v 9), zI 6]) (q := 705) (u' := 127) dL_isTold_702 rfl ck_L_125 rfl rfl (Nat.le_of_ble_eq_true rfl) ⟨Nat.le_of_ble_eq_true rfl, Nat.le_of_ble_eq_true rfl⟩ rfl (by decide) (s_L_low (by omega)) rfl ?_
      refine g_istore (q := 707) dL_isTold_705 rfl (Nat.le_of_ble_eq_true rfl) ?_
      exact g_forget (z_sub_r (z_sub_r (z_sub_r (z_sub_r (z_sub_r (z_sub_r (z_sub_r (z_sub_r (z_sub_r (z_sub_r (z_sub_r (z_sub_n (z_sub_n (z_sub_r (z_sub_n (z_sub_n (z_sub_n (z_sub_n (z_sub_n (z_sub_n z_sub_0)))))))))))))))))))) (kD _ hl2)
    obtain ⟨at_, eat⟩ : ∃ z, z = S.2.1 47 0 - 10 + zlow (zShr v 7) 400 := ⟨_, rfl⟩
    have ka := kE at_
    by_cases c0 : at_ < 0
    · rw [eat] at ka
      refine g_aload (q := 628) dL_isTold_626 rfl rfl ?_
      refine g_iconst (q := 629) dL_isTold_628 rfl ⟨by decide, by decide⟩ ?_
      refine g_ildv (q := 630) (z := S.2.1 47 0) dL_isTold_629 rfl ⟨by decide, rfl, rfl⟩ (by omega) (by omega) rfl ?_
      refine g_bipush (q := 632) dL_isTold_630 rfl ⟨by decide, by decide⟩ (by decide) ?_
      refine g_isub (q := 633) dL_isTold_632 rfl (by constructor <;> omega) ?_
      refine g_iload_n (i := 1) (q := 634) dL_isTold_633 rfl rfl rfl ?_
      refine g_bipush (q := 636) dL_isTold_634 rfl ⟨by decide, by decide⟩ (by decide) ?_
      refine g_ishrv (q := 637) (z := zShr v 7) dL_isTold_636 rfl (rfl) ?_
      refine g_sipush (q := 640) dL_isTold_637 rfl ⟨by decide, by decide⟩ (by decide) ?_
      refine g_fnS (as := [zI (zShr v 7), zI 400]) (q := 643) (u' := 126) dL_isTold_640 rfl ck_L_125 rfl rfl (Nat.le_of_ble_eq_true rfl) ⟨Nat.le_of_ble_eq_true rfl, Nat.le_of_ble_eq_true rfl⟩ rfl (by decide) (s_L_low (by omega)) rfl ?_
      refine g_iadd (q := 644) dL_isTold_643 rfl (by constructor <;> omega) ?_
      refine g_istore (q := 646) dL_isTold_644 rfl (Nat.le_of_ble_eq_true rfl) ?_
      refine g_iload (q := 648) dL_isTold_646 rfl rfl ?_
      refine g_if_lt (t := 696) (q := 651) dL_isTold_648 (by decide) rfl (fun h648 => ?_) (fun h648 => (False.elim (by omega)))
      exact z_G.widen (by omega) ka
    · have hr := q_room h (m := at_) (by omega)
      rw [← ec] at hr
      have hle := y_wa_le S at_ c
      by_cases c1 : ¬ at_ % 100 < 20 ∨ at_ ≤ S.2.1 47 0
      · rw [if_pos c1] at hr
        rw [eat] at ka hr c0 c1 hle
        refine g_aload (q := 628) dL_isTold_626 rfl rfl ?_
        refine g_iconst (q := 629) dL_isTold_628 rfl ⟨by decide, by decide⟩ ?_
        refine g_ildv (q := 630) (z := S.2.1 47 0) dL_isTold_629 rfl ⟨by decide, rfl, rfl⟩ (by omega) (by omega) rfl ?_
        refine g_bipush (q := 632) dL_isTold_630 rfl ⟨by decide, by decide⟩ (by decide) ?_
        refine g_isub (q := 633) dL_isTold_632 rfl (by constructor <;> omega) ?_
        refine g_iload_n (i := 1) (q := 634) dL_isTold_633 rfl rfl rfl ?_
        refine g_bipush (q := 636) dL_isTold_634 rfl ⟨by decide, by decide⟩ (by decide) ?_
        refine g_ishrv (q := 637) (z := zShr v 7) dL_isTold_636 rfl (rfl) ?_
        refine g_sipush (q := 640) dL_isTold_637 rfl ⟨by decide, by decide⟩ (by decide) ?_
        refine g_fnS (as := [zI (zShr v 7), zI 400]) (q := 643) (u' := 126) dL_isTold_640 rfl ck_L_125 rfl rfl (Nat.le_of_ble_eq_true rfl) ⟨Nat.le_of_ble_eq_true rfl, Nat.le_of_ble_eq_true rfl⟩ rfl (by decide) (s_L_low (by omega)) rfl ?_
        refine g_iadd (q := 644) dL_isTold_643 rfl (by constructor <;> omega) ?_
        refine g_istore (q := 646) dL_isTold_644 rfl (Nat.le_of_ble_eq_true rfl) ?_
        refine g_iload (q := 648) dL_isTold_646 rfl rfl ?_
        refine g_if_lt (t := 696) (q := 651) dL_isTold_648 (by decide) rfl (fun h648 => (False.elim (by omega))) (fun h648 => ?_)
        refine g_aload_n (i := 0) (q := 652) dL_isTold_651 rfl rfl rfl ?_
        refine g_iload (q := 654) dL_isTold_652 rfl rfl ?_
        refine g_fnW (as := [zR 0, zI (((S.2.1 47 0) - 10) + (zlow (zShr v 7) 400))]) (q := 657) (u' := 127) dL_isTold_654 rfl ck_L_160 rfl rfl (Nat.le_of_ble_eq_true rfl) ⟨Nat.le_of_ble_eq_true rfl, Nat.le_of_ble_eq_true rfl⟩ rfl (by decide) (hr) ?_
        refine g_iload (q := 659) dL_isTold_657 rfl rfl ?_
        refine g_aload (q := 661) dL_isTold_659 rfl rfl ?_
        refine g_iconst (q := 662) dL_isTold_661 rfl ⟨by decide, by decide⟩ ?_
        refine g_ildv (q := 663) (z := S.2.1 47 0) dL_isTold_662 rfl ⟨by decide, rfl, rfl⟩ (by omega) (by omega) rfl ?_
        refine g_icmp_le (t := 690) (q := 666) dL_isTold_663 (by decide) rfl (fun h663 => ?_) (fun h663 => ?_)
        · refine g_iconst (q := 691) dL_isTold_690 rfl ⟨by decide, by decide⟩ ?_
          refine g_icmp_eq (t := 696) (q := 694) dL_isTold_691 (by decide) rfl (fun h691 => ?_) (fun h691 => (False.elim (by omega)))
          exact ka
        · refine g_iload (q := 668) dL_isTold_666 rfl rfl ?_
          refine g_bipush (q := 670) dL_isTold_668 rfl ⟨by decide, by decide⟩ (by decide) ?_
          refine g_irem (q := 671) dL_isTold_670 rfl (by omega) (by omega) ?_
          refine g_bipush (q := 673) dL_isTold_671 rfl ⟨by decide, by decide⟩ (by decide) ?_
          refine g_icmp_ge (t := 690) (q := 676) dL_isTold_673 (by decide) rfl (fun h673 => ?_) (fun h673 => ?_)
          · refine g_iconst (q := 691) dL_isTold_690 rfl ⟨by decide, by decide⟩ ?_
            refine g_icmp_eq (t := 696) (q := 694) dL_isTold_691 (by decide) rfl (fun h691 => ?_) (fun h691 => (False.elim (by omega)))
            exact ka
          · exact False.elim (by omega)
      · rw [if_neg c1] at hr
        rw [eat] at ka hr c0 c1 hle
        refine g_aload (q := 628) dL_isTold_626 rfl rfl ?_
        refine g_iconst (q := 629) dL_isTold_628 rfl ⟨by decide, by decide⟩ ?_
        refine g_ildv (q := 630) (z := S.2.1 47 0) dL_isTold_629 rfl ⟨by decide, rfl, rfl⟩ (by omega) (by omega) rfl ?_
        refine g_bipush (q := 632) dL_isTold_630 rfl ⟨by decide, by decide⟩ (by decide) ?_
        refine g_isub (q := 633) dL_isTold_632 rfl (by constructor <;> omega) ?_
        refine g_iload_n (i := 1) (q := 634) dL_isTold_633 rfl rfl rfl ?_
        refine g_bipush (q := 636) dL_isTold_634 rfl ⟨by decide, by decide⟩ (by decide) ?_
        refine g_ishrv (q := 637) (z := zShr v 7) dL_isTold_636 rfl (rfl) ?_
        refine g_sipush (q := 640) dL_isTold_637 rfl ⟨by decide, by decide⟩ (by decide) ?_
        refine g_fnS (as := [zI (zShr v 7), zI 400]) (q := 643) (u' := 126) dL_isTold_640 rfl ck_L_125 rfl rfl (Nat.le_of_ble_eq_true rfl) ⟨Nat.le_of_ble_eq_true rfl, Nat.le_of_ble_eq_true rfl⟩ rfl (by decide) (s_L_low (by omega)) rfl ?_
        refine g_iadd (q := 644) dL_isTold_643 rfl (by constructor <;> omega) ?_
        refine g_istore (q := 646) dL_isTold_644 rfl (Nat.le_of_ble_eq_true rfl) ?_
        refine g_iload (q := 648) dL_isTold_646 rfl rfl ?_
        refine g_if_lt (t := 696) (q := 651) dL_isTold_648 (by decide) rfl (fun h648 => (False.elim (by omega))) (fun h648 => ?_)
        refine g_aload_n (i := 0) (q := 652) dL_isTold_651 rfl rfl rfl ?_
        refine g_iload (q := 654) dL_isTold_652 rfl rfl ?_
        refine g_fnW (as := [zR 0, zI (((S.2.1 47 0) - 10) + (zlow (zShr v 7) 400))]) (q := 657) (u' := 127) dL_isTold_654 rfl ck_L_160 rfl rfl (Nat.le_of_ble_eq_true rfl) ⟨Nat.le_of_ble_eq_true rfl, Nat.le_of_ble_eq_true rfl⟩ rfl (by decide) (hr) ?_
        refine g_iload (q := 659) dL_isTold_657 rfl rfl ?_
        refine g_aload (q := 661) dL_isTold_659 rfl rfl ?_
        refine g_iconst (q := 662) dL_isTold_661 rfl ⟨by decide, by decide⟩ ?_
        refine g_ildv (q := 663) (z := S.2.1 47 0) dL_isTold_662 rfl ⟨by decide, rfl, rfl⟩ (by omega) (by omega) rfl ?_
        refine g_icmp_le (t := 690) (q := 666) dL_isTold_663 (by decide) rfl (fun h663 => (False.elim (by omega))) (fun h663 => ?_)
        refine g_iload (q := 668) dL_isTold_666 rfl rfl ?_
        refine g_bipush (q := 670) dL_isTold_668 rfl ⟨by decide, by decide⟩ (by decide) ?_
        refine g_irem (q := 671) dL_isTold_670 rfl (by omega) (by omega) ?_
        refine g_bipush (q := 673) dL_isTold_671 rfl ⟨by decide, by decide⟩ (by decide) ?_
        refine g_icmp_ge (t := 690) (q := 676) dL_isTold_673 (by decide) rfl (fun h673 => (False.elim (by omega))) (fun h673 => ?_)
        refine g_iconst (q := 677) dL_isTold_676 rfl ⟨by decide, by decide⟩ ?_
        refine g_iload (q := 679) dL_isTold_677 rfl rfl ?_
        refine g_aload (q := 681) dL_isTold_679 rfl rfl ?_
        refine g_aload (q := 683) dL_isTold_681 rfl rfl ?_
        refine g_fnS (as := [zI (((S.2.1 47 0) - 10) + (zlow (zShr v 7) 400)), zR 42, zR 47]) (q := 686) (u' := 127) dL_isTold_683 rfl ck_L_162 rfl rfl (Nat.le_of_ble_eq_true rfl) ⟨Nat.le_of_ble_eq_true rfl, Nat.le_of_ble_eq_true rfl⟩ rfl (by decide) (s_L_waitAt hO) rfl ?_
        refine g_isub (q := 687) dL_isTold_686 rfl (by constructor <;> omega) ?_
        refine g_goto (q := 0) (t := 691) dL_isTold_687 (by decide) ?_
        refine g_icmp_eq (t := 696) (q := 694) dL_isTold_691 (by decide) rfl (fun h691 => ?_) (fun h691 => ?_)
        · exact ka
        · refine g_iconst (q := 695) dL_isTold_694 rfl ⟨by decide, by decide⟩ ?_
          exact g_retz dL_isTold_695 rfl (by omega) (by decide) (by first | exact ⟨rfl, rfl⟩ | (exfalso; omega))
  by_cases c0 : S.2.1 47 1 = 0
  · skip
    refine g_aload (q := 476) dL_isTold_474 rfl rfl ?_
    refine g_iconst (q := 477) dL_isTold_476 rfl ⟨by decide, by decide⟩ ?_
    refine g_ildv (q := 478) (z := S.2.1 47 1) dL_isTold_477 rfl ⟨by decide, rfl, rfl⟩ (by omega) (by omega) rfl ?_
    refine g_if_ne (t := 485) (q := 481) dL_isTold_478 (by decide) rfl (fun h478 => (False.elim (by omega))) (fun h478 => ?_)
    refine g_iconst (q := 482) dL_isTold_481 rfl ⟨by decide, by decide⟩ ?_
    refine g_goto (q := 0) (t := 495) dL_isTold_482 (by decide) ?_
    refine g_istore (q := 497) dL_isTold_495 rfl (Nat.le_of_ble_eq_true rfl) ?_
    refine g_iload (q := 499) dL_isTold_497 rfl rfl ?_
    refine g_iconst (q := 500) dL_isTold_499 rfl ⟨by decide, by decide⟩ ?_
    refine g_icmp_eq (t := 626) (q := 503) dL_isTold_500 (by decide) rfl (fun h500 => ?_) (fun h500 => (False.elim (by omega)))
    exact g_forget (z_sub_r (z_sub_r (z_sub_r (z_sub_r (z_sub_r (z_sub_r (z_sub_r (z_sub_r (z_sub_r (z_sub_r (z_sub_r (z_sub_n (z_sub_n (z_sub_n (z_sub_n (z_sub_n (z_sub_n (z_sub_n (z_sub_n (z_sub_n z_sub_0)))))))))))))))))))) (z_G.widen (by omega) kC)
  · have hl := zlow_rng (v := zShr v 4) (n := S.2.1 47 1) (by omega)
    obtain ⟨a, ea⟩ : ∃ z, z = zlow (zShr v 4) (S.2.1 47 1) := ⟨_, rfl⟩
    rw [← ea] at hl
    have ha : 0 ≤ a ∧ a < S.1 1 := by omega
    have qv := h.orv a ha.1 ha.2
    have qs := h.ors a ha.1 ha.2
    have q0 := q_of h ha (w := 0) (z := S.2.1 42 a % 8) (by decide) (by rw [if_pos rfl]; exact qs.1)
    have q1 := q_of h ha (w := 1) (z := S.2.1 42 a / 8 % 8) (by decide) (by rw [if_neg (by decide), if_pos rfl]; exact qs.2.1)
    have q2 := q_of h ha (w := 2) (z := zdg (S.2.1 42 a / 64 % 16)) (by decide) (by rw [if_neg (by decide), if_neg (by decide), if_pos rfl]; exact qs.2.2.1)
    have q3 := q_of h ha (w := 3) (z := S.2.1 42 a / 1024 % 8) (by decide) (by rw [if_neg (by decide), if_neg (by decide), if_neg (by decide), if_pos rfl]; exact qs.2.2.2.1)
    have q4 := q_of h ha (w := 4) (z := S.2.1 42 a / 8192 % 8 - 1) (by decide) (by rw [if_neg (by decide), if_neg (by decide), if_neg (by decide), if_neg (by decide), if_pos rfl]; exact qs.2.2.2.2.1)
    have q5 := q_of h ha (w := 5) (z := S.2.1 42 a / 65536) (by decide) (by rw [if_neg (by decide), if_neg (by decide), if_neg (by decide), if_neg (by decide), if_neg (by decide)]; exact qs.2.2.2.2.2)
    have kA : z_G mL_isTold (z_F mL_isTold Q) 114 495 [some (zR 0), some (zI v), some (zR 7), some (zR 40), some (zR 42), some (zR 48), some (zR 45), some (zR 46), some (zR 47), some (zI i), some (zI (zdg i)), none, none, none, none, none, none, none, none, none] [zI a] S := by
      refine g_istore (q := 497) dL_isTold_495 rfl (Nat.le_of_ble_eq_true rfl) ?_
      refine g_iload (q := 499) dL_isTold_497 rfl rfl ?_
      refine g_iconst (q := 500) dL_isTold_499 rfl ⟨by decide, by decide⟩ ?_
      refine g_icmp_eq (t := 626) (q := 503) dL_isTold_500 (by decide) rfl (fun h500 => (False.elim (by omega))) (fun h500 => ?_)
      refine g_aload_n (i := 0) (q := 504) dL_isTold_503 rfl rfl rfl ?_
      refine g_iload (q := 506) dL_isTold_504 rfl rfl ?_
      refine g_iconst (q := 507) dL_isTold_506 rfl ⟨by decide, by decide⟩ ?_
      refine g_fnW (as := [zR 0, zI a, zI 0]) (q := 510) (u' := 116) dL_isTold_507 rfl ck_L_155 rfl rfl (Nat.le_of_ble_eq_true rfl) ⟨Nat.le_of_ble_eq_true rfl, Nat.le_of_ble_eq_true rfl⟩ rfl (by decide) (q0) ?_
      refine g_aload (q := 512) dL_isTold_510 rfl rfl ?_
      refine g_iload (q := 514) dL_isTold_512 rfl rfl ?_
      refine g_ildv (q := 515) (z := S.2.1 42 a) dL_isTold_514 rfl ⟨by decide, rfl, rfl⟩ (by omega) (by omega) rfl ?_
      refine g_fnS (as := [zI (S.2.1 42 a)]) (q := 518) (u' := 116) dL_isTold_515 rfl ck_L_96 rfl rfl (Nat.le_of_ble_eq_true rfl) ⟨Nat.le_of_ble_eq_true rfl, Nat.le_of_ble_eq_true rfl⟩ rfl (by decide) (s_L_state (by omega)) rfl ?_
      refine g_icmp_ne (t := 624) (q := 521) dL_isTold_518 (by decide) rfl (fun h518 => ?_) (fun h518 => ?_)
      · exact False.elim (by omega)
      · refine g_aload_n (i := 0) (q := 522) dL_isTold_521 rfl rfl rfl ?_
        refine g_iload (q := 524) dL_isTold_522 rfl rfl ?_
        refine g_iconst (q := 525) dL_isTold_524 rfl ⟨by decide, by decide⟩ ?_
        refine g_fnW (as := [zR 0, zI a, zI 1]) (q := 528) (u' := 118) dL_isTold_525 rfl ck_L_155 rfl rfl (Nat.le_of_ble_eq_true rfl) ⟨Nat.le_of_ble_eq_true rfl, Nat.le_of_ble_eq_true rfl⟩ rfl (by decide) (q1) ?_
        refine g_aload (q := 530) dL_isTold_528 rfl rfl ?_
        refine g_iload (q := 532) dL_isTold_530 rfl rfl ?_
        refine g_ildv (q := 533) (z := S.2.1 42 a) dL_isTold_532 rfl ⟨by decide, rfl, rfl⟩ (by omega) (by omega) rfl ?_
        refine g_iconst (q := 534) dL_isTold_533 rfl ⟨by decide, by decide⟩ ?_
        refine g_ishrv (q := 535) (z := (S.2.1 42 a) / 8) dL_isTold_534 rfl (zShr_p 3 (by decide) (by decide) (by constructor <;> omega)) ?_
        refine g_bipush (q := 537) dL_isTold_535 rfl ⟨by decide, by decide⟩ (by decide) ?_
        refine g_iandv (q := 538) (z := ((S.2.1 42 a) / 8) % 8) dL_isTold_537 rfl (zAnd_m 3 (by decide) (by decide) (by omega) (by omega)) ?_
        refine g_icmp_ne (t := 624) (q := 541) dL_isTold_538 (by decide) rfl (fun h538 => ?_) (fun h538 => ?_)
        · exact False.elim (by omega)
        · refine g_aload_n (i := 0) (q := 542) dL_isTold_541 rfl rfl rfl ?_
          refine g_iload (q := 544) dL_isTold_542 rfl rfl ?_
          refine g_iconst (q := 545) dL_isTold_544 rfl ⟨by decide, by decide⟩ ?_
          refine g_fnW (as := [zR 0, zI a, zI 2]) (q := 548) (u' := 120) dL_isTold_545 rfl ck_L_155 rfl rfl (Nat.le_of_ble_eq_true rfl) ⟨Nat.le_of_ble_eq_true rfl, Nat.le_of_ble_eq_true rfl⟩ rfl (by decide) (q2) ?_
          refine g_aload (q := 550) dL_isTold_548 rfl rfl ?_
          refine g_iload (q := 552) dL_isTold_550 rfl rfl ?_
          refine g_ildv (q := 553) (z := S.2.1 42 a) dL_isTold_552 rfl ⟨by decide, rfl, rfl⟩ (by omega) (by omega) rfl ?_
          refine g_bipush (q := 555) dL_isTold_553 rfl ⟨by decide, by decide⟩ (by decide) ?_
          refine g_ishrv (q := 556) (z := (S.2.1 42 a) / 64) dL_isTold_555 rfl (zShr_p 6 (by decide) (by decide) (by constructor <;> omega)) ?_
          refine g_bipush (q := 558) dL_isTold_556 rfl ⟨by decide, by decide⟩ (by decide) ?_
          refine g_iandv (q := 559) (z := ((S.2.1 42 a) / 64) % 16) dL_isTold_558 rfl (zAnd_m 4 (by decide) (by decide) (by omega) (by omega)) ?_
          refine g_fnS (as := [zI (((S.2.1 42 a) / 64) % 16)]) (q := 562) (u' := 120) dL_isTold_559 rfl ck_L_128 rfl rfl (Nat.le_of_ble_eq_true rfl) ⟨Nat.le_of_ble_eq_true rfl, Nat.le_of_ble_eq_true rfl⟩ rfl (by decide) (s_L_digits (by omega)) rfl ?_
          refine g_icmp_ne (t := 624) (q := 565) dL_isTold_562 (by decide) rfl (fun h562 => ?_) (fun h562 => ?_)
          · exact False.elim (by omega)
          · refine g_aload_n (i := 0) (q := 566) dL_isTold_565 rfl rfl rfl ?_
            refine g_iload (q := 568) dL_isTold_566 rfl rfl ?_
            refine g_iconst (q := 569) dL_isTold_568 rfl ⟨by decide, by decide⟩ ?_
            refine g_fnW (as := [zR 0, zI a, zI 3]) (q := 572) (u' := 122) dL_isTold_569 rfl ck_L_155 rfl rfl (Nat.le_of_ble_eq_true rfl) ⟨Nat.le_of_ble_eq_true rfl, Nat.le_of_ble_eq_true rfl⟩ rfl (by decide) (q3) ?_
            refine g_aload (q := 574) dL_isTold_572 rfl rfl ?_
            refine g_iload (q := 576) dL_isTold_574 rfl rfl ?_
            refine g_ildv (q := 577) (z := S.2.1 42 a) dL_isTold_576 rfl ⟨by decide, rfl, rfl⟩ (by omega) (by omega) rfl ?_
            refine g_fnS (as := [zI (S.2.1 42 a)]) (q := 580) (u' := 122) dL_isTold_577 rfl ck_L_157 rfl rfl (Nat.le_of_ble_eq_true rfl) ⟨Nat.le_of_ble_eq_true rfl, Nat.le_of_ble_eq_true rfl⟩ rfl (by decide) (s_L_winner (by omega)) rfl ?_
            refine g_icmp_ne (t := 624) (q := 583) dL_isTold_580 (by decide) rfl (fun h580 => ?_) (fun h580 => ?_)
            · exact False.elim (by omega)
            · refine g_aload_n (i := 0) (q := 584) dL_isTold_583 rfl rfl rfl ?_
              refine g_iload (q := 586) dL_isTold_584 rfl rfl ?_
              refine g_iconst (q := 587) dL_isTold_586 rfl ⟨by decide, by decide⟩ ?_
              refine g_fnW (as := [zR 0, zI a, zI 4]) (q := 590) (u' := 124) dL_isTold_587 rfl ck_L_155 rfl rfl (Nat.le_of_ble_eq_true rfl) ⟨Nat.le_of_ble_eq_true rfl, Nat.le_of_ble_eq_true rfl⟩ rfl (by decide) (q4) ?_
              refine g_aload (q := 592) dL_isTold_590 rfl rfl ?_
              refine g_iload (q := 594) dL_isTold_592 rfl rfl ?_
              refine g_ildv (q := 595) (z := S.2.1 42 a) dL_isTold_594 rfl ⟨by decide, rfl, rfl⟩ (by omega) (by omega) rfl ?_
              refine g_bipush (q := 597) dL_isTold_595 rfl ⟨by decide, by decide⟩ (by decide) ?_
              refine g_ishrv (q := 598) (z := (S.2.1 42 a) / 8192) dL_isTold_597 rfl (zShr_p 13 (by decide) (by decide) (by constructor <;> omega)) ?_
              refine g_bipush (q := 600) dL_isTold_598 rfl ⟨by decide, by decide⟩ (by decide) ?_
              refine g_iandv (q := 601) (z := ((S.2.1 42 a) / 8192) % 8) dL_isTold_600 rfl (zAnd_m 3 (by decide) (by decide) (by omega) (by omega)) ?_
              refine g_iconst (q := 602) dL_isTold_601 rfl ⟨by decide, by decide⟩ ?_
              refine g_isub (q := 603) dL_isTold_602 rfl (by constructor <;> omega) ?_
              refine g_icmp_ne (t := 624) (q := 606) dL_isTold_603 (by decide) rfl (fun h603 => ?_) (fun h603 => ?_)
              · exact False.elim (by omega)
              · refine g_aload_n (i := 0) (q := 607) dL_isTold_606 rfl rfl rfl ?_
                refine g_iload (q := 609) dL_isTold_607 rfl rfl ?_
                refine g_iconst (q := 610) dL_isTold_609 rfl ⟨by decide, by decide⟩ ?_
                refine g_fnW (as := [zR 0, zI a, zI 5]) (q := 613) (u' := 126) dL_isTold_610 rfl ck_L_155 rfl rfl (Nat.le_of_ble_eq_true rfl) ⟨Nat.le_of_ble_eq_true rfl, Nat.le_of_ble_eq_true rfl⟩ rfl (by decide) (q5) ?_
                refine g_aload (q := 615) dL_isTold_613 rfl rfl ?_
                refine g_iload (q := 617) dL_isTold_615 rfl rfl ?_
                refine g_ildv (q := 618) (z := S.2.1 42 a) dL_isTold_617 rfl ⟨by decide, rfl, rfl⟩ (by omega) (by omega) rfl ?_
                refine g_fnS (as := [zI (S.2.1 42 a)]) (q := 621) (u' := 126) dL_isTold_618 rfl ck_L_101 rfl rfl (Nat.le_of_ble_eq_true rfl) ⟨Nat.le_of_ble_eq_true rfl, Nat.le_of_ble_eq_true rfl⟩ rfl (by decide) (s_L_minute (by omega)) rfl ?_
                refine g_icmp_eq (t := 626) (q := 624) dL_isTold_621 (by decide) rfl (fun h621 => ?_) (fun h621 => ?_)
                · exact g_forget (z_sub_r (z_sub_r (z_sub_r (z_sub_r (z_sub_r (z_sub_r (z_sub_r (z_sub_r (z_sub_r (z_sub_r (z_sub_r (z_sub_n (z_sub_n (z_sub_n (z_sub_n (z_sub_n (z_sub_n (z_sub_n (z_sub_n (z_sub_n z_sub_0)))))))))))))))))))) kC
                · exact False.elim (by omega)
    rw [ea] at kA
    refine g_aload (q := 476) dL_isTold_474 rfl rfl ?_
    refine g_iconst (q := 477) dL_isTold_476 rfl ⟨by decide, by decide⟩ ?_
    refine g_ildv (q := 478) (z := S.2.1 47 1) dL_isTold_477 rfl ⟨by decide, rfl, rfl⟩ (by omega) (by omega) rfl ?_
    refine g_if_ne (t := 485) (q := 481) dL_isTold_478 (by decide) rfl (fun h478 => ?_) (fun h478 => (False.elim (by omega)))
    refine g_iload_n (i := 1) (q := 486) dL_isTold_485 rfl rfl rfl ?_
    refine g_iconst (q := 487) dL_isTold_486 rfl ⟨by decide, by decide⟩ ?_
    refine g_ishrv (q := 488) (z := zShr v 4) dL_isTold_487 rfl (rfl) ?_
    refine g_aload (q := 490) dL_isTold_488 rfl rfl ?_
    refine g_iconst (q := 491) dL_isTold_490 rfl ⟨by decide, by decide⟩ ?_
    refine g_ildv (q := 492) (z := S.2.1 47 1) dL_isTold_491 rfl ⟨by decide, rfl, rfl⟩ (by omega) (by omega) rfl ?_
    refine g_fnS (as := [zI (zShr v 4), zI (S.2.1 47 1)]) (q := 495) (u' := 114) dL_isTold_492 rfl ck_L_125 rfl rfl (Nat.le_of_ble_eq_true rfl) ⟨Nat.le_of_ble_eq_true rfl, Nat.le_of_ble_eq_true rfl⟩ rfl (by decide) (s_L_low (by omega)) rfl ?_
    exact kA
end
theorem s_L_isTold {S : zS} {v : Int} (h : Rel S S) (hb : zAb S) (h2 : S.1 2 ≤ 600) (h3 : S.1 3 ≤ 572) : z_Sp mL_isTold [zR 0, zI v, zR 7, zR 40, zR 42, zR 48, zR 45, zR 46, zR 47] S (fun x U => x = .ok (some (zI 1)) ∧ zRt S U) := by
  have hO := h.yO'
  obtain ⟨c, ec⟩ : ∃ c, c = (S.1 1).toNat := ⟨_, rfl⟩
  have hl := zlow_rng (v := v) (n := 12) (by omega)
  have hre := l_told_rest (v := v) (i := zlow v 12) (Q := fun x U => x = .ok (some (zI 1)) ∧ zRt S U) h hb hl (fun U g => ⟨rfl, g⟩)
  have hfi := l_told_firm (v := v) h hb h2 hl hre 6 0 (by omega) none none none none rfl
  have q0 := q_minute h
  have q1 := q_server h hl
  have q2 := q_anew h h3 hl
  have q3 := q_num0 h hl
  obtain ⟨z4, q4, e4⟩ := q_num1 h hl
  obtain ⟨z5, q5, e5⟩ := q_num2 h hl
  obtain ⟨z6, q6, e6⟩ := q_num3 h hl
  have q7 := q_num4 h hl
  rw [← ec] at hO q7
  refine z_enter (by decide +kernel) rfl (z_n1 trivial (z_n1 trivial (z_n1 trivial (z_n1 trivial (z_n1 trivial (z_n1 trivial (z_n1 trivial (z_n1 trivial (z_n1 trivial z_n0))))))))) (Nat.le_of_ble_eq_true rfl) ?_
  refine g_iload_n (i := 1) (q := 1) dL_isTold_0 rfl rfl rfl ?_
  refine g_bipush (q := 3) dL_isTold_1 rfl ⟨by decide, by decide⟩ (by decide) ?_
  refine g_fnS (as := [zI v, zI 12]) (q := 6) (u' := 0) dL_isTold_3 rfl ck_L_125 rfl rfl (Nat.le_of_ble_eq_true rfl) ⟨Nat.le_of_ble_eq_true rfl, Nat.le_of_ble_eq_true rfl⟩ rfl (by decide) (s_L_low (by omega)) rfl ?_
  refine g_istore (q := 8) dL_isTold_6 rfl (Nat.le_of_ble_eq_true rfl) ?_
  refine g_iload (q := 10) dL_isTold_8 rfl rfl ?_
  refine g_fnS (as := [zI (zlow v 12)]) (q := 13) (u' := 0) dL_isTold_10 rfl ck_L_128 rfl rfl (Nat.le_of_ble_eq_true rfl) ⟨Nat.le_of_ble_eq_true rfl, Nat.le_of_ble_eq_true rfl⟩ rfl (by decide) (s_L_digits (by omega)) rfl ?_
  refine g_istore (q := 15) dL_isTold_13 rfl (Nat.le_of_ble_eq_true rfl) ?_
  refine g_aload_n (i := 0) (q := 16) dL_isTold_15 rfl rfl rfl ?_
  refine g_fnV (as := []) (q := 19) (u' := 0) dL_isTold_16 rfl ck_L_131 rfl rfl rfl (Nat.le_of_ble_eq_true rfl) ⟨Nat.le_of_ble_eq_true rfl, Nat.le_of_ble_eq_true rfl⟩ rfl (by decide) (q0) rfl ?_
  refine g_aload (q := 21) dL_isTold_19 rfl rfl ?_
  refine g_iconst (q := 22) dL_isTold_21 rfl ⟨by decide, by decide⟩ ?_
  refine g_ildv (q := 23) (z := S.2.1 47 0) dL_isTold_22 rfl ⟨by decide, rfl, rfl⟩ (by omega) (by omega) rfl ?_
  refine g_icmp_ne (t := 174) (q := 26) dL_isTold_23 (by decide) rfl (fun h23 => ?_) (fun h23 => ?_)
  · exact False.elim (by omega)
  · refine g_aload_n (i := 0) (q := 27) dL_isTold_26 rfl rfl rfl ?_
    refine g_iload (q := 29) dL_isTold_27 rfl rfl ?_
    refine g_fnW (as := [zR 0, zI (zdg (zlow v 12))]) (q := 32) (u' := 1) dL_isTold_29 rfl ck_L_134 rfl rfl (Nat.le_of_ble_eq_true rfl) ⟨Nat.le_of_ble_eq_true rfl, Nat.le_of_ble_eq_true rfl⟩ rfl (by decide) (q1) ?_
    refine g_aload_n (i := 3) (q := 33) dL_isTold_32 rfl rfl rfl ?_
    refine g_iload (q := 35) dL_isTold_33 rfl rfl ?_
    refine g_ildv (q := 36) (z := S.2.1 40 (zlow v 12)) dL_isTold_35 rfl ⟨by decide, rfl, rfl⟩ (by omega) (by omega) rfl ?_
    refine g_icmp_ne (t := 174) (q := 39) dL_isTold_36 (by decide) rfl (fun h36 => ?_) (fun h36 => ?_)
    · exact False.elim (by omega)
    · refine g_aload_n (i := 0) (q := 40) dL_isTold_39 rfl rfl rfl ?_
      refine g_iload (q := 42) dL_isTold_40 rfl rfl ?_
      refine g_fnW (as := [zR 0, zI (zdg (zlow v 12))]) (q := 45) (u' := 2) dL_isTold_42 rfl ck_L_137 rfl rfl (Nat.le_of_ble_eq_true rfl) ⟨Nat.le_of_ble_eq_true rfl, Nat.le_of_ble_eq_true rfl⟩ rfl (by decide) (q2) ?_
      refine g_aload_n (i := 3) (q := 46) dL_isTold_45 rfl rfl rfl ?_
      refine g_iload (q := 48) dL_isTold_46 rfl rfl ?_
      refine g_ildv (q := 49) (z := S.2.1 40 (zlow v 12)) dL_isTold_48 rfl ⟨by decide, rfl, rfl⟩ (by omega) (by omega) rfl ?_
      refine g_icmp_ne (t := 174) (q := 52) dL_isTold_49 (by decide) rfl (fun h49 => ?_) (fun h49 => ?_)
      · exact False.elim (by omega)
      · refine g_aload_n (i := 0) (q := 53) dL_isTold_52 rfl rfl rfl ?_
        refine g_iload (q := 55) dL_isTold_53 rfl rfl ?_
        refine g_iconst (q := 56) dL_isTold_55 rfl ⟨by decide, by decide⟩ ?_
        refine g_fnW (as := [zR 0, zI (zdg (zlow v 12)), zI 0]) (q := 59) (u' := 4) dL_isTold_56 rfl ck_L_139 rfl rfl (Nat.le_of_ble_eq_true rfl) ⟨Nat.le_of_ble_eq_true rfl, Nat.le_of_ble_eq_true rfl⟩ rfl (by decide) (q3) ?_
        refine g_aload_n (i := 2) (q := 60) dL_isTold_59 rfl rfl rfl ?_
        refine g_iload (q := 62) dL_isTold_60 rfl rfl ?_
        refine g_iconst (q := 63) dL_isTold_62 rfl ⟨by decide, by decide⟩ ?_
        refine g_idiv (q := 64) dL_isTold_63 rfl (by omega) (by omega) ?_
        refine g_ildv (q := 65) (z := S.2.1 7 ((zlow v 12) / 3)) dL_isTold_64 rfl ⟨by decide, rfl, rfl⟩ (by omega) (by omega) rfl ?_
        refine g_icmp_ne (t := 174) (q := 68) dL_isTold_65 (by decide) rfl (fun h65 => ?_) (fun h65 => ?_)
        · exact False.elim (by omega)
        · refine g_aload_n (i := 0) (q := 69) dL_isTold_68 rfl rfl rfl ?_
          refine g_iload (q := 71) dL_isTold_69 rfl rfl ?_
          refine g_iconst (q := 72) dL_isTold_71 rfl ⟨by decide, by decide⟩ ?_
          refine g_fnW (as := [zR 0, zI (zdg (zlow v 12)), zI 1]) (q := 75) (u' := 6) dL_isTold_72 rfl ck_L_139 rfl rfl (Nat.le_of_ble_eq_true rfl) ⟨Nat.le_of_ble_eq_true rfl, Nat.le_of_ble_eq_true rfl⟩ rfl (by decide) (q4) ?_
          refine g_aload_n (i := 3) (q := 76) dL_isTold_75 rfl rfl rfl ?_
          refine g_bipush (q := 78) dL_isTold_76 rfl ⟨by decide, by decide⟩ (by decide) ?_
          refine g_iload (q := 80) dL_isTold_78 rfl rfl ?_
          refine g_iadd (q := 81) dL_isTold_80 rfl (by constructor <;> omega) ?_
          refine g_ildv (q := 82) (z := S.2.1 40 (24 + (zlow v 12))) dL_isTold_81 rfl ⟨by decide, rfl, rfl⟩ (by omega) (by omega) rfl ?_
          refine g_aload (q := 84) dL_isTold_82 rfl rfl ?_
          refine g_iconst (q := 85) dL_isTold_84 rfl ⟨by decide, by decide⟩ ?_
          refine g_ildv (q := 86) (z := S.2.1 47 0) dL_isTold_85 rfl ⟨by decide, rfl, rfl⟩ (by omega) (by omega) rfl ?_
          refine g_icmp_lt (t := 93) (q := 89) dL_isTold_86 (by decide) rfl (fun h86 => ?_) (fun h86 => ?_)
          · refine g_iconst (q := 94) dL_isTold_93 rfl ⟨by decide, by decide⟩ ?_
            refine g_icmp_ne (t := 174) (q := 97) dL_isTold_94 (by decide) rfl (fun h94 => ?_) (fun h94 => ?_)
            · exact False.elim (by omega)
            · refine g_aload_n (i := 0) (q := 98) dL_isTold_97 rfl rfl rfl ?_
              refine g_iload (q := 100) dL_isTold_98 rfl rfl ?_
              refine g_iconst (q := 101) dL_isTold_100 rfl ⟨by decide, by decide⟩ ?_
              refine g_fnW (as := [zR 0, zI (zdg (zlow v 12)), zI 2]) (q := 104) (u' := 8) dL_isTold_101 rfl ck_L_139 rfl rfl (Nat.le_of_ble_eq_true rfl) ⟨Nat.le_of_ble_eq_true rfl, Nat.le_of_ble_eq_true rfl⟩ rfl (by decide) (q5) ?_
              refine g_aload_n (i := 3) (q := 105) dL_isTold_104 rfl rfl rfl ?_
              refine g_bipush (q := 107) dL_isTold_105 rfl ⟨by decide, by decide⟩ (by decide) ?_
              refine g_iload (q := 109) dL_isTold_107 rfl rfl ?_
              refine g_iadd (q := 110) dL_isTold_109 rfl (by constructor <;> omega) ?_
              refine g_ildv (q := 111) (z := S.2.1 40 (36 + (zlow v 12))) dL_isTold_110 rfl ⟨by decide, rfl, rfl⟩ (by omega) (by omega) rfl ?_
              refine g_aload (q := 113) dL_isTold_111 rfl rfl ?_
              refine g_iconst (q := 114) dL_isTold_113 rfl ⟨by decide, by decide⟩ ?_
              refine g_ildv (q := 115) (z := S.2.1 47 0) dL_isTold_114 rfl ⟨by decide, rfl, rfl⟩ (by omega) (by omega) rfl ?_
              refine g_icmp_lt (t := 122) (q := 118) dL_isTold_115 (by decide) rfl (fun h115 => ?_) (fun h115 => ?_)
              · refine g_iconst (q := 123) dL_isTold_122 rfl ⟨by decide, by decide⟩ ?_
                refine g_icmp_ne (t := 174) (q := 126) dL_isTold_123 (by decide) rfl (fun h123 => ?_) (fun h123 => ?_)
                · exact False.elim (by omega)
                · refine g_aload_n (i := 0) (q := 127) dL_isTold_126 rfl rfl rfl ?_
                  refine g_iload (q := 129) dL_isTold_127 rfl rfl ?_
                  refine g_iconst (q := 130) dL_isTold_129 rfl ⟨by decide, by decide⟩ ?_
                  refine g_fnW (as := [zR 0, zI (zdg (zlow v 12)), zI 3]) (q := 133) (u' := 10) dL_isTold_130 rfl ck_L_139 rfl rfl (Nat.le_of_ble_eq_true rfl) ⟨Nat.le_of_ble_eq_true rfl, Nat.le_of_ble_eq_true rfl⟩ rfl (by decide) (q6) ?_
                  refine g_aload_n (i := 3) (q := 134) dL_isTold_133 rfl rfl rfl ?_
                  refine g_bipush (q := 136) dL_isTold_134 rfl ⟨by decide, by decide⟩ (by decide) ?_
                  refine g_iload (q := 138) dL_isTold_136 rfl rfl ?_
                  refine g_iadd (q := 139) dL_isTold_138 rfl (by constructor <;> omega) ?_
                  refine g_ildv (q := 140) (z := S.2.1 40 (48 + (zlow v 12))) dL_isTold_139 rfl ⟨by decide, rfl, rfl⟩ (by omega) (by omega) rfl ?_
                  refine g_aload (q := 142) dL_isTold_140 rfl rfl ?_
                  refine g_iconst (q := 143) dL_isTold_142 rfl ⟨by decide, by decide⟩ ?_
                  refine g_ildv (q := 144) (z := S.2.1 47 0) dL_isTold_143 rfl ⟨by decide, rfl, rfl⟩ (by omega) (by omega) rfl ?_
                  refine g_icmp_lt (t := 151) (q := 147) dL_isTold_144 (by decide) rfl (fun h144 => ?_) (fun h144 => ?_)
                  · refine g_iconst (q := 152) dL_isTold_151 rfl ⟨by decide, by decide⟩ ?_
                    refine g_icmp_ne (t := 174) (q := 155) dL_isTold_152 (by decide) rfl (fun h152 => ?_) (fun h152 => ?_)
                    · exact False.elim (by omega)
                    · refine g_aload_n (i := 0) (q := 156) dL_isTold_155 rfl rfl rfl ?_
                      refine g_iload (q := 158) dL_isTold_156 rfl rfl ?_
                      refine g_iconst (q := 159) dL_isTold_158 rfl ⟨by decide, by decide⟩ ?_
                      refine g_fnW (as := [zR 0, zI (zdg (zlow v 12)), zI 4]) (q := 162) (u' := 12) dL_isTold_159 rfl ck_L_139 rfl rfl (Nat.le_of_ble_eq_true rfl) ⟨Nat.le_of_ble_eq_true rfl, Nat.le_of_ble_eq_true rfl⟩ rfl (by decide) (q7) ?_
                      refine g_iload (q := 164) dL_isTold_162 rfl rfl ?_
                      refine g_aload (q := 166) dL_isTold_164 rfl rfl ?_
                      refine g_aload (q := 168) dL_isTold_166 rfl rfl ?_
                      refine g_fnS (as := [zI (zlow v 12), zR 42, zR 47]) (q := 171) (u' := 12) dL_isTold_168 rfl ck_L_142 rfl rfl (Nat.le_of_ble_eq_true rfl) ⟨Nat.le_of_ble_eq_true rfl, Nat.le_of_ble_eq_true rfl⟩ rfl (by decide) (s_L_waits hO) rfl ?_
                      refine g_icmp_eq (t := 176) (q := 174) dL_isTold_171 (by decide) rfl (fun h171 => ?_) (fun h171 => ?_)
                      · refine g_iconst (q := 177) dL_isTold_176 rfl ⟨by decide, by decide⟩ ?_
                        refine g_istore (q := 179) dL_isTold_177 rfl (Nat.le_of_ble_eq_true rfl) ?_
                        exact hfi
                      · exact False.elim (by omega)
                  · refine g_iconst (q := 148) dL_isTold_147 rfl ⟨by decide, by decide⟩ ?_
                    refine g_goto (q := 0) (t := 152) dL_isTold_148 (by decide) ?_
                    refine g_icmp_ne (t := 174) (q := 155) dL_isTold_152 (by decide) rfl (fun h152 => ?_) (fun h152 => ?_)
                    · exact False.elim (by omega)
                    · refine g_aload_n (i := 0) (q := 156) dL_isTold_155 rfl rfl rfl ?_
                      refine g_iload (q := 158) dL_isTold_156 rfl rfl ?_
                      refine g_iconst (q := 159) dL_isTold_158 rfl ⟨by decide, by decide⟩ ?_
                      refine g_fnW (as := [zR 0, zI (zdg (zlow v 12)), zI 4]) (q := 162) (u' := 12) dL_isTold_159 rfl ck_L_139 rfl rfl (Nat.le_of_ble_eq_true rfl) ⟨Nat.le_of_ble_eq_true rfl, Nat.le_of_ble_eq_true rfl⟩ rfl (by decide) (q7) ?_
                      refine g_iload (q := 164) dL_isTold_162 rfl rfl ?_
                      refine g_aload (q := 166) dL_isTold_164 rfl rfl ?_
                      refine g_aload (q := 168) dL_isTold_166 rfl rfl ?_
                      refine g_fnS (as := [zI (zlow v 12), zR 42, zR 47]) (q := 171) (u' := 12) dL_isTold_168 rfl ck_L_142 rfl rfl (Nat.le_of_ble_eq_true rfl) ⟨Nat.le_of_ble_eq_true rfl, Nat.le_of_ble_eq_true rfl⟩ rfl (by decide) (s_L_waits hO) rfl ?_
                      refine g_icmp_eq (t := 176) (q := 174) dL_isTold_171 (by decide) rfl (fun h171 => ?_) (fun h171 => ?_)
                      · refine g_iconst (q := 177) dL_isTold_176 rfl ⟨by decide, by decide⟩ ?_
                        refine g_istore (q := 179) dL_isTold_177 rfl (Nat.le_of_ble_eq_true rfl) ?_
                        exact hfi
                      · exact False.elim (by omega)
              · refine g_iconst (q := 119) dL_isTold_118 rfl ⟨by decide, by decide⟩ ?_
                refine g_goto (q := 0) (t := 123) dL_isTold_119 (by decide) ?_
                refine g_icmp_ne (t := 174) (q := 126) dL_isTold_123 (by decide) rfl (fun h123 => ?_) (fun h123 => ?_)
                · exact False.elim (by omega)
                · refine g_aload_n (i := 0) (q := 127) dL_isTold_126 rfl rfl rfl ?_
                  refine g_iload (q := 129) dL_isTold_127 rfl rfl ?_
                  refine g_iconst (q := 130) dL_isTold_129 rfl ⟨by decide, by decide⟩ ?_
                  refine g_fnW (as := [zR 0, zI (zdg (zlow v 12)), zI 3]) (q := 133) (u' := 10) dL_isTold_130 rfl ck_L_139 rfl rfl (Nat.le_of_ble_eq_true rfl) ⟨Nat.le_of_ble_eq_true rfl, Nat.le_of_ble_eq_true rfl⟩ rfl (by decide) (q6) ?_
                  refine g_aload_n (i := 3) (q := 134) dL_isTold_133 rfl rfl rfl ?_
                  refine g_bipush (q := 136) dL_isTold_134 rfl ⟨by decide, by decide⟩ (by decide) ?_
                  refine g_iload (q := 138) dL_isTold_136 rfl rfl ?_
                  refine g_iadd (q := 139) dL_isTold_138 rfl (by constructor <;> omega) ?_
                  refine g_ildv (q := 140) (z := S.2.1 40 (48 + (zlow v 12))) dL_isTold_139 rfl ⟨by decide, rfl, rfl⟩ (by omega) (by omega) rfl ?_
                  refine g_aload (q := 142) dL_isTold_140 rfl rfl ?_
                  refine g_iconst (q := 143) dL_isTold_142 rfl ⟨by decide, by decide⟩ ?_
                  refine g_ildv (q := 144) (z := S.2.1 47 0) dL_isTold_143 rfl ⟨by decide, rfl, rfl⟩ (by omega) (by omega) rfl ?_
                  refine g_icmp_lt (t := 151) (q := 147) dL_isTold_144 (by decide) rfl (fun h144 => ?_) (fun h144 => ?_)
                  · refine g_iconst (q := 152) dL_isTold_151 rfl ⟨by decide, by decide⟩ ?_
                    refine g_icmp_ne (t := 174) (q := 155) dL_isTold_152 (by decide) rfl (fun h152 => ?_) (fun h152 => ?_)
                    · exact False.elim (by omega)
                    · refine g_aload_n (i := 0) (q := 156) dL_isTold_155 rfl rfl rfl ?_
                      refine g_iload (q := 158) dL_isTold_156 rfl rfl ?_
                      refine g_iconst (q := 159) dL_isTold_158 rfl ⟨by decide, by decide⟩ ?_
                      refine g_fnW (as := [zR 0, zI (zdg (zlow v 12)), zI 4]) (q := 162) (u' := 12) dL_isTold_159 rfl ck_L_139 rfl rfl (Nat.le_of_ble_eq_true rfl) ⟨Nat.le_of_ble_eq_true rfl, Nat.le_of_ble_eq_true rfl⟩ rfl (by decide) (q7) ?_
                      refine g_iload (q := 164) dL_isTold_162 rfl rfl ?_
                      refine g_aload (q := 166) dL_isTold_164 rfl rfl ?_
                      refine g_aload (q := 168) dL_isTold_166 rfl rfl ?_
                      refine g_fnS (as := [zI (zlow v 12), zR 42, zR 47]) (q := 171) (u' := 12) dL_isTold_168 rfl ck_L_142 rfl rfl (Nat.le_of_ble_eq_true rfl) ⟨Nat.le_of_ble_eq_true rfl, Nat.le_of_ble_eq_true rfl⟩ rfl (by decide) (s_L_waits hO) rfl ?_
                      refine g_icmp_eq (t := 176) (q := 174) dL_isTold_171 (by decide) rfl (fun h171 => ?_) (fun h171 => ?_)
                      · refine g_iconst (q := 177) dL_isTold_176 rfl ⟨by decide, by decide⟩ ?_
                        refine g_istore (q := 179) dL_isTold_177 rfl (Nat.le_of_ble_eq_true rfl) ?_
                        exact hfi
                      · exact False.elim (by omega)
                  · refine g_iconst (q := 148) dL_isTold_147 rfl ⟨by decide, by decide⟩ ?_
                    refine g_goto (q := 0) (t := 152) dL_isTold_148 (by decide) ?_
                    refine g_icmp_ne (t := 174) (q := 155) dL_isTold_152 (by decide) rfl (fun h152 => ?_) (fun h152 => ?_)
                    · exact False.elim (by omega)
                    · refine g_aload_n (i := 0) (q := 156) dL_isTold_155 rfl rfl rfl ?_
                      refine g_iload (q := 158) dL_isTold_156 rfl rfl ?_
                      refine g_iconst (q := 159) dL_isTold_158 rfl ⟨by decide, by decide⟩ ?_
                      refine g_fnW (as := [zR 0, zI (zdg (zlow v 12)), zI 4]) (q := 162) (u' := 12) dL_isTold_159 rfl ck_L_139 rfl rfl (Nat.le_of_ble_eq_true rfl) ⟨Nat.le_of_ble_eq_true rfl, Nat.le_of_ble_eq_true rfl⟩ rfl (by decide) (q7) ?_
                      refine g_iload (q := 164) dL_isTold_162 rfl rfl ?_
                      refine g_aload (q := 166) dL_isTold_164 rfl rfl ?_
                      refine g_aload (q := 168) dL_isTold_166 rfl rfl ?_
                      refine g_fnS (as := [zI (zlow v 12), zR 42, zR 47]) (q := 171) (u' := 12) dL_isTold_168 rfl ck_L_142 rfl rfl (Nat.le_of_ble_eq_true rfl) ⟨Nat.le_of_ble_eq_true rfl, Nat.le_of_ble_eq_true rfl⟩ rfl (by decide) (s_L_waits hO) rfl ?_
                      refine g_icmp_eq (t := 176) (q := 174) dL_isTold_171 (by decide) rfl (fun h171 => ?_) (fun h171 => ?_)
                      · refine g_iconst (q := 177) dL_isTold_176 rfl ⟨by decide, by decide⟩ ?_
                        refine g_istore (q := 179) dL_isTold_177 rfl (Nat.le_of_ble_eq_true rfl) ?_
                        exact hfi
                      · exact False.elim (by omega)
          · refine g_iconst (q := 90) dL_isTold_89 rfl ⟨by decide, by decide⟩ ?_
            refine g_goto (q := 0) (t := 94) dL_isTold_90 (by decide) ?_
            refine g_icmp_ne (t := 174) (q := 97) dL_isTold_94 (by decide) rfl (fun h94 => ?_) (fun h94 => ?_)
            · exact False.elim (by omega)
            · refine g_aload_n (i := 0) (q := 98) dL_isTold_97 rfl rfl rfl ?_
              refine g_iload (q := 100) dL_isTold_98 rfl rfl ?_
              refine g_iconst (q := 101) dL_isTold_100 rfl ⟨by decide, by decide⟩ ?_
              refine g_fnW (as := [zR 0, zI (zdg (zlow v 12)), zI 2]) (q := 104) (u' := 8) dL_isTold_101 rfl ck_L_139 rfl rfl (Nat.le_of_ble_eq_true rfl) ⟨Nat.le_of_ble_eq_true rfl, Nat.le_of_ble_eq_true rfl⟩ rfl (by decide) (q5) ?_
              refine g_aload_n (i := 3) (q := 105) dL_isTold_104 rfl rfl rfl ?_
              refine g_bipush (q := 107) dL_isTold_105 rfl ⟨by decide, by decide⟩ (by decide) ?_
              refine g_iload (q := 109) dL_isTold_107 rfl rfl ?_
              refine g_iadd (q := 110) dL_isTold_109 rfl (by constructor <;> omega) ?_
              refine g_ildv (q := 111) (z := S.2.1 40 (36 + (zlow v 12))) dL_isTold_110 rfl ⟨by decide, rfl, rfl⟩ (by omega) (by omega) rfl ?_
              refine g_aload (q := 113) dL_isTold_111 rfl rfl ?_
              refine g_iconst (q := 114) dL_isTold_113 rfl ⟨by decide, by decide⟩ ?_
              refine g_ildv (q := 115) (z := S.2.1 47 0) dL_isTold_114 rfl ⟨by decide, rfl, rfl⟩ (by omega) (by omega) rfl ?_
              refine g_icmp_lt (t := 122) (q := 118) dL_isTold_115 (by decide) rfl (fun h115 => ?_) (fun h115 => ?_)
              · refine g_iconst (q := 123) dL_isTold_122 rfl ⟨by decide, by decide⟩ ?_
                refine g_icmp_ne (t := 174) (q := 126) dL_isTold_123 (by decide) rfl (fun h123 => ?_) (fun h123 => ?_)
                · exact False.elim (by omega)
                · refine g_aload_n (i := 0) (q := 127) dL_isTold_126 rfl rfl rfl ?_
                  refine g_iload (q := 129) dL_isTold_127 rfl rfl ?_
                  refine g_iconst (q := 130) dL_isTold_129 rfl ⟨by decide, by decide⟩ ?_
                  refine g_fnW (as := [zR 0, zI (zdg (zlow v 12)), zI 3]) (q := 133) (u' := 10) dL_isTold_130 rfl ck_L_139 rfl rfl (Nat.le_of_ble_eq_true rfl) ⟨Nat.le_of_ble_eq_true rfl, Nat.le_of_ble_eq_true rfl⟩ rfl (by decide) (q6) ?_
                  refine g_aload_n (i := 3) (q := 134) dL_isTold_133 rfl rfl rfl ?_
                  refine g_bipush (q := 136) dL_isTold_134 rfl ⟨by decide, by decide⟩ (by decide) ?_
                  refine g_iload (q := 138) dL_isTold_136 rfl rfl ?_
                  refine g_iadd (q := 139) dL_isTold_138 rfl (by constructor <;> omega) ?_
                  refine g_ildv (q := 140) (z := S.2.1 40 (48 + (zlow v 12))) dL_isTold_139 rfl ⟨by decide, rfl, rfl⟩ (by omega) (by omega) rfl ?_
                  refine g_aload (q := 142) dL_isTold_140 rfl rfl ?_
                  refine g_iconst (q := 143) dL_isTold_142 rfl ⟨by decide, by decide⟩ ?_
                  refine g_ildv (q := 144) (z := S.2.1 47 0) dL_isTold_143 rfl ⟨by decide, rfl, rfl⟩ (by omega) (by omega) rfl ?_
                  refine g_icmp_lt (t := 151) (q := 147) dL_isTold_144 (by decide) rfl (fun h144 => ?_) (fun h144 => ?_)
                  · refine g_iconst (q := 152) dL_isTold_151 rfl ⟨by decide, by decide⟩ ?_
                    refine g_icmp_ne (t := 174) (q := 155) dL_isTold_152 (by decide) rfl (fun h152 => ?_) (fun h152 => ?_)
                    · exact False.elim (by omega)
                    · refine g_aload_n (i := 0) (q := 156) dL_isTold_155 rfl rfl rfl ?_
                      refine g_iload (q := 158) dL_isTold_156 rfl rfl ?_
                      refine g_iconst (q := 159) dL_isTold_158 rfl ⟨by decide, by decide⟩ ?_
                      refine g_fnW (as := [zR 0, zI (zdg (zlow v 12)), zI 4]) (q := 162) (u' := 12) dL_isTold_159 rfl ck_L_139 rfl rfl (Nat.le_of_ble_eq_true rfl) ⟨Nat.le_of_ble_eq_true rfl, Nat.le_of_ble_eq_true rfl⟩ rfl (by decide) (q7) ?_
                      refine g_iload (q := 164) dL_isTold_162 rfl rfl ?_
                      refine g_aload (q := 166) dL_isTold_164 rfl rfl ?_
                      refine g_aload (q := 168) dL_isTold_166 rfl rfl ?_
                      refine g_fnS (as := [zI (zlow v 12), zR 42, zR 47]) (q := 171) (u' := 12) dL_isTold_168 rfl ck_L_142 rfl rfl (Nat.le_of_ble_eq_true rfl) ⟨Nat.le_of_ble_eq_true rfl, Nat.le_of_ble_eq_true rfl⟩ rfl (by decide) (s_L_waits hO) rfl ?_
                      refine g_icmp_eq (t := 176) (q := 174) dL_isTold_171 (by decide) rfl (fun h171 => ?_) (fun h171 => ?_)
                      · refine g_iconst (q := 177) dL_isTold_176 rfl ⟨by decide, by decide⟩ ?_
                        refine g_istore (q := 179) dL_isTold_177 rfl (Nat.le_of_ble_eq_true rfl) ?_
                        exact hfi
                      · exact False.elim (by omega)
                  · refine g_iconst (q := 148) dL_isTold_147 rfl ⟨by decide, by decide⟩ ?_
                    refine g_goto (q := 0) (t := 152) dL_isTold_148 (by decide) ?_
                    refine g_icmp_ne (t := 174) (q := 155) dL_isTold_152 (by decide) rfl (fun h152 => ?_) (fun h152 => ?_)
                    · exact False.elim (by omega)
                    · refine g_aload_n (i := 0) (q := 156) dL_isTold_155 rfl rfl rfl ?_
                      refine g_iload (q := 158) dL_isTold_156 rfl rfl ?_
                      refine g_iconst (q := 159) dL_isTold_158 rfl ⟨by decide, by decide⟩ ?_
                      refine g_fnW (as := [zR 0, zI (zdg (zlow v 12)), zI 4]) (q := 162) (u' := 12) dL_isTold_159 rfl ck_L_139 rfl rfl (Nat.le_of_ble_eq_true rfl) ⟨Nat.le_of_ble_eq_true rfl, Nat.le_of_ble_eq_true rfl⟩ rfl (by decide) (q7) ?_
                      refine g_iload (q := 164) dL_isTold_162 rfl rfl ?_
                      refine g_aload (q := 166) dL_isTold_164 rfl rfl ?_
                      refine g_aload (q := 168) dL_isTold_166 rfl rfl ?_
                      refine g_fnS (as := [zI (zlow v 12), zR 42, zR 47]) (q := 171) (u' := 12) dL_isTold_168 rfl ck_L_142 rfl rfl (Nat.le_of_ble_eq_true rfl) ⟨Nat.le_of_ble_eq_true rfl, Nat.le_of_ble_eq_true rfl⟩ rfl (by decide) (s_L_waits hO) rfl ?_
                      refine g_icmp_eq (t := 176) (q := 174) dL_isTold_171 (by decide) rfl (fun h171 => ?_) (fun h171 => ?_)
                      · refine g_iconst (q := 177) dL_isTold_176 rfl ⟨by decide, by decide⟩ ?_
                        refine g_istore (q := 179) dL_isTold_177 rfl (Nat.le_of_ble_eq_true rfl) ?_
                        exact hfi
                      · exact False.elim (by omega)
              · refine g_iconst (q := 119) dL_isTold_118 rfl ⟨by decide, by decide⟩ ?_
                refine g_goto (q := 0) (t := 123) dL_isTold_119 (by decide) ?_
                refine g_icmp_ne (t := 174) (q := 126) dL_isTold_123 (by decide) rfl (fun h123 => ?_) (fun h123 => ?_)
                · exact False.elim (by omega)
                · refine g_aload_n (i := 0) (q := 127) dL_isTold_126 rfl rfl rfl ?_
                  refine g_iload (q := 129) dL_isTold_127 rfl rfl ?_
                  refine g_iconst (q := 130) dL_isTold_129 rfl ⟨by decide, by decide⟩ ?_
                  refine g_fnW (as := [zR 0, zI (zdg (zlow v 12)), zI 3]) (q := 133) (u' := 10) dL_isTold_130 rfl ck_L_139 rfl rfl (Nat.le_of_ble_eq_true rfl) ⟨Nat.le_of_ble_eq_true rfl, Nat.le_of_ble_eq_true rfl⟩ rfl (by decide) (q6) ?_
                  refine g_aload_n (i := 3) (q := 134) dL_isTold_133 rfl rfl rfl ?_
                  refine g_bipush (q := 136) dL_isTold_134 rfl ⟨by decide, by decide⟩ (by decide) ?_
                  refine g_iload (q := 138) dL_isTold_136 rfl rfl ?_
                  refine g_iadd (q := 139) dL_isTold_138 rfl (by constructor <;> omega) ?_
                  refine g_ildv (q := 140) (z := S.2.1 40 (48 + (zlow v 12))) dL_isTold_139 rfl ⟨by decide, rfl, rfl⟩ (by omega) (by omega) rfl ?_
                  refine g_aload (q := 142) dL_isTold_140 rfl rfl ?_
                  refine g_iconst (q := 143) dL_isTold_142 rfl ⟨by decide, by decide⟩ ?_
                  refine g_ildv (q := 144) (z := S.2.1 47 0) dL_isTold_143 rfl ⟨by decide, rfl, rfl⟩ (by omega) (by omega) rfl ?_
                  refine g_icmp_lt (t := 151) (q := 147) dL_isTold_144 (by decide) rfl (fun h144 => ?_) (fun h144 => ?_)
                  · refine g_iconst (q := 152) dL_isTold_151 rfl ⟨by decide, by decide⟩ ?_
                    refine g_icmp_ne (t := 174) (q := 155) dL_isTold_152 (by decide) rfl (fun h152 => ?_) (fun h152 => ?_)
                    · exact False.elim (by omega)
                    · refine g_aload_n (i := 0) (q := 156) dL_isTold_155 rfl rfl rfl ?_
                      refine g_iload (q := 158) dL_isTold_156 rfl rfl ?_
                      refine g_iconst (q := 159) dL_isTold_158 rfl ⟨by decide, by decide⟩ ?_
                      refine g_fnW (as := [zR 0, zI (zdg (zlow v 12)), zI 4]) (q := 162) (u' := 12) dL_isTold_159 rfl ck_L_139 rfl rfl (Nat.le_of_ble_eq_true rfl) ⟨Nat.le_of_ble_eq_true rfl, Nat.le_of_ble_eq_true rfl⟩ rfl (by decide) (q7) ?_
                      refine g_iload (q := 164) dL_isTold_162 rfl rfl ?_
                      refine g_aload (q := 166) dL_isTold_164 rfl rfl ?_
                      refine g_aload (q := 168) dL_isTold_166 rfl rfl ?_
                      refine g_fnS (as := [zI (zlow v 12), zR 42, zR 47]) (q := 171) (u' := 12) dL_isTold_168 rfl ck_L_142 rfl rfl (Nat.le_of_ble_eq_true rfl) ⟨Nat.le_of_ble_eq_true rfl, Nat.le_of_ble_eq_true rfl⟩ rfl (by decide) (s_L_waits hO) rfl ?_
                      refine g_icmp_eq (t := 176) (q := 174) dL_isTold_171 (by decide) rfl (fun h171 => ?_) (fun h171 => ?_)
                      · refine g_iconst (q := 177) dL_isTold_176 rfl ⟨by decide, by decide⟩ ?_
                        refine g_istore (q := 179) dL_isTold_177 rfl (Nat.le_of_ble_eq_true rfl) ?_
                        exact hfi
                      · exact False.elim (by omega)
                  · refine g_iconst (q := 148) dL_isTold_147 rfl ⟨by decide, by decide⟩ ?_
                    refine g_goto (q := 0) (t := 152) dL_isTold_148 (by decide) ?_
                    refine g_icmp_ne (t := 174) (q := 155) dL_isTold_152 (by decide) rfl (fun h152 => ?_) (fun h152 => ?_)
                    · exact False.elim (by omega)
                    · refine g_aload_n (i := 0) (q := 156) dL_isTold_155 rfl rfl rfl ?_
                      refine g_iload (q := 158) dL_isTold_156 rfl rfl ?_
                      refine g_iconst (q := 159) dL_isTold_158 rfl ⟨by decide, by decide⟩ ?_
                      refine g_fnW (as := [zR 0, zI (zdg (zlow v 12)), zI 4]) (q := 162) (u' := 12) dL_isTold_159 rfl ck_L_139 rfl rfl (Nat.le_of_ble_eq_true rfl) ⟨Nat.le_of_ble_eq_true rfl, Nat.le_of_ble_eq_true rfl⟩ rfl (by decide) (q7) ?_
                      refine g_iload (q := 164) dL_isTold_162 rfl rfl ?_
                      refine g_aload (q := 166) dL_isTold_164 rfl rfl ?_
                      refine g_aload (q := 168) dL_isTold_166 rfl rfl ?_
                      refine g_fnS (as := [zI (zlow v 12), zR 42, zR 47]) (q := 171) (u' := 12) dL_isTold_168 rfl ck_L_142 rfl rfl (Nat.le_of_ble_eq_true rfl) ⟨Nat.le_of_ble_eq_true rfl, Nat.le_of_ble_eq_true rfl⟩ rfl (by decide) (s_L_waits hO) rfl ?_
                      refine g_icmp_eq (t := 176) (q := 174) dL_isTold_171 (by decide) rfl (fun h171 => ?_) (fun h171 => ?_)
                      · refine g_iconst (q := 177) dL_isTold_176 rfl ⟨by decide, by decide⟩ ?_
                        refine g_istore (q := 179) dL_isTold_177 rfl (Nat.le_of_ble_eq_true rfl) ?_
                        exact hfi
                      · exact False.elim (by omega)
