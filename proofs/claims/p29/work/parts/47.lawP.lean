/-! ===== the law's cases: minutes ===== -/
theorem y_cob_rng {T : zS} {o : Int} : 0 ≤ y_cob T o ∧ y_cob T o ≤ 1 := by
  unfold y_cob
  split
  · omega
  · split <;> omega
theorem y_cdn_rng {c : Nat} : ∀ (k i : Nat) (T : zS), 0 ≤ y_cdn T c i k ∧ y_cdn T c i k ≤ k
  | 0, _, _ => by rw [y_cdn]; omega
  | k + 1, i, T => by
    have h := y_cdn_rng (c := c) k (i + 1) (if T.2.1 42 i % 8 = 1 ∧ T.2.1 42 i / 65536 = T.2.1 47 0 then y_co T c i else T)
    have h2 := y_cob_rng (T := T) (o := i)
    rw [y_cdn]
    split <;> split at h <;> omega
section
variable {hh : List (Nat × Nat × Nat × Nat)} {F : zF} {n c : Nat} {v w : Int}
theorem lc_off {T : zS} {mm d mi b j : Int} (hO : yO T c) (hn : n < 150) : ∀ (k : Nat) (m : Int), (∃ e : Nat, e < k ∧ y_wa T (m + 100 * e) c < 3) → 0 ≤ m → m + 100 * k ≤ 100000 → z_G (mLw hh) F (500 * n + 10) 2781 [some (zR 49), some (zR 0), some (zR 7), some (zR 40), some (zR 41), some (zR 42), some (zR 43), some (zR 44), some (zR 48), some (zR 45), some (zR 46), some (zR 47), some (zI (n : Int)), some (zI v), some (zI w), none, none, none, some (zI 1), none, none, none, none, none, none, none, none, none, none, none, none, none, none, none, none, none, none, none, none, none, none, none, none, none, some (zI mm), some (zI d), some (zI mi), some (zI b), some (zI j), some (zI (y_po T c m k))] [] T → z_G (mLw hh) F (500 * n + 10) 2762 [some (zR 49), some (zR 0), some (zR 7), some (zR 40), some (zR 41), some (zR 42), some (zR 43), some (zR 44), some (zR 48), some (zR 45), some (zR 46), some (zR 47), some (zI (n : Int)), some (zI v), some (zI w), none, none, none, some (zI 1), none, none, none, none, none, none, none, none, none, none, none, none, none, none, none, none, none, none, none, none, none, none, none, none, none, some (zI mm), some (zI d), some (zI mi), some (zI b), some (zI j), some (zI m)] [] T := by
  intro k
  induction k with
  | zero =>
    intro m hex
    obtain ⟨e, a, _⟩ := hex
    exact absurd a (by omega)
  | succ k ih =>
    intro m hex h0 hm hk
    have hle := y_wa_le T m c
    have hc := hO.2.1
    by_cases e : 3 ≤ y_wa T m c
    · have hnx := ih (m + 100) (by
        obtain ⟨e1, a, b⟩ := hex
        have : e1 ≠ 0 := by
          intro q
          subst q
          rw [show m + 100 * ((0 : Nat) : Int) = m by omega] at b
          omega
        exact ⟨e1 - 1, by omega, by rw [show m + 100 + 100 * ((e1 - 1 : Nat) : Int) = m + 100 * (e1 : Int) by omega]; exact b⟩) (by omega) (by omega) (by rw [y_po, if_pos e] at hk; exact hk)
      refine g_iload (q := 2764) dL_law_2762 rfl rfl ?_
      refine g_aload (q := 2766) dL_law_2764 rfl rfl ?_
      refine g_aload (q := 2768) dL_law_2766 rfl rfl ?_
      refine g_fnS (as := [zI m, zR 42, zR 47]) (q := 2771) (u' := 500 * n + 10) dL_law_2768 rfl ck_L_162 rfl rfl (Nat.le_of_ble_eq_true rfl) ⟨Nat.le_of_ble_eq_true rfl, Nat.le_of_ble_eq_true rfl⟩ rfl (show 500 * n + 10 ≤ 100000 by omega) (s_L_waitAt hO) rfl ?_
      refine g_iconst (q := 2772) dL_law_2771 rfl ⟨by decide, by decide⟩ ?_
      refine g_icmp_le (t := 2781) (q := 2775) dL_law_2772 (by decide) rfl (fun h2772 => (False.elim (by omega))) (fun h2772 => ?_)
      refine g_iinc (q := 2778) (i := 49) (n := 100) dL_law_2775 rfl rfl (by constructor <;> omega) ?_
      refine g_goto (q := 0) (t := 2762) dL_law_2778 (by decide) ?_
      exact hnx
    · rw [y_po, if_neg e] at hk
      refine g_iload (q := 2764) dL_law_2762 rfl rfl ?_
      refine g_aload (q := 2766) dL_law_2764 rfl rfl ?_
      refine g_aload (q := 2768) dL_law_2766 rfl rfl ?_
      refine g_fnS (as := [zI m, zR 42, zR 47]) (q := 2771) (u' := 500 * n + 10) dL_law_2768 rfl ck_L_162 rfl rfl (Nat.le_of_ble_eq_true rfl) ⟨Nat.le_of_ble_eq_true rfl, Nat.le_of_ble_eq_true rfl⟩ rfl (show 500 * n + 10 ≤ 100000 by omega) (s_L_waitAt hO) rfl ?_
      refine g_iconst (q := 2772) dL_law_2771 rfl ⟨by decide, by decide⟩ ?_
      refine g_icmp_le (t := 2781) (q := 2775) dL_law_2772 (by decide) rfl (fun h2772 => ?_) (fun h2772 => (False.elim (by omega)))
      exact hk
/-- one order of the minute -/
theorem lc_ord1 {X T : zS} {mm d mi b : Int} (h : zW n c X T) (hn : n < 150) (hb : 0 ≤ b ∧ b < c) (hc : T.2.1 42 b % 8 = 1 ∧ T.2.1 42 b / 65536 = T.2.1 47 0) (hd : 0 ≤ d ∧ d < 100000) (hk : z_G (mLw hh) F (500 * n + 10) 2930 [some (zR 49), some (zR 0), some (zR 7), some (zR 40), some (zR 41), some (zR 42), some (zR 43), some (zR 44), some (zR 48), some (zR 45), some (zR 46), some (zR 47), some (zI (n : Int)), some (zI v), some (zI w), none, none, none, some (zI 1), none, none, none, none, none, none, none, none, none, none, none, none, none, none, none, none, none, none, none, none, none, none, none, none, none, some (zI mm), some (zI (d + y_cob T b)), some (zI mi), some (zI b), none, none] [] (y_co T c b)) : z_G (mLw hh) F (500 * n + 10) 2726 [some (zR 49), some (zR 0), some (zR 7), some (zR 40), some (zR 41), some (zR 42), some (zR 43), some (zR 44), some (zR 48), some (zR 45), some (zR 46), some (zR 47), some (zI (n : Int)), some (zI v), some (zI w), none, none, none, some (zI 1), none, none, none, none, none, none, none, none, none, none, none, none, none, none, none, none, none, none, none, none, none, none, none, none, none, some (zI mm), some (zI d), some (zI mi), some (zI b), none, none] [] T := by
  have hab := h.ab hn
  obtain ⟨r, ha, h3, h1, hp⟩ := h
  have hO := r.yO'
  have ec : (X.1 1).toNat = c := by omega
  rw [ec] at hO
  have hor := r.ordr
  have qo := r.ors b hb.1 (by omega)
  have qv := r.orv b hb.1 (by omega)
  have qw := r.orw b hb.1 (by omega) (by omega)
  have hnow := r.now
  have hnr := r.nowr
  have hch := r.chg
  have hcr := r.chgr
  have hb46 : ∀ g : Int, 0 ≤ g → g < 6 → 90000 ≤ T.2.1 46 g ∧ T.2.1 46 g ≤ 9000000 := fun g x y => by
    have q1 := hab g x y
    have q2 := r.firm g x y
    have q3 := r.flag g x y
    omega
  obtain ⟨j, ej⟩ : ∃ j, j = T.2.1 42 b / 64 % 16 := ⟨_, rfl⟩
  obtain ⟨ww, ew⟩ : ∃ z, z = T.2.1 42 b / 1024 % 8 := ⟨_, rfl⟩
  have hj : 0 ≤ j ∧ j < 12 := by omega
  have hww : 0 ≤ ww ∧ ww < 6 := by omega
  have qs := r.serv j hj.1 hj.2
  rw [qo.2.2.1, ← ej] at qw
  obtain ⟨dd, ed⟩ : ∃ z, z = T.2.1 40 j := ⟨_, rfl⟩
  have k39 : z_G (mLw hh) F (500 * n + 10) 2739 [some (zR 49), some (zR 0), some (zR 7), some (zR 40), some (zR 41), some (zR 42), some (zR 43), some (zR 44), some (zR 48), some (zR 45), some (zR 46), some (zR 47), some (zI (n : Int)), some (zI v), some (zI w), none, none, none, some (zI 1), none, none, none, none, none, none, none, none, none, none, none, none, none, none, none, none, none, none, none, none, none, none, none, none, none, some (zI mm), some (zI d), some (zI mi), some (zI b), some (zI j), none] [] T := by
    by_cases c1 : T.2.1 47 0 ≤ T.2.1 40 (48 + j)
    · have e1 : y_co T c b = z_sA T 42 b (T.2.1 42 b % 65536 + y_po T c (T.2.1 47 0 + 100) 60 * 65536) := by
        unfold y_co
        rw [← ej, if_pos c1]
      have e2 : y_cob T b = 0 := by
        unfold y_cob
        rw [← ej, if_pos c1]
      rw [e1, e2] at hk
      have hm := y_po_rng (S := T) (c := c) 60 (T.2.1 47 0 + 100)
      have hfr := y_free (S := T) (c := c) (by omega) (T.2.1 47 0 + 100)
      obtain ⟨po, epo⟩ : ∃ z, z = y_po T c (T.2.1 47 0 + 100) 60 := ⟨_, rfl⟩
      have hlo := lc_off (hh := hh) (F := F) (n := n) (v := v) (w := w) (mm := mm) (d := d) (mi := mi) (b := b) (j := j) hO hn 60 (T.2.1 47 0 + 100) hfr (by omega) (by omega)
      rw [← epo] at hlo hk hm
      have k81 : z_G (mLw hh) F (500 * n + 10) 2781 [some (zR 49), some (zR 0), some (zR 7), some (zR 40), some (zR 41), some (zR 42), some (zR 43), some (zR 44), some (zR 48), some (zR 45), some (zR 46), some (zR 47), some (zI (n : Int)), some (zI v), some (zI w), none, none, none, some (zI 1), none, none, none, none, none, none, none, none, none, none, none, none, none, none, none, none, none, none, none, none, none, none, none, none, none, some (zI mm), some (zI d), some (zI mi), some (zI b), some (zI j), some (zI po)] [] T := by
        have hk0 := hk
        rw [Int.add_zero] at hk0
        refine g_aload (q := 2783) dL_law_2781 rfl rfl ?_
        refine g_iload (q := 2785) dL_law_2783 rfl rfl ?_
        refine g_aload (q := 2787) dL_law_2785 rfl rfl ?_
        refine g_iload (q := 2789) dL_law_2787 rfl rfl ?_
        refine g_ildv (q := 2790) (z := T.2.1 42 b) dL_law_2789 rfl ⟨by decide, rfl, rfl⟩ (by omega) (by omega) rfl ?_
        refine g_ldc (z := 65535) (q := 2792) dL_law_2790 rfl lk_223 (by constructor <;> decide) ?_
        refine g_iandv (q := 2793) (z := (T.2.1 42 b) % 65536) dL_law_2792 rfl (zAnd_m 16 (by decide) (by decide) (by omega) (by omega)) ?_
        refine g_iload (q := 2795) dL_law_2793 rfl rfl ?_
        refine g_bipush (q := 2797) dL_law_2795 rfl ⟨by decide, by decide⟩ (by decide) ?_
        refine g_ishlv (q := 2798) (z := po * 65536) dL_law_2797 rfl (zShl_p 16 (by decide) (by decide) (by omega) (by omega)) ?_
        refine g_iorv (q := 2799) (z := T.2.1 42 b % 65536 + po * 65536) dL_law_2798 rfl (zOr_q (p := 65536) 16 (by decide) (by omega) (by omega) (by omega) (by omega) (by omega)) ?_
        refine g_iast (q := 2800) dL_law_2799 rfl ⟨by decide, rfl, rfl⟩ (by omega) (by omega) ?_
        refine g_goto (q := 0) (t := 2930) dL_law_2800 (by decide) ?_
        exact g_forget (z_sub_r (z_sub_r (z_sub_r (z_sub_r (z_sub_r (z_sub_r (z_sub_r (z_sub_r (z_sub_r (z_sub_r (z_sub_r (z_sub_r (z_sub_r (z_sub_r (z_sub_r (z_sub_n (z_sub_n (z_sub_n (z_sub_r (z_sub_n (z_sub_n (z_sub_n (z_sub_n (z_sub_n (z_sub_n (z_sub_n (z_sub_n (z_sub_n (z_sub_n (z_sub_n (z_sub_n (z_sub_n (z_sub_n (z_sub_n (z_sub_n (z_sub_n (z_sub_n (z_sub_n (z_sub_n (z_sub_n (z_sub_n (z_sub_n (z_sub_n (z_sub_n (z_sub_r (z_sub_r (z_sub_r (z_sub_r (z_sub_n (z_sub_n z_sub_0)))))))))))))))))))))))))))))))))))))))))))))))))) hk0
      refine g_aload_n (i := 3) (q := 2740) dL_law_2739 rfl rfl rfl ?_
      refine g_bipush (q := 2742) dL_law_2740 rfl ⟨by decide, by decide⟩ (by decide) ?_
      refine g_iload (q := 2744) dL_law_2742 rfl rfl ?_
      refine g_iadd (q := 2745) dL_law_2744 rfl (by constructor <;> omega) ?_
      refine g_ildv (q := 2746) (z := T.2.1 40 (48 + j)) dL_law_2745 rfl ⟨by decide, rfl, rfl⟩ (by omega) (by omega) rfl ?_
      refine g_aload (q := 2748) dL_law_2746 rfl rfl ?_
      refine g_iconst (q := 2749) dL_law_2748 rfl ⟨by decide, by decide⟩ ?_
      refine g_ildv (q := 2750) (z := T.2.1 47 0) dL_law_2749 rfl ⟨by decide, rfl, rfl⟩ (by omega) (by omega) rfl ?_
      refine g_icmp_lt (t := 2803) (q := 2753) dL_law_2750 (by decide) rfl (fun h2750 => (False.elim (by omega))) (fun h2750 => ?_)
      refine g_aload (q := 2755) dL_law_2753 rfl rfl ?_
      refine g_iconst (q := 2756) dL_law_2755 rfl ⟨by decide, by decide⟩ ?_
      refine g_ildv (q := 2757) (z := T.2.1 47 0) dL_law_2756 rfl ⟨by decide, rfl, rfl⟩ (by omega) (by omega) rfl ?_
      refine g_bipush (q := 2759) dL_law_2757 rfl ⟨by decide, by decide⟩ (by decide) ?_
      refine g_iadd (q := 2760) dL_law_2759 rfl (by constructor <;> omega) ?_
      refine g_istore (q := 2762) dL_law_2760 rfl (Nat.le_of_ble_eq_true rfl) ?_
      exact hlo k81
    · by_cases c2 : dd = ww
      · have e1 : y_co T c b = z_sA T 42 b (T.2.1 42 b + 2) := by
          unfold y_co
          rw [← ej, ← ew, ← ed, if_neg c1, if_pos c2]
        have e2 : y_cob T b = 0 := by
          unfold y_cob
          rw [← ej, ← ew, ← ed, if_neg c1, if_pos c2]
        rw [e1, e2, Int.add_zero] at hk
        refine g_aload_n (i := 3) (q := 2740) dL_law_2739 rfl rfl rfl ?_
        refine g_bipush (q := 2742) dL_law_2740 rfl ⟨by decide, by decide⟩ (by decide) ?_
        refine g_iload (q := 2744) dL_law_2742 rfl rfl ?_
        refine g_iadd (q := 2745) dL_law_2744 rfl (by constructor <;> omega) ?_
        refine g_ildv (q := 2746) (z := T.2.1 40 (48 + j)) dL_law_2745 rfl ⟨by decide, rfl, rfl⟩ (by omega) (by omega) rfl ?_
        refine g_aload (q := 2748) dL_law_2746 rfl rfl ?_
        refine g_iconst (q := 2749) dL_law_2748 rfl ⟨by decide, by decide⟩ ?_
        refine g_ildv (q := 2750) (z := T.2.1 47 0) dL_law_2749 rfl ⟨by decide, rfl, rfl⟩ (by omega) (by omega) rfl ?_
        refine g_icmp_lt (t := 2803) (q := 2753) dL_law_2750 (by decide) rfl (fun h2750 => ?_) (fun h2750 => (False.elim (by omega)))
        refine g_aload_n (i := 3) (q := 2804) dL_law_2803 rfl rfl rfl ?_
        refine g_iload (q := 2806) dL_law_2804 rfl rfl ?_
        refine g_ildv (q := 2807) (z := T.2.1 40 j) dL_law_2806 rfl ⟨by decide, rfl, rfl⟩ (by omega) (by omega) rfl ?_
        refine g_aload (q := 2809) dL_law_2807 rfl rfl ?_
        refine g_iload (q := 2811) dL_law_2809 rfl rfl ?_
        refine g_ildv (q := 2812) (z := T.2.1 42 b) dL_law_2811 rfl ⟨by decide, rfl, rfl⟩ (by omega) (by omega) rfl ?_
        refine g_fnS (as := [zI (T.2.1 42 b)]) (q := 2815) (u' := 500 * n + 10) dL_law_2812 rfl ck_L_157 rfl rfl (Nat.le_of_ble_eq_true rfl) ⟨Nat.le_of_ble_eq_true rfl, Nat.le_of_ble_eq_true rfl⟩ rfl (show 500 * n + 10 ≤ 100000 by omega) (s_L_winner (by omega)) rfl ?_
        refine g_icmp_ne (t := 2830) (q := 2818) dL_law_2815 (by decide) rfl (fun h2815 => (False.elim (by omega))) (fun h2815 => ?_)
        refine g_aload (q := 2820) dL_law_2818 rfl rfl ?_
        refine g_iload (q := 2822) dL_law_2820 rfl rfl ?_
        refine g_dup2 (q := 2823) dL_law_2822 rfl trivial trivial ?_
        refine g_ildv (q := 2824) (z := T.2.1 42 b) dL_law_2823 rfl ⟨by decide, rfl, rfl⟩ (by omega) (by omega) rfl ?_
        refine g_iconst (q := 2825) dL_law_2824 rfl ⟨by decide, by decide⟩ ?_
        refine g_iadd (q := 2826) dL_law_2825 rfl (by constructor <;> omega) ?_
        refine g_iast (q := 2827) dL_law_2826 rfl ⟨by decide, rfl, rfl⟩ (by omega) (by omega) ?_
        refine g_goto (q := 0) (t := 2930) dL_law_2827 (by decide) ?_
        exact g_forget (z_sub_r (z_sub_r (z_sub_r (z_sub_r (z_sub_r (z_sub_r (z_sub_r (z_sub_r (z_sub_r (z_sub_r (z_sub_r (z_sub_r (z_sub_r (z_sub_r (z_sub_r (z_sub_n (z_sub_n (z_sub_n (z_sub_r (z_sub_n (z_sub_n (z_sub_n (z_sub_n (z_sub_n (z_sub_n (z_sub_n (z_sub_n (z_sub_n (z_sub_n (z_sub_n (z_sub_n (z_sub_n (z_sub_n (z_sub_n (z_sub_n (z_sub_n (z_sub_n (z_sub_n (z_sub_n (z_sub_n (z_sub_n (z_sub_n (z_sub_n (z_sub_n (z_sub_r (z_sub_r (z_sub_r (z_sub_r (z_sub_n (z_sub_n z_sub_0)))))))))))))))))))))))))))))))))))))))))))))))))) hk
      · have e1 : y_co T c b = y_dn T b j ww dd := by
          unfold y_co
          rw [← ej, ← ew, ← ed, if_neg c1, if_neg c2]
        have e2 : y_cob T b = 1 := by
          unfold y_cob
          rw [← ej, ← ew, ← ed, if_neg c1, if_neg c2]
        rw [e1, e2] at hk
        unfold y_dn at hk
        have hdd : 0 ≤ dd ∧ dd < 6 := by omega
        obtain ⟨W, eW⟩ : ∃ W, W = T.2.1 42 b / 65536 * 65536 + (dd + 1) * 8192 + T.2.1 42 b % 8192 + 1 := ⟨_, rfl⟩
        rw [← eW] at hk
        have hW : 0 ≤ W ∧ W < 2147483648 ∧ W / 1024 % 8 = ww := by omega
        obtain ⟨zz, ezz⟩ : ∃ z, z = (z_sA (z_sA (z_sA T 42 b W) 43 b (T.2.1 47 0)) 46 ww (T.2.1 46 ww - 5120)).2.1 46 dd := ⟨_, rfl⟩
        have eY : y_pay (z_sA (z_sA T 42 b W) 43 b (T.2.1 47 0)) ww dd 5120 = z_sA (z_sA (z_sA (z_sA T 42 b W) 43 b (T.2.1 47 0)) 46 ww (T.2.1 46 ww - 5120)) 46 dd (zz + 5120) := by
          rw [ezz]
          rfl
        rw [eY] at hk
        have hzz : zz = T.2.1 46 dd := by
          rw [ezz, za_ni c2]
          rfl
        have b1 := hb46 ww hww.1 hww.2
        have b2 := hb46 dd hdd.1 hdd.2
        have hgt := s_L_goesTo (T := z_sA (z_sA (z_sA (z_sA T 42 b W) 43 b (T.2.1 47 0)) 46 ww (T.2.1 46 ww - 5120)) 46 dd (zz + 5120)) (i := j) (f := ww) hj hww (show 0 ≤ T.2.1 47 2 ∧ T.2.1 47 2 < 64 by omega) (show 0 ≤ T.2.1 47 0 ∧ T.2.1 47 0 ≤ 9999 by omega)
        have k62 : z_G (mLw hh) F (500 * n + 10) 2862 [some (zR 49), some (zR 0), some (zR 7), some (zR 40), some (zR 41), some (zR 42), some (zR 43), some (zR 44), some (zR 48), some (zR 45), some (zR 46), some (zR 47), some (zI (n : Int)), some (zI v), some (zI w), none, none, none, some (zI 1), none, none, none, none, none, none, none, none, none, none, none, none, none, none, none, none, none, none, none, none, none, none, none, none, none, some (zI mm), some (zI d), some (zI mi), some (zI b), some (zI j), none] [] (z_sA T 42 b W) := by
          refine g_aload (q := 2864) dL_law_2862 rfl rfl ?_
          refine g_iload (q := 2866) dL_law_2864 rfl rfl ?_
          refine g_aload (q := 2868) dL_law_2866 rfl rfl ?_
          refine g_iconst (q := 2869) dL_law_2868 rfl ⟨by decide, by decide⟩ ?_
          refine g_ildv (q := 2870) (z := T.2.1 47 0) dL_law_2869 rfl ⟨by decide, rfl, rfl⟩ (by omega) (by omega) rfl ?_
          refine g_iast (q := 2871) dL_law_2870 rfl ⟨by decide, rfl, rfl⟩ (by omega) (by omega) ?_
          refine g_aload (q := 2873) dL_law_2871 rfl rfl ?_
          refine g_aload (q := 2875) dL_law_2873 rfl rfl ?_
          refine g_iload (q := 2877) dL_law_2875 rfl rfl ?_
          refine g_ildv (q := 2878) (z := W) dL_law_2877 rfl ⟨by decide, rfl, rfl⟩ (by omega) (by omega) za_eq ?_
          refine g_fnS (as := [zI W]) (q := 2881) (u' := 500 * n + 10) dL_law_2878 rfl ck_L_157 rfl rfl (Nat.le_of_ble_eq_true rfl) ⟨Nat.le_of_ble_eq_true rfl, Nat.le_of_ble_eq_true rfl⟩ rfl (show 500 * n + 10 ≤ 100000 by omega) (s_L_winner (by omega)) rfl ?_
          refine g_top (z := ww) hW.2.2 ?_
          refine g_dup2 (q := 2882) dL_law_2881 rfl trivial trivial ?_
          refine g_ildv (q := 2883) (z := T.2.1 46 ww) dL_law_2882 rfl ⟨by decide, rfl, rfl⟩ (by omega) (by omega) rfl ?_
          refine g_sipush (q := 2886) dL_law_2883 rfl ⟨by decide, by decide⟩ (by decide) ?_
          refine g_isub (q := 2887) dL_law_2886 rfl (by constructor <;> omega) ?_
          refine g_iast (q := 2888) dL_law_2887 rfl ⟨by decide, rfl, rfl⟩ (by omega) (by omega) ?_
          refine g_aload (q := 2890) dL_law_2888 rfl rfl ?_
          refine g_aload_n (i := 3) (q := 2891) dL_law_2890 rfl rfl rfl ?_
          refine g_iload (q := 2893) dL_law_2891 rfl rfl ?_
          refine g_ildv (q := 2894) (z := dd) dL_law_2893 rfl ⟨by decide, rfl, rfl⟩ (by omega) (by omega) ed.symm ?_
          refine g_dup2 (q := 2895) dL_law_2894 rfl trivial trivial ?_
          refine g_ildv (q := 2896) (z := zz) dL_law_2895 rfl ⟨by decide, rfl, rfl⟩ (by omega) (by omega) ezz.symm ?_
          refine g_sipush (q := 2899) dL_law_2896 rfl ⟨by decide, by decide⟩ (by decide) ?_
          refine g_iadd (q := 2900) dL_law_2899 rfl (by constructor <;> omega) ?_
          refine g_iast (q := 2901) dL_law_2900 rfl ⟨by decide, rfl, rfl⟩ (by omega) (by omega) ?_
          refine g_iload (q := 2903) dL_law_2901 rfl rfl ?_
          refine g_aload (q := 2905) dL_law_2903 rfl rfl ?_
          refine g_iload (q := 2907) dL_law_2905 rfl rfl ?_
          refine g_ildv (q := 2908) (z := W) dL_law_2907 rfl ⟨by decide, rfl, rfl⟩ (by omega) (by omega) (show (z_sA T 42 b W).2.1 42 b = W from za_eq) ?_
          refine g_fnS (as := [zI W]) (q := 2911) (u' := 500 * n + 10) dL_law_2908 rfl ck_L_157 rfl rfl (Nat.le_of_ble_eq_true rfl) ⟨Nat.le_of_ble_eq_true rfl, Nat.le_of_ble_eq_true rfl⟩ rfl (show 500 * n + 10 ≤ 100000 by omega) (s_L_winner (by omega)) rfl ?_
          refine g_top (z := ww) hW.2.2 ?_
          refine g_aload_n (i := 2) (q := 2912) dL_law_2911 rfl rfl rfl ?_
          refine g_aload_n (i := 3) (q := 2913) dL_law_2912 rfl rfl rfl ?_
          refine g_aload (q := 2915) dL_law_2913 rfl rfl ?_
          refine g_aload (q := 2917) dL_law_2915 rfl rfl ?_
          refine g_fnS (as := [zI j, zI ww, zR 7, zR 40, zR 44, zR 47]) (q := 2920) (u' := 500 * n + 10) dL_law_2917 rfl ck_L_198 rfl rfl (Nat.le_of_ble_eq_true rfl) ⟨Nat.le_of_ble_eq_true rfl, Nat.le_of_ble_eq_true rfl⟩ rfl (show 500 * n + 10 ≤ 100000 by omega) (hgt) rfl ?_
          refine g_aload (q := 2922) dL_law_2920 rfl rfl ?_
          refine g_iload (q := 2924) dL_law_2922 rfl rfl ?_
          refine g_iload (q := 2926) dL_law_2924 rfl rfl ?_
          refine g_iast (q := 2927) dL_law_2926 rfl ⟨by decide, rfl, rfl⟩ (by omega) (by omega) ?_
          refine g_iinc (q := 2930) (i := 45) (n := 1) dL_law_2927 rfl rfl (by constructor <;> omega) ?_
          exact g_forget (z_sub_r (z_sub_r (z_sub_r (z_sub_r (z_sub_r (z_sub_r (z_sub_r (z_sub_r (z_sub_r (z_sub_r (z_sub_r (z_sub_r (z_sub_r (z_sub_r (z_sub_r (z_sub_n (z_sub_n (z_sub_n (z_sub_r (z_sub_n (z_sub_n (z_sub_n (z_sub_n (z_sub_n (z_sub_n (z_sub_n (z_sub_n (z_sub_n (z_sub_n (z_sub_n (z_sub_n (z_sub_n (z_sub_n (z_sub_n (z_sub_n (z_sub_n (z_sub_n (z_sub_n (z_sub_n (z_sub_n (z_sub_n (z_sub_n (z_sub_n (z_sub_n (z_sub_r (z_sub_r (z_sub_r (z_sub_r (z_sub_n (z_sub_n z_sub_0)))))))))))))))))))))))))))))))))))))))))))))))))) hk
        refine g_aload_n (i := 3) (q := 2740) dL_law_2739 rfl rfl rfl ?_
        refine g_bipush (q := 2742) dL_law_2740 rfl ⟨by decide, by decide⟩ (by decide) ?_
        refine g_iload (q := 2744) dL_law_2742 rfl rfl ?_
        refine g_iadd (q := 2745) dL_law_2744 rfl (by constructor <;> omega) ?_
        refine g_ildv (q := 2746) (z := T.2.1 40 (48 + j)) dL_law_2745 rfl ⟨by decide, rfl, rfl⟩ (by omega) (by omega) rfl ?_
        refine g_aload (q := 2748) dL_law_2746 rfl rfl ?_
        refine g_iconst (q := 2749) dL_law_2748 rfl ⟨by decide, by decide⟩ ?_
        refine g_ildv (q := 2750) (z := T.2.1 47 0) dL_law_2749 rfl ⟨by decide, rfl, rfl⟩ (by omega) (by omega) rfl ?_
        refine g_icmp_lt (t := 2803) (q := 2753) dL_law_2750 (by decide) rfl (fun h2750 => ?_) (fun h2750 => (False.elim (by omega)))
        refine g_aload_n (i := 3) (q := 2804) dL_law_2803 rfl rfl rfl ?_
        refine g_iload (q := 2806) dL_law_2804 rfl rfl ?_
        refine g_ildv (q := 2807) (z := T.2.1 40 j) dL_law_2806 rfl ⟨by decide, rfl, rfl⟩ (by omega) (by omega) rfl ?_
        refine g_aload (q := 2809) dL_law_2807 rfl rfl ?_
        refine g_iload (q := 2811) dL_law_2809 rfl rfl ?_
        refine g_ildv (q := 2812) (z := T.2.1 42 b) dL_law_2811 rfl ⟨by decide, rfl, rfl⟩ (by omega) (by omega) rfl ?_
        refine g_fnS (as := [zI (T.2.1 42 b)]) (q := 2815) (u' := 500 * n + 10) dL_law_2812 rfl ck_L_157 rfl rfl (Nat.le_of_ble_eq_true rfl) ⟨Nat.le_of_ble_eq_true rfl, Nat.le_of_ble_eq_true rfl⟩ rfl (show 500 * n + 10 ≤ 100000 by omega) (s_L_winner (by omega)) rfl ?_
        refine g_icmp_ne (t := 2830) (q := 2818) dL_law_2815 (by decide) rfl (fun h2815 => ?_) (fun h2815 => (False.elim (by omega)))
        refine g_aload (q := 2832) dL_law_2830 rfl rfl ?_
        refine g_iload (q := 2834) dL_law_2832 rfl rfl ?_
        refine g_aload (q := 2836) dL_law_2834 rfl rfl ?_
        refine g_iload (q := 2838) dL_law_2836 rfl rfl ?_
        refine g_ildv (q := 2839) (z := T.2.1 42 b) dL_law_2838 rfl ⟨by decide, rfl, rfl⟩ (by omega) (by omega) rfl ?_
        refine g_ldc (z := -57345) (q := 2841) dL_law_2839 rfl lk_224 (by constructor <;> decide) ?_
        refine g_iandv (q := 2842) (z := T.2.1 42 b / 65536 * 65536 + T.2.1 42 b % 8192) dL_law_2841 rfl (zAnd_c 13 3 57344 8192 65536 (by decide) (by decide) (by decide) (by decide) (by decide) (by omega) (by omega)) ?_
        refine g_aload_n (i := 3) (q := 2843) dL_law_2842 rfl rfl rfl ?_
        refine g_iload (q := 2845) dL_law_2843 rfl rfl ?_
        refine g_ildv (q := 2846) (z := dd) dL_law_2845 rfl ⟨by decide, rfl, rfl⟩ (by omega) (by omega) ed.symm ?_
        refine g_iconst (q := 2847) dL_law_2846 rfl ⟨by decide, by decide⟩ ?_
        refine g_iadd (q := 2848) dL_law_2847 rfl (by constructor <;> omega) ?_
        refine g_bipush (q := 2850) dL_law_2848 rfl ⟨by decide, by decide⟩ (by decide) ?_
        refine g_ishlv (q := 2851) (z := (dd + 1) * 8192) dL_law_2850 rfl (zShl_p 13 (by decide) (by decide) (by omega) (by omega)) ?_
        refine g_iorv (q := 2852) (z := T.2.1 42 b / 65536 * 65536 + (dd + 1) * 8192 + T.2.1 42 b % 8192) dL_law_2851 rfl (zOr_mid (by omega) (by omega) (by omega)) ?_
        refine g_iast (q := 2853) dL_law_2852 rfl ⟨by decide, rfl, rfl⟩ (by omega) (by omega) ?_
        refine g_aload (q := 2855) dL_law_2853 rfl rfl ?_
        refine g_iload (q := 2857) dL_law_2855 rfl rfl ?_
        refine g_dup2 (q := 2858) dL_law_2857 rfl trivial trivial ?_
        refine g_ildv (q := 2859) (z := T.2.1 42 b / 65536 * 65536 + (dd + 1) * 8192 + T.2.1 42 b % 8192) dL_law_2858 rfl ⟨by decide, rfl, rfl⟩ (by omega) (by omega) za_eq ?_
        refine g_iconst (q := 2860) dL_law_2859 rfl ⟨by decide, by decide⟩ ?_
        refine g_iadd (q := 2861) dL_law_2860 rfl (by constructor <;> omega) ?_
        refine g_iast (q := 2862) dL_law_2861 rfl ⟨by decide, rfl, rfl⟩ (by omega) (by omega) ?_
        refine g_state zs_tw ?_
        rw [← eW]
        exact k62
  refine g_aload (q := 2728) dL_law_2726 rfl rfl ?_
  refine g_iload (q := 2730) dL_law_2728 rfl rfl ?_
  refine g_ildv (q := 2731) (z := T.2.1 42 b) dL_law_2730 rfl ⟨by decide, rfl, rfl⟩ (by omega) (by omega) rfl ?_
  refine g_bipush (q := 2733) dL_law_2731 rfl ⟨by decide, by decide⟩ (by decide) ?_
  refine g_ishrv (q := 2734) (z := (T.2.1 42 b) / 64) dL_law_2733 rfl (zShr_p 6 (by decide) (by decide) (by constructor <;> omega)) ?_
  refine g_bipush (q := 2736) dL_law_2734 rfl ⟨by decide, by decide⟩ (by decide) ?_
  refine g_iandv (q := 2737) (z := ((T.2.1 42 b) / 64) % 16) dL_law_2736 rfl (zAnd_m 4 (by decide) (by decide) (by omega) (by omega)) ?_
  refine g_top (z := j) ej.symm ?_
  refine g_istore (q := 2739) dL_law_2737 rfl (Nat.le_of_ble_eq_true rfl) ?_
  exact k39
theorem lc_ord {mm mi : Int} (hn : n < 150) : ∀ (k b : Nat) (X T : zS) (d : Int), b + k = c → zW n c X T → 0 ≤ d ∧ d + k < 100000 → z_G (mLw hh) F (500 * n + 10) 2936 [some (zR 49), some (zR 0), some (zR 7), some (zR 40), some (zR 41), some (zR 42), some (zR 43), some (zR 44), some (zR 48), some (zR 45), some (zR 46), some (zR 47), some (zI (n : Int)), some (zI v), some (zI w), none, none, none, some (zI 1), none, none, none, none, none, none, none, none, none, none, none, none, none, none, none, none, none, none, none, none, none, none, none, none, none, some (zI mm), some (zI (d + y_cdn T c b k)), some (zI mi), none, none, none] [] (y_cd T c b k) → z_G (mLw hh) F (500 * n + 10) 2687 [some (zR 49), some (zR 0), some (zR 7), some (zR 40), some (zR 41), some (zR 42), some (zR 43), some (zR 44), some (zR 48), some (zR 45), some (zR 46), some (zR 47), some (zI (n : Int)), some (zI v), some (zI w), none, none, none, some (zI 1), none, none, none, none, none, none, none, none, none, none, none, none, none, none, none, none, none, none, none, none, none, none, none, none, none, some (zI mm), some (zI d), some (zI mi), some (zI (b : Int)), none, none] [] T := by
  intro k
  induction k with
  | zero =>
    intro b X T d hbk h hd hk
    rw [y_cdn, y_cd, Int.add_zero] at hk
    have hor := h.1.ord
    have h1 := h.2.2.2.1
    refine g_iload (q := 2689) dL_law_2687 rfl rfl ?_
    refine g_aload (q := 2691) dL_law_2689 rfl rfl ?_
    refine g_iconst (q := 2692) dL_law_2691 rfl ⟨by decide, by decide⟩ ?_
    refine g_ildv (q := 2693) (z := T.2.1 47 1) dL_law_2692 rfl ⟨by decide, rfl, rfl⟩ (by omega) (by omega) rfl ?_
    refine g_icmp_ge (t := 2936) (q := 2696) dL_law_2693 (by decide) rfl (fun h2693 => ?_) (fun h2693 => (False.elim (by omega)))
    exact g_forget (z_sub_r (z_sub_r (z_sub_r (z_sub_r (z_sub_r (z_sub_r (z_sub_r (z_sub_r (z_sub_r (z_sub_r (z_sub_r (z_sub_r (z_sub_r (z_sub_r (z_sub_r (z_sub_n (z_sub_n (z_sub_n (z_sub_r (z_sub_n (z_sub_n (z_sub_n (z_sub_n (z_sub_n (z_sub_n (z_sub_n (z_sub_n (z_sub_n (z_sub_n (z_sub_n (z_sub_n (z_sub_n (z_sub_n (z_sub_n (z_sub_n (z_sub_n (z_sub_n (z_sub_n (z_sub_n (z_sub_n (z_sub_n (z_sub_n (z_sub_n (z_sub_n (z_sub_r (z_sub_r (z_sub_r (z_sub_n (z_sub_n (z_sub_n z_sub_0)))))))))))))))))))))))))))))))))))))))))))))))))) hk
  | succ k ih =>
    intro b X T d hbk h hd hk
    have hor := h.1.ord
    have horr := h.1.ordr
    have hnow := h.1.now
    have hnr := h.1.nowr
    have h1 := h.2.2.2.1
    have qv := h.1.orv b (by omega) (by omega)
    have qo := h.1.ors b (by omega) (by omega)
    rw [y_cdn, y_cd] at hk
    by_cases e : T.2.1 42 b % 8 = 1 ∧ T.2.1 42 b / 65536 = T.2.1 47 0
    · rw [if_pos e, if_pos e, ← Int.add_assoc] at hk
      have hcb := y_cob_rng (T := T) (o := b)
      have hnx := ih (b + 1) (x_co X c b) (y_co T c b) (d + y_cob T b) (by omega) (rel_co h hn (o := b) (by omega) (by omega) (by omega)).1 (by omega) hk
      have k26 := lc_ord1 (hh := hh) (F := F) (v := v) (w := w) (mm := mm) (d := d) (mi := mi) (b := b) h hn (by omega) e (by omega) (by
        refine g_iinc (q := 2933) (i := 47) (n := 1) dL_law_2930 rfl rfl (by constructor <;> omega) ?_
        refine g_goto (q := 0) (t := 2687) dL_law_2933 (by decide) ?_
        exact hnx)
      refine g_iload (q := 2689) dL_law_2687 rfl rfl ?_
      refine g_aload (q := 2691) dL_law_2689 rfl rfl ?_
      refine g_iconst (q := 2692) dL_law_2691 rfl ⟨by decide, by decide⟩ ?_
      refine g_ildv (q := 2693) (z := T.2.1 47 1) dL_law_2692 rfl ⟨by decide, rfl, rfl⟩ (by omega) (by omega) rfl ?_
      refine g_icmp_ge (t := 2936) (q := 2696) dL_law_2693 (by decide) rfl (fun h2693 => (False.elim (by omega))) (fun h2693 => ?_)
      refine g_aload (q := 2698) dL_law_2696 rfl rfl ?_
      refine g_iload (q := 2700) dL_law_2698 rfl rfl ?_
      refine g_ildv (q := 2701) (z := T.2.1 42 (b : Int)) dL_law_2700 rfl ⟨by decide, rfl, rfl⟩ (by omega) (by omega) rfl ?_
      refine g_fnS (as := [zI (T.2.1 42 (b : Int))]) (q := 2704) (u' := 500 * n + 10) dL_law_2701 rfl ck_L_96 rfl rfl (Nat.le_of_ble_eq_true rfl) ⟨Nat.le_of_ble_eq_true rfl, Nat.le_of_ble_eq_true rfl⟩ rfl (show 500 * n + 10 ≤ 100000 by omega) (s_L_state (by omega)) rfl ?_
      refine g_iconst (q := 2705) dL_law_2704 rfl ⟨by decide, by decide⟩ ?_
      refine g_icmp_ne (t := 2930) (q := 2708) dL_law_2705 (by decide) rfl (fun h2705 => (False.elim (by omega))) (fun h2705 => ?_)
      refine g_aload (q := 2710) dL_law_2708 rfl rfl ?_
      refine g_iload (q := 2712) dL_law_2710 rfl rfl ?_
      refine g_ildv (q := 2713) (z := T.2.1 42 (b : Int)) dL_law_2712 rfl ⟨by decide, rfl, rfl⟩ (by omega) (by omega) rfl ?_
      refine g_fnS (as := [zI (T.2.1 42 (b : Int))]) (q := 2716) (u' := 500 * n + 10) dL_law_2713 rfl ck_L_101 rfl rfl (Nat.le_of_ble_eq_true rfl) ⟨Nat.le_of_ble_eq_true rfl, Nat.le_of_ble_eq_true rfl⟩ rfl (show 500 * n + 10 ≤ 100000 by omega) (s_L_minute (by omega)) rfl ?_
      refine g_aload (q := 2718) dL_law_2716 rfl rfl ?_
      refine g_iconst (q := 2719) dL_law_2718 rfl ⟨by decide, by decide⟩ ?_
      refine g_ildv (q := 2720) (z := T.2.1 47 0) dL_law_2719 rfl ⟨by decide, rfl, rfl⟩ (by omega) (by omega) rfl ?_
      refine g_icmp_eq (t := 2726) (q := 2723) dL_law_2720 (by decide) rfl (fun h2720 => ?_) (fun h2720 => (False.elim (by omega)))
      exact k26
    · rw [if_neg e, if_neg e, Int.zero_add] at hk
      have hnx := ih (b + 1) X T d (by omega) h (by omega) hk
      by_cases e1 : T.2.1 42 b % 8 = 1
      · skip
        refine g_iload (q := 2689) dL_law_2687 rfl rfl ?_
        refine g_aload (q := 2691) dL_law_2689 rfl rfl ?_
        refine g_iconst (q := 2692) dL_law_2691 rfl ⟨by decide, by decide⟩ ?_
        refine g_ildv (q := 2693) (z := T.2.1 47 1) dL_law_2692 rfl ⟨by decide, rfl, rfl⟩ (by omega) (by omega) rfl ?_
        refine g_icmp_ge (t := 2936) (q := 2696) dL_law_2693 (by decide) rfl (fun h2693 => (False.elim (by omega))) (fun h2693 => ?_)
        refine g_aload (q := 2698) dL_law_2696 rfl rfl ?_
        refine g_iload (q := 2700) dL_law_2698 rfl rfl ?_
        refine g_ildv (q := 2701) (z := T.2.1 42 (b : Int)) dL_law_2700 rfl ⟨by decide, rfl, rfl⟩ (by omega) (by omega) rfl ?_
        refine g_fnS (as := [zI (T.2.1 42 (b : Int))]) (q := 2704) (u' := 500 * n + 10) dL_law_2701 rfl ck_L_96 rfl rfl (Nat.le_of_ble_eq_true rfl) ⟨Nat.le_of_ble_eq_true rfl, Nat.le_of_ble_eq_true rfl⟩ rfl (show 500 * n + 10 ≤ 100000 by omega) (s_L_state (by omega)) rfl ?_
        refine g_iconst (q := 2705) dL_law_2704 rfl ⟨by decide, by decide⟩ ?_
        refine g_icmp_ne (t := 2930) (q := 2708) dL_law_2705 (by decide) rfl (fun h2705 => (False.elim (by omega))) (fun h2705 => ?_)
        refine g_aload (q := 2710) dL_law_2708 rfl rfl ?_
        refine g_iload (q := 2712) dL_law_2710 rfl rfl ?_
        refine g_ildv (q := 2713) (z := T.2.1 42 (b : Int)) dL_law_2712 rfl ⟨by decide, rfl, rfl⟩ (by omega) (by omega) rfl ?_
        refine g_fnS (as := [zI (T.2.1 42 (b : Int))]) (q := 2716) (u' := 500 * n + 10) dL_law_2713 rfl ck_L_101 rfl rfl (Nat.le_of_ble_eq_true rfl) ⟨Nat.le_of_ble_eq_true rfl, Nat.le_of_ble_eq_true rfl⟩ rfl (show 500 * n + 10 ≤ 100000 by omega) (s_L_minute (by omega)) rfl ?_
        refine g_aload (q := 2718) dL_law_2716 rfl rfl ?_
        refine g_iconst (q := 2719) dL_law_2718 rfl ⟨by decide, by decide⟩ ?_
        refine g_ildv (q := 2720) (z := T.2.1 47 0) dL_law_2719 rfl ⟨by decide, rfl, rfl⟩ (by omega) (by omega) rfl ?_
        refine g_icmp_eq (t := 2726) (q := 2723) dL_law_2720 (by decide) rfl (fun h2720 => (False.elim (by omega))) (fun h2720 => ?_)
        refine g_goto (q := 0) (t := 2930) dL_law_2723 (by decide) ?_
        refine g_iinc (q := 2933) (i := 47) (n := 1) dL_law_2930 rfl rfl (by constructor <;> omega) ?_
        refine g_goto (q := 0) (t := 2687) dL_law_2933 (by decide) ?_
        exact hnx
      · skip
        refine g_iload (q := 2689) dL_law_2687 rfl rfl ?_
        refine g_aload (q := 2691) dL_law_2689 rfl rfl ?_
        refine g_iconst (q := 2692) dL_law_2691 rfl ⟨by decide, by decide⟩ ?_
        refine g_ildv (q := 2693) (z := T.2.1 47 1) dL_law_2692 rfl ⟨by decide, rfl, rfl⟩ (by omega) (by omega) rfl ?_
        refine g_icmp_ge (t := 2936) (q := 2696) dL_law_2693 (by decide) rfl (fun h2693 => (False.elim (by omega))) (fun h2693 => ?_)
        refine g_aload (q := 2698) dL_law_2696 rfl rfl ?_
        refine g_iload (q := 2700) dL_law_2698 rfl rfl ?_
        refine g_ildv (q := 2701) (z := T.2.1 42 (b : Int)) dL_law_2700 rfl ⟨by decide, rfl, rfl⟩ (by omega) (by omega) rfl ?_
        refine g_fnS (as := [zI (T.2.1 42 (b : Int))]) (q := 2704) (u' := 500 * n + 10) dL_law_2701 rfl ck_L_96 rfl rfl (Nat.le_of_ble_eq_true rfl) ⟨Nat.le_of_ble_eq_true rfl, Nat.le_of_ble_eq_true rfl⟩ rfl (show 500 * n + 10 ≤ 100000 by omega) (s_L_state (by omega)) rfl ?_
        refine g_iconst (q := 2705) dL_law_2704 rfl ⟨by decide, by decide⟩ ?_
        refine g_icmp_ne (t := 2930) (q := 2708) dL_law_2705 (by decide) rfl (fun h2705 => ?_) (fun h2705 => (False.elim (by omega)))
        refine g_iinc (q := 2933) (i := 47) (n := 1) dL_law_2930 rfl rfl (by constructor <;> omega) ?_
        refine g_goto (q := 0) (t := 2687) dL_law_2933 (by decide) ?_
        exact hnx
theorem lc_li {mm mi d : Int} (hn : n < 150) : ∀ (k i : Nat) (X T : zS), i + k = 6 → zW n c X T → z_G (mLw hh) F (500 * n + 10) 2969 [some (zR 49), some (zR 0), some (zR 7), some (zR 40), some (zR 41), some (zR 42), some (zR 43), some (zR 44), some (zR 48), some (zR 45), some (zR 46), some (zR 47), some (zI (n : Int)), some (zI v), some (zI w), none, none, none, some (zI 1), none, none, none, none, none, none, none, none, none, none, none, none, none, none, none, none, none, none, none, none, none, none, none, none, none, some (zI mm), some (zI d), some (zI mi), none, none, none] [] (y_li T i k) → z_G (mLw hh) F (500 * n + 10) 2939 [some (zR 49), some (zR 0), some (zR 7), some (zR 40), some (zR 41), some (zR 42), some (zR 43), some (zR 44), some (zR 48), some (zR 45), some (zR 46), some (zR 47), some (zI (n : Int)), some (zI v), some (zI w), none, none, none, some (zI 1), none, none, none, none, none, none, none, none, none, none, none, none, none, none, none, none, none, none, none, none, none, none, none, none, none, some (zI mm), some (zI d), some (zI mi), some (zI (i : Int)), none, none] [] T := by
  intro k
  induction k with
  | zero =>
    intro i X T hi h hk
    rw [y_li] at hk
    refine g_iload (q := 2941) dL_law_2939 rfl rfl ?_
    refine g_bipush (q := 2943) dL_law_2941 rfl ⟨by decide, by decide⟩ (by decide) ?_
    refine g_icmp_ge (t := 2969) (q := 2946) dL_law_2943 (by decide) rfl (fun h2943 => ?_) (fun h2943 => (False.elim (by omega)))
    exact g_forget (z_sub_r (z_sub_r (z_sub_r (z_sub_r (z_sub_r (z_sub_r (z_sub_r (z_sub_r (z_sub_r (z_sub_r (z_sub_r (z_sub_r (z_sub_r (z_sub_r (z_sub_r (z_sub_n (z_sub_n (z_sub_n (z_sub_r (z_sub_n (z_sub_n (z_sub_n (z_sub_n (z_sub_n (z_sub_n (z_sub_n (z_sub_n (z_sub_n (z_sub_n (z_sub_n (z_sub_n (z_sub_n (z_sub_n (z_sub_n (z_sub_n (z_sub_n (z_sub_n (z_sub_n (z_sub_n (z_sub_n (z_sub_n (z_sub_n (z_sub_n (z_sub_n (z_sub_r (z_sub_r (z_sub_r (z_sub_n (z_sub_n (z_sub_n z_sub_0)))))))))))))))))))))))))))))))))))))))))))))))))) hk
  | succ k ih =>
    intro i X T hi h hk
    rw [y_li] at hk
    have hnx := ih (i + 1) _ _ (by omega) (rel_li1 h hn (f := i) (by omega)).1 hk
    have hl := h.1.lrn i (by omega) (by omega)
    have hg := h.1.chg
    have hgr := h.1.chgr
    have h57 := h.2.2.2.2
    have hyl := h.1.yL' (h.ab hn) (f := i) (by omega) (by omega)
    have hls := s_L_learns (T := T) (f := i) (bi := 0) (b := false) (a := (T.2.1 45 i).toNat) (c := (X.1 2).toNat) (.inr ⟨rfl, rfl⟩) (by omega) (by omega) (by omega) hyl
    rw [← hg] at hls
    refine g_iload (q := 2941) dL_law_2939 rfl rfl ?_
    refine g_bipush (q := 2943) dL_law_2941 rfl ⟨by decide, by decide⟩ (by decide) ?_
    refine g_icmp_ge (t := 2969) (q := 2946) dL_law_2943 (by decide) rfl (fun h2943 => (False.elim (by omega))) (fun h2943 => ?_)
    refine g_iload (q := 2948) dL_law_2946 rfl rfl ?_
    refine g_iconst (q := 2949) dL_law_2948 rfl ⟨by decide, by decide⟩ ?_
    refine g_aload (q := 2951) dL_law_2949 rfl rfl ?_
    refine g_aload (q := 2953) dL_law_2951 rfl rfl ?_
    refine g_aload (q := 2955) dL_law_2953 rfl rfl ?_
    refine g_aload (q := 2957) dL_law_2955 rfl rfl ?_
    refine g_aload (q := 2959) dL_law_2957 rfl rfl ?_
    refine g_fnS (as := [zI (i : Int), zI 0, zR 44, zR 48, zR 45, zR 46, zR 47]) (q := 2962) (u' := 500 * n + 10) dL_law_2959 rfl ck_L_209 rfl rfl (Nat.le_of_ble_eq_true rfl) ⟨Nat.le_of_ble_eq_true rfl, Nat.le_of_ble_eq_true rfl⟩ rfl (show 500 * n + 10 ≤ 100000 by omega) (hls) rfl ?_
    refine g_pop (q := 2963) dL_law_2962 rfl trivial ?_
    refine g_iinc (q := 2966) (i := 47) (n := 1) dL_law_2963 rfl rfl (by constructor <;> omega) ?_
    refine g_goto (q := 0) (t := 2939) dL_law_2966 (by decide) ?_
    exact hnx
theorem lc_mins {mm : Nat} (hn : n < 150) (hm : mm ≤ 100) : ∀ (k mi : Nat) (X T : zS) (d : Int), mi + (k + 1) = mm → zW n c X T → X.1 0 + (k + 1 : Nat) ≤ 9999 → 0 ≤ d ∧ d + 60 * (k + 1) < 50000 → z_G (mLw hh) F (500 * n + 10) 2978 [some (zR 49), some (zR 0), some (zR 7), some (zR 40), some (zR 41), some (zR 42), some (zR 43), some (zR 44), some (zR 48), some (zR 45), some (zR 46), some (zR 47), some (zI (n : Int)), some (zI v), some (zI w), none, none, none, some (zI 1), none, none, none, none, none, none, none, none, none, none, none, none, none, none, none, none, none, none, none, none, none, none, none, none, none, some (zI (mm : Int)), some (zI (d + y_psn T c (k + 1))), some (zI ((mm : Int) - 1)), none, none, none] [] (y_ps T c (k + 1)) → z_G (mLw hh) F (500 * n + 10) 2660 [some (zR 49), some (zR 0), some (zR 7), some (zR 40), some (zR 41), some (zR 42), some (zR 43), some (zR 44), some (zR 48), some (zR 45), some (zR 46), some (zR 47), some (zI (n : Int)), some (zI v), some (zI w), none, none, none, some (zI 1), none, none, none, none, none, none, none, none, none, none, none, none, none, none, none, none, none, none, none, none, none, none, none, none, none, some (zI (mm : Int)), some (zI d), some (zI (mi : Int)), none, none, none] [] T := by
  intro k
  induction k with
  | zero =>
    intro mi X T d hmi h h0 hd hk
    have hnow := h.1.now
    have hnr := h.1.nowr
    have hg := h.1.chg
    have hgr := h.1.chgr
    have h57 := h.2.2.2.2
    have h1 := h.2.2.2.1
    have horr := h.1.ordr
    have r1 := rel_tk h (by omega)
    have r2 := rel_cd hn c 0 _ _ (by omega) r1
    have hcn := y_cdn_rng (c := c) c 0 (y_tk T)
    rw [y_psn, y_psn, y_ps, y_ps, Int.add_zero] at hk
    unfold y_min y_minn at hk
    rw [show (mm : Int) - 1 = (mi : Int) by omega] at hk
    have k69 : z_G (mLw hh) F (500 * n + 10) 2969 [some (zR 49), some (zR 0), some (zR 7), some (zR 40), some (zR 41), some (zR 42), some (zR 43), some (zR 44), some (zR 48), some (zR 45), some (zR 46), some (zR 47), some (zI (n : Int)), some (zI v), some (zI w), none, none, none, some (zI 1), none, none, none, none, none, none, none, none, none, none, none, none, none, none, none, none, none, none, none, none, none, none, none, none, none, some (zI (mm : Int)), some (zI (d + y_cdn (y_tk T) c 0 c)), some (zI (mi : Int)), none, none, none] [] (y_li (y_cd (y_tk T) c 0 c) 0 6) := by
      obtain ⟨Y, eY⟩ : ∃ Y, Y = y_li (y_cd (y_tk T) c 0 c) 0 6 := ⟨_, rfl⟩
      rw [← eY] at hk ⊢
      refine g_iload (q := 2971) dL_law_2969 rfl rfl ?_
      refine g_iload (q := 2973) dL_law_2971 rfl rfl ?_
      refine g_iconst (q := 2974) dL_law_2973 rfl ⟨by decide, by decide⟩ ?_
      refine g_isub (q := 2975) dL_law_2974 rfl (by constructor <;> omega) ?_
      refine g_icmp_ne (t := 2996) (q := 2978) dL_law_2975 (by decide) rfl (fun h2975 => (False.elim (by omega))) (fun h2975 => ?_)
      exact hk
    have k39 := lc_li hn 6 0 _ _ (by omega) r2.1 k69
    have k87 := lc_ord (hh := hh) (F := F) (v := v) (w := w) (mm := (mm : Int)) (mi := (mi : Int)) hn c 0 _ _ d (by omega) r1 (by omega) (by
      obtain ⟨Y, eY⟩ : ∃ Y, Y = y_cd (y_tk T) c 0 c := ⟨_, rfl⟩
      rw [← eY] at k39 ⊢
      refine g_iconst (q := 2937) dL_law_2936 rfl ⟨by decide, by decide⟩ ?_
      refine g_istore (q := 2939) dL_law_2937 rfl (Nat.le_of_ble_eq_true rfl) ?_
      exact k39)
    refine g_iload (q := 2662) dL_law_2660 rfl rfl ?_
    refine g_iload (q := 2664) dL_law_2662 rfl rfl ?_
    refine g_icmp_ge (t := 3002) (q := 2667) dL_law_2664 (by decide) rfl (fun h2664 => (False.elim (by omega))) (fun h2664 => ?_)
    refine g_aload (q := 2669) dL_law_2667 rfl rfl ?_
    refine g_iconst (q := 2670) dL_law_2669 rfl ⟨by decide, by decide⟩ ?_
    refine g_ildv (q := 2671) (z := T.2.1 47 2) dL_law_2670 rfl ⟨by decide, rfl, rfl⟩ (by omega) (by omega) rfl ?_
    refine g_bipush (q := 2673) dL_law_2671 rfl ⟨by decide, by decide⟩ (by decide) ?_
    refine g_icmp_ge (t := 3002) (q := 2676) dL_law_2673 (by decide) rfl (fun h2673 => (False.elim (by omega))) (fun h2673 => ?_)
    refine g_aload (q := 2678) dL_law_2676 rfl rfl ?_
    refine g_iconst (q := 2679) dL_law_2678 rfl ⟨by decide, by decide⟩ ?_
    refine g_dup2 (q := 2680) dL_law_2679 rfl trivial trivial ?_
    refine g_ildv (q := 2681) (z := T.2.1 47 0) dL_law_2680 rfl ⟨by decide, rfl, rfl⟩ (by omega) (by omega) rfl ?_
    refine g_iconst (q := 2682) dL_law_2681 rfl ⟨by decide, by decide⟩ ?_
    refine g_iadd (q := 2683) dL_law_2682 rfl (by constructor <;> omega) ?_
    refine g_iast (q := 2684) dL_law_2683 rfl ⟨by decide, rfl, rfl⟩ (by omega) (by omega) ?_
    refine g_iconst (q := 2685) dL_law_2684 rfl ⟨by decide, by decide⟩ ?_
    refine g_istore (q := 2687) dL_law_2685 rfl (Nat.le_of_ble_eq_true rfl) ?_
    exact k87
  | succ k ih =>
    intro mi X T d hmi h h0 hd hk
    have hnow := h.1.now
    have hnr := h.1.nowr
    have hg := h.1.chg
    have hgr := h.1.chgr
    have h57 := h.2.2.2.2
    have h1 := h.2.2.2.1
    have horr := h.1.ordr
    have r1 := rel_tk h (by omega)
    have r2 := rel_cd hn c 0 _ _ (by omega) r1
    have r3 := rel_min h hn (by omega)
    have hmn := x_min_now h.xP (by omega)
    have hcn := y_cdn_rng (c := c) c 0 (y_tk T)
    rw [y_psn, y_ps, ← Int.add_assoc] at hk
    have hnx := ih (mi + 1) _ _ (d + y_minn T c) (by omega) r3.1 (by omega) (by unfold y_minn; omega) hk
    unfold y_min y_minn at hnx
    have k69 : z_G (mLw hh) F (500 * n + 10) 2969 [some (zR 49), some (zR 0), some (zR 7), some (zR 40), some (zR 41), some (zR 42), some (zR 43), some (zR 44), some (zR 48), some (zR 45), some (zR 46), some (zR 47), some (zI (n : Int)), some (zI v), some (zI w), none, none, none, some (zI 1), none, none, none, none, none, none, none, none, none, none, none, none, none, none, none, none, none, none, none, none, none, none, none, none, none, some (zI (mm : Int)), some (zI (d + y_cdn (y_tk T) c 0 c)), some (zI (mi : Int)), none, none, none] [] (y_li (y_cd (y_tk T) c 0 c) 0 6) := by
      obtain ⟨Y, eY⟩ : ∃ Y, Y = y_li (y_cd (y_tk T) c 0 c) 0 6 := ⟨_, rfl⟩
      rw [← eY] at hnx ⊢
      refine g_iload (q := 2971) dL_law_2969 rfl rfl ?_
      refine g_iload (q := 2973) dL_law_2971 rfl rfl ?_
      refine g_iconst (q := 2974) dL_law_2973 rfl ⟨by decide, by decide⟩ ?_
      refine g_isub (q := 2975) dL_law_2974 rfl (by constructor <;> omega) ?_
      refine g_icmp_ne (t := 2996) (q := 2978) dL_law_2975 (by decide) rfl (fun h2975 => ?_) (fun h2975 => (False.elim (by omega)))
      refine g_iinc (q := 2999) (i := 46) (n := 1) dL_law_2996 rfl rfl (by constructor <;> omega) ?_
      refine g_goto (q := 0) (t := 2660) dL_law_2999 (by decide) ?_
      exact hnx
    have k39 := lc_li hn 6 0 _ _ (by omega) r2.1 k69
    have k87 := lc_ord (hh := hh) (F := F) (v := v) (w := w) (mm := (mm : Int)) (mi := (mi : Int)) hn c 0 _ _ d (by omega) r1 (by omega) (by
      obtain ⟨Y, eY⟩ : ∃ Y, Y = y_cd (y_tk T) c 0 c := ⟨_, rfl⟩
      rw [← eY] at k39 ⊢
      refine g_iconst (q := 2937) dL_law_2936 rfl ⟨by decide, by decide⟩ ?_
      refine g_istore (q := 2939) dL_law_2937 rfl (Nat.le_of_ble_eq_true rfl) ?_
      exact k39)
    refine g_iload (q := 2662) dL_law_2660 rfl rfl ?_
    refine g_iload (q := 2664) dL_law_2662 rfl rfl ?_
    refine g_icmp_ge (t := 3002) (q := 2667) dL_law_2664 (by decide) rfl (fun h2664 => (False.elim (by omega))) (fun h2664 => ?_)
    refine g_aload (q := 2669) dL_law_2667 rfl rfl ?_
    refine g_iconst (q := 2670) dL_law_2669 rfl ⟨by decide, by decide⟩ ?_
    refine g_ildv (q := 2671) (z := T.2.1 47 2) dL_law_2670 rfl ⟨by decide, rfl, rfl⟩ (by omega) (by omega) rfl ?_
    refine g_bipush (q := 2673) dL_law_2671 rfl ⟨by decide, by decide⟩ (by decide) ?_
    refine g_icmp_ge (t := 3002) (q := 2676) dL_law_2673 (by decide) rfl (fun h2673 => (False.elim (by omega))) (fun h2673 => ?_)
    refine g_aload (q := 2678) dL_law_2676 rfl rfl ?_
    refine g_iconst (q := 2679) dL_law_2678 rfl ⟨by decide, by decide⟩ ?_
    refine g_dup2 (q := 2680) dL_law_2679 rfl trivial trivial ?_
    refine g_ildv (q := 2681) (z := T.2.1 47 0) dL_law_2680 rfl ⟨by decide, rfl, rfl⟩ (by omega) (by omega) rfl ?_
    refine g_iconst (q := 2682) dL_law_2681 rfl ⟨by decide, by decide⟩ ?_
    refine g_iadd (q := 2683) dL_law_2682 rfl (by constructor <;> omega) ?_
    refine g_iast (q := 2684) dL_law_2683 rfl ⟨by decide, rfl, rfl⟩ (by omega) (by omega) ?_
    refine g_iconst (q := 2685) dL_law_2684 rfl ⟨by decide, by decide⟩ ?_
    refine g_istore (q := 2687) dL_law_2685 rfl (Nat.le_of_ble_eq_true rfl) ?_
    exact k87
theorem lc_pass {S : zS} {i f : Int} (hI : zInv n S) (hg : S.1 2 < 46) (hn : n < 150) (hK : ∀ U, zInv (n + 1) U → z_G (mLw hh) F (500 * n + 60) 3002 [some (zR 49), some (zR 0), some (zR 7), some (zR 40), some (zR 41), some (zR 42), some (zR 43), some (zR 44), some (zR 48), some (zR 45), some (zR 46), some (zR 47), some (zI (n : Int)), some (zI v), some (zI w), none, none, none, some (zI 1), none, none, none, none, none, none, none, none, none, none, none, none, none, none, none, none, none, none, none, none, none, none, none, none, none, none, none, none, none, none, none] [] U) : z_G (mLw hh) F (500 * n + 10) 2582 [some (zR 49), some (zR 0), some (zR 7), some (zR 40), some (zR 41), some (zR 42), some (zR 43), some (zR 44), some (zR 48), some (zR 45), some (zR 46), some (zR 47), some (zI (n : Int)), some (zI v), some (zI w), some (zI i), some (zI (zdg i)), some (zI f), some (zI 1), none, none, none, none, none, none, none, none, none, none, none, none, none, none, none, none, none, none, none, none, none, none, none, none, none, none, none, none, none, none, none] [] S := by
  have h := hI.zW hg
  have hnow := hI.1.now
  have hnr := hI.1.nowr
  have k36 : ∀ m : Int, (1 ≤ m ∧ m ≤ 100) → z_G (mLw hh) F (500 * n + 10) 2636 [some (zR 49), some (zR 0), some (zR 7), some (zR 40), some (zR 41), some (zR 42), some (zR 43), some (zR 44), some (zR 48), some (zR 45), some (zR 46), some (zR 47), some (zI (n : Int)), some (zI v), some (zI w), some (zI i), some (zI (zdg i)), some (zI f), some (zI 1), none, none, none, none, none, none, none, none, none, none, none, none, none, none, none, none, none, none, none, none, none, none, none, none, none, none, none, none, none, none, none] [zI m] S := by
    intro m hm
    by_cases c0 : S.2.1 47 0 + m ≤ 9999
    · obtain ⟨mm, rfl⟩ := zb_nat (x := m) (by omega)
      obtain ⟨k, rfl⟩ : ∃ k, mm = k + 1 := ⟨mm - 1, by omega⟩
      obtain ⟨U, eU⟩ : ∃ U, U = y_ps S (S.1 1).toNat (k + 1) := ⟨_, rfl⟩
      obtain ⟨V, q, hV⟩ := q_pass h hn (m := k + 1) (by omega) (by omega) eU
      have hl := lc_mins (hh := hh) (F := F) (v := v) (w := w) (mm := k + 1) hn (by omega) k 0 _ _ 0 (by omega) h (by omega) (by omega) (by
        rw [← eU, Int.zero_add]
        obtain ⟨z, ez⟩ : ∃ z, z = y_psn S (S.1 1).toNat (k + 1) := ⟨_, rfl⟩
        rw [← ez] at q ⊢
        refine g_aload_n (i := 1) (q := 2979) dL_law_2978 rfl rfl rfl ?_
        refine g_iload (q := 2981) dL_law_2979 rfl rfl ?_
        refine g_fnW (as := [zR 0, zI ((k + 1 : Nat) : Int)]) (q := 2984) (u' := 500 * n + 11) dL_law_2981 rfl ck_L_225 rfl rfl (Nat.le_of_ble_eq_true rfl) ⟨Nat.le_of_ble_eq_true rfl, Nat.le_of_ble_eq_true rfl⟩ rfl (show 500 * n + 11 ≤ 100000 by omega) (q) ?_
        refine g_iload (q := 2986) dL_law_2984 rfl rfl ?_
        refine g_icmp_ne (t := 2993) (q := 2989) dL_law_2986 (by decide) rfl (fun h2986 => (False.elim (by omega))) (fun h2986 => ?_)
        refine g_iconst (q := 2990) dL_law_2989 rfl ⟨by decide, by decide⟩ ?_
        refine g_goto (q := 0) (t := 2994) dL_law_2990 (by decide) ?_
        refine g_istore (q := 2996) dL_law_2994 rfl (Nat.le_of_ble_eq_true rfl) ?_
        refine g_iinc (q := 2999) (i := 46) (n := 1) dL_law_2996 rfl rfl (by constructor <;> omega) ?_
        refine g_goto (q := 0) (t := 2660) dL_law_2999 (by decide) ?_
        refine g_iload (q := 2662) dL_law_2660 rfl rfl ?_
        refine g_iload (q := 2664) dL_law_2662 rfl rfl ?_
        refine g_icmp_ge (t := 3002) (q := 2667) dL_law_2664 (by decide) rfl (fun h2664 => ?_) (fun h2664 => (False.elim (by omega)))
        exact g_forget (z_sub_r (z_sub_r (z_sub_r (z_sub_r (z_sub_r (z_sub_r (z_sub_r (z_sub_r (z_sub_r (z_sub_r (z_sub_r (z_sub_r (z_sub_r (z_sub_r (z_sub_r (z_sub_n (z_sub_n (z_sub_n (z_sub_r (z_sub_n (z_sub_n (z_sub_n (z_sub_n (z_sub_n (z_sub_n (z_sub_n (z_sub_n (z_sub_n (z_sub_n (z_sub_n (z_sub_n (z_sub_n (z_sub_n (z_sub_n (z_sub_n (z_sub_n (z_sub_n (z_sub_n (z_sub_n (z_sub_n (z_sub_n (z_sub_n (z_sub_n (z_sub_n (z_sub_n (z_sub_n (z_sub_n (z_sub_n (z_sub_n (z_sub_n z_sub_0)))))))))))))))))))))))))))))))))))))))))))))))))) (z_G.widen (by omega) (hK _ hV.same)))
      refine g_istore (q := 2638) dL_law_2636 rfl (Nat.le_of_ble_eq_true rfl) ?_
      refine g_aload (q := 2640) dL_law_2638 rfl rfl ?_
      refine g_iconst (q := 2641) dL_law_2640 rfl ⟨by decide, by decide⟩ ?_
      refine g_ildv (q := 2642) (z := S.2.1 47 0) dL_law_2641 rfl ⟨by decide, rfl, rfl⟩ (by omega) (by omega) rfl ?_
      refine g_iload (q := 2644) dL_law_2642 rfl rfl ?_
      refine g_iadd (q := 2645) dL_law_2644 rfl (by constructor <;> omega) ?_
      refine g_sipush (q := 2648) dL_law_2645 rfl ⟨by decide, by decide⟩ (by decide) ?_
      refine g_icmp_le (t := 2654) (q := 2651) dL_law_2648 (by decide) rfl (fun h2648 => ?_) (fun h2648 => (False.elim (by omega)))
      refine g_iconst (q := 2655) dL_law_2654 rfl ⟨by decide, by decide⟩ ?_
      refine g_istore (q := 2657) dL_law_2655 rfl (Nat.le_of_ble_eq_true rfl) ?_
      refine g_iconst (q := 2658) dL_law_2657 rfl ⟨by decide, by decide⟩ ?_
      refine g_istore (q := 2660) dL_law_2658 rfl (Nat.le_of_ble_eq_true rfl) ?_
      exact g_forget (z_sub_r (z_sub_r (z_sub_r (z_sub_r (z_sub_r (z_sub_r (z_sub_r (z_sub_r (z_sub_r (z_sub_r (z_sub_r (z_sub_r (z_sub_r (z_sub_r (z_sub_r (z_sub_n (z_sub_n (z_sub_n (z_sub_r (z_sub_n (z_sub_n (z_sub_n (z_sub_n (z_sub_n (z_sub_n (z_sub_n (z_sub_n (z_sub_n (z_sub_n (z_sub_n (z_sub_n (z_sub_n (z_sub_n (z_sub_n (z_sub_n (z_sub_n (z_sub_n (z_sub_n (z_sub_n (z_sub_n (z_sub_n (z_sub_n (z_sub_n (z_sub_n (z_sub_r (z_sub_r (z_sub_r (z_sub_n (z_sub_n (z_sub_n z_sub_0)))))))))))))))))))))))))))))))))))))))))))))))))) hl
    · skip
      refine g_istore (q := 2638) dL_law_2636 rfl (Nat.le_of_ble_eq_true rfl) ?_
      refine g_aload (q := 2640) dL_law_2638 rfl rfl ?_
      refine g_iconst (q := 2641) dL_law_2640 rfl ⟨by decide, by decide⟩ ?_
      refine g_ildv (q := 2642) (z := S.2.1 47 0) dL_law_2641 rfl ⟨by decide, rfl, rfl⟩ (by omega) (by omega) rfl ?_
      refine g_iload (q := 2644) dL_law_2642 rfl rfl ?_
      refine g_iadd (q := 2645) dL_law_2644 rfl (by constructor <;> omega) ?_
      refine g_sipush (q := 2648) dL_law_2645 rfl ⟨by decide, by decide⟩ (by decide) ?_
      refine g_icmp_le (t := 2654) (q := 2651) dL_law_2648 (by decide) rfl (fun h2648 => (False.elim (by omega))) (fun h2648 => ?_)
      refine g_goto (q := 0) (t := 3002) dL_law_2651 (by decide) ?_
      exact g_forget (z_sub_r (z_sub_r (z_sub_r (z_sub_r (z_sub_r (z_sub_r (z_sub_r (z_sub_r (z_sub_r (z_sub_r (z_sub_r (z_sub_r (z_sub_r (z_sub_r (z_sub_r (z_sub_n (z_sub_n (z_sub_n (z_sub_r (z_sub_n (z_sub_n (z_sub_n (z_sub_n (z_sub_n (z_sub_n (z_sub_n (z_sub_n (z_sub_n (z_sub_n (z_sub_n (z_sub_n (z_sub_n (z_sub_n (z_sub_n (z_sub_n (z_sub_n (z_sub_n (z_sub_n (z_sub_n (z_sub_n (z_sub_n (z_sub_n (z_sub_n (z_sub_n (z_sub_n (z_sub_n (z_sub_n (z_sub_n (z_sub_n (z_sub_n z_sub_0)))))))))))))))))))))))))))))))))))))))))))))))))) (z_G.widen (by omega) (hK _ hI.same))
  have hl1 := zlow_rng (v := zShr w 3) (n := 100) (by omega)
  have hl2 := zlow_rng (v := zShr w 3) (n := 5) (by omega)
  refine g_iload (q := 2584) dL_law_2582 rfl rfl ?_
  refine g_bipush (q := 2586) dL_law_2584 rfl ⟨by decide, by decide⟩ (by decide) ?_
  refine g_iandv (q := 2587) (z := zAnd w 6) dL_law_2586 rfl (rfl) ?_
  refine g_if_ne (t := 2604) (q := 2590) dL_law_2587 (by decide) rfl (fun h2587 => ?_) (fun h2587 => ?_)
  · refine g_iload (q := 2606) dL_law_2604 rfl rfl ?_
    refine g_bipush (q := 2608) dL_law_2606 rfl ⟨by decide, by decide⟩ (by decide) ?_
    refine g_iandv (q := 2609) (z := zAnd w 6) dL_law_2608 rfl (rfl) ?_
    refine g_iconst (q := 2610) dL_law_2609 rfl ⟨by decide, by decide⟩ ?_
    refine g_icmp_ne (t := 2626) (q := 2613) dL_law_2610 (by decide) rfl (fun h2610 => ?_) (fun h2610 => ?_)
    · refine g_bipush (q := 2628) dL_law_2626 rfl ⟨by decide, by decide⟩ (by decide) ?_
      refine g_aload (q := 2630) dL_law_2628 rfl rfl ?_
      refine g_iconst (q := 2631) dL_law_2630 rfl ⟨by decide, by decide⟩ ?_
      refine g_ildv (q := 2632) (z := S.2.1 47 0) dL_law_2631 rfl ⟨by decide, rfl, rfl⟩ (by omega) (by omega) rfl ?_
      refine g_bipush (q := 2634) dL_law_2632 rfl ⟨by decide, by decide⟩ (by decide) ?_
      refine g_irem (q := 2635) dL_law_2634 rfl (by omega) (by omega) ?_
      refine g_isub (q := 2636) dL_law_2635 rfl (by constructor <;> omega) ?_
      exact k36 _ (by omega)
    · refine g_iconst (q := 2614) dL_law_2613 rfl ⟨by decide, by decide⟩ ?_
      refine g_iload (q := 2616) dL_law_2614 rfl rfl ?_
      refine g_iconst (q := 2617) dL_law_2616 rfl ⟨by decide, by decide⟩ ?_
      refine g_ishrv (q := 2618) (z := zShr w 3) dL_law_2617 rfl (rfl) ?_
      refine g_iconst (q := 2619) dL_law_2618 rfl ⟨by decide, by decide⟩ ?_
      refine g_fnS (as := [zI (zShr w 3), zI 5]) (q := 2622) (u' := 500 * n + 10) dL_law_2619 rfl ck_L_125 rfl rfl (Nat.le_of_ble_eq_true rfl) ⟨Nat.le_of_ble_eq_true rfl, Nat.le_of_ble_eq_true rfl⟩ rfl (show 500 * n + 10 ≤ 100000 by omega) (s_L_low (by omega)) rfl ?_
      refine g_iadd (q := 2623) dL_law_2622 rfl (by constructor <;> omega) ?_
      refine g_goto (q := 0) (t := 2636) dL_law_2623 (by decide) ?_
      exact k36 _ (by omega)
  · refine g_iconst (q := 2591) dL_law_2590 rfl ⟨by decide, by decide⟩ ?_
    refine g_iload (q := 2593) dL_law_2591 rfl rfl ?_
    refine g_iconst (q := 2594) dL_law_2593 rfl ⟨by decide, by decide⟩ ?_
    refine g_ishrv (q := 2595) (z := zShr w 3) dL_law_2594 rfl (rfl) ?_
    refine g_bipush (q := 2597) dL_law_2595 rfl ⟨by decide, by decide⟩ (by decide) ?_
    refine g_fnS (as := [zI (zShr w 3), zI 100]) (q := 2600) (u' := 500 * n + 10) dL_law_2597 rfl ck_L_125 rfl rfl (Nat.le_of_ble_eq_true rfl) ⟨Nat.le_of_ble_eq_true rfl, Nat.le_of_ble_eq_true rfl⟩ rfl (show 500 * n + 10 ≤ 100000 by omega) (s_L_low (by omega)) rfl ?_
    refine g_iadd (q := 2601) dL_law_2600 rfl (by constructor <;> omega) ?_
    refine g_goto (q := 0) (t := 2636) dL_law_2601 (by decide) ?_
    exact k36 _ (by omega)
end
