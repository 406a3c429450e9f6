/-! ===== the law's cases: dial ===== -/
theorem x_ha_0 {S : zS} {x : Int} {m : Nat} (h1 : 1 ≤ m) (hm : S.1 4 = m) : (x_ha S x).2.1 39 0 = S.2.1 39 0 := by
  unfold x_ha
  rw [za_sS, za_ni (by omega)]
theorem x_ft_0 {n w h : Int} : ∀ (k m : Nat) (S : zS), 1 ≤ m → S.1 4 = m → (x_ft S n w h m k).1.2.1 39 0 = S.2.1 39 0
  | 0, m, S, _, _ => by rw [x_ft]
  | k + 1, m, S, h1, hm => by
    rw [x_ft]
    split
    · rfl
    · split
      · rfl
      · split
        · rfl
        · split
          · exact x_ha_0 h1 hm
          · rw [x_ft_0 k (m + 1) _ (by omega) (by show S.1 4 + 1 = _; omega)]
            exact x_ha_0 h1 hm
theorem x_tc_0 {S : zS} {f n w : Int} (_ : (x_tc S f n w).2 = 0) : (x_tc S f n w).1.2.1 39 0 = f := by
  have e39 : (x_hb S f).2.1 39 0 = f := by
    unfold x_hb
    rw [za_sS, za_eq]
  unfold x_tc
  split
  · exact e39
  · split
    · split
      · exact e39
      · exact (x_ha_0 (m := 1) (by omega) rfl).trans e39
    · exact (x_ft_0 6 1 _ (by omega) rfl).trans e39
/-- who gains and who pays at hop j, by one -/
def zw (H : Int → Int) (j f : Int) : Int := z1 (f = H j) 1 - z1 (f = H 0) 1
theorem zw_rng {H : Int → Int} {j f : Int} : -1 ≤ zw H j f ∧ zw H j f ≤ 1 := by
  unfold zw z1
  split <;> split <;> omega
def zsu (H : Int → Int) (f : Int) : Nat → Nat → Int
  | _, 0 => 0
  | a, k + 1 => zw H a f + zsu H f (a + 1) k
def zsd (H : Int → Int) (f : Int) : Nat → Int
  | 0 => 0
  | k + 1 => zw H ((k + 1 : Nat) : Int) f + zsd H f k
theorem zsu_app {H : Int → Int} {f : Int} : ∀ (k a : Nat), zsu H f a (k + 1) = zsu H f a k + zw H ((a + k : Nat) : Int) f
  | 0, a => by rw [zsu, zsu, zsu]; simp
  | k + 1, a => by
    rw [zsu, zsu_app k (a + 1), zsu, show a + 1 + k = a + (k + 1) by omega]
    omega
theorem zsu_d {H : Int → Int} {f : Int} : ∀ k : Nat, zsu H f 1 k = zsd H f k
  | 0 => rfl
  | k + 1 => by
    rw [zsu_app, zsu_d k, zsd, show 1 + k = k + 1 by omega]
    omega
theorem zsu_rng {H : Int → Int} {f : Int} : ∀ (k a : Nat), -(k : Int) ≤ zsu H f a k ∧ zsu H f a k ≤ k
  | 0, a => by rw [zsu]; omega
  | k + 1, a => by
    have h1 := zw_rng (H := H) (j := (a : Int)) (f := f)
    have h2 := zsu_rng (H := H) (f := f) k (a + 1)
    rw [zsu]
    omega
theorem z1_1 {p : Prop} [Decidable p] {m : Int} : z1 p m = z1 p 1 * m := by
  unfold z1
  split <;> omega
theorem x_pfl_acc {H : Int → Int} {b0 : Int} : ∀ (k i : Nat) (S : zS), (∀ f : Int, 0 ≤ f → f < 6 → -(b0 - k) ≤ S.2.1 12 f ∧ S.2.1 12 f ≤ b0 - k) → b0 ≤ 4000 → i + k ≤ 7 → S.2.1 39 0 = H 0 → (0 ≤ H 0 ∧ H 0 < 6) → (∀ j : Int, (i : Int) ≤ j → j < i + k → S.2.1 39 j = H j ∧ 0 ≤ H j ∧ H j < 6) → (x_pfl S i k).1 = S.1 ∧ (∀ q, q ≠ 12 → (x_pfl S i k).2.1 q = S.2.1 q) ∧ (x_pfl S i k).2.2 = S.2.2 ∧ ∀ f : Int, 0 ≤ f → f < 6 → (x_pfl S i k).2.1 12 f = S.2.1 12 f + zsu H f i k
  | 0, i, S, hb, h4, hi, h0, h00, hj => by
    rw [x_pfl]
    exact ⟨rfl, fun _ _ => rfl, rfl, fun f _ _ => by rw [zsu]; omega⟩
  | k + 1, i, S, hb, h4, hi, h0, h00, hj => by
    have hji := hj i (by omega) (by omega)
    have hab : zAb S := fun f a b => by have := hb f a b; omega
    have hpa : ∀ f : Int, 0 ≤ f → f < 6 → (x_pay S (H 0) (H i) 1).2.1 12 f = S.2.1 12 f + zw H i f := fun f a b => by
      rw [x_pay_acc hab h00 hji.2 (by omega)]
      unfold zw
      omega
    rw [x_pfl, h0, hji.1]
    obtain ⟨g1, g2, g3, g4⟩ := x_pfl_acc (H := H) (b0 := b0) k (i + 1) (x_pay S (H 0) (H i) 1) (fun f a b => by
      have q1 := hb f a b
      have q2 := zw_rng (H := H) (j := (i : Int)) (f := f)
      rw [hpa f a b]
      omega) h4 (by omega) (by rw [x_pay_39]; exact h0) h00 (fun j a b => by
      rw [x_pay_39]
      exact hj j (by omega) (by omega))
    refine ⟨g1, fun q hq => (g2 q hq).trans (x_pay_ne.2.1 q hq), g3, fun f a b => ?_⟩
    rw [g4 f a b, hpa f a b, zsu]
    omega
section
variable {hh : List (Nat × Nat × Nat × Nat)} {F : zF} {n : Nat} {S : zS} {v w i f : Int}
/-- the law pays, from the last hop but one down -/
theorem lc_dial_loop {H : Int → Int} {f0 p3 row ot wy : Int} {m : Nat} {lo : Int} (hn : n < 150) (hm : m ≤ 7) (hi : 0 ≤ i ∧ i < 12) (hH : ∀ j : Int, 0 ≤ j → j < m → 0 ≤ H j ∧ H j < 6) (h0 : H 0 = f0) : ∀ (k : Nat) (T : zS), k + 1 ≤ m → (∀ f : Int, 0 ≤ f → f < 6 → 100000 + 4096 * k ≤ T.2.1 46 f ∧ T.2.1 46 f ≤ 20000000 - 4096 * k) → T.2.1 40 i = f0 →
    (∀ U : zS, U.1 = T.1 → (∀ q, q ≠ 46 → U.2.1 q = T.2.1 q) → U.2.2 = T.2.2 → (∀ f : Int, 0 ≤ f → f < 6 → U.2.1 46 f = T.2.1 46 f + 1024 * zsd H f k) → z_G (mLw hh) F (500 * n + 20) 2579 [some (zR 49), some (zR 0), some (zR 7), some (zR 40), some (zR 41), some (zR 42), some (zR 43), some (zR 44), some (zR 48), some (zR 45), some (zR 46), some (zR 47), some (zI (n : Int)), some (zI v), some (zI w), some (zI i), some (zI (zdg i)), some (zI f), some (zI 1), none, none, none, none, none, none, none, none, none, none, none, none, none, none, none, none, none, none, none, none, none, none, none, none, none, none, none, none, none, none, none] [] U) →
    z_G (mLw hh) F (500 * n + 20) 2523 [some (zR 49), some (zR 0), some (zR 7), some (zR 40), some (zR 41), some (zR 42), some (zR 43), some (zR 44), some (zR 48), some (zR 45), some (zR 46), some (zR 47), some (zI (n : Int)), some (zI v), some (zI w), some (zI i), some (zI (zdg i)), some (zI f), some (zI 1), none, none, none, none, none, none, none, none, none, none, none, none, none, none, none, none, none, none, none, none, none, none, some (zL row), none, some (zI 1), some (zL (zenc H (k + 1))), none, none, none, none, none] [] T := by
  intro k
  induction k with
  | zero =>
    intro T hk hb h40 hK
    have h1 := hH 0 (by omega) (by omega)
    have hkk := hK T rfl (fun _ _ => rfl) rfl (fun f a b => by rw [zsd]; omega)
    have ez : zenc H (0 + 1) = H 0 + 1 := by
      rw [zenc, zenc]
      show 0 * 16 + (H 0 + 1) = H 0 + 1
      omega
    rw [ez]
    clear hK
    refine g_lload (q := 2525) dL_law_2523 rfl rfl ?_
    refine g_ldc2 (z := 15) (q := 2528) dL_law_2525 rfl lk_172 (by constructor <;> decide) ?_
    refine g_lcmpv (q := 2529) (z := -1) dL_law_2528 rfl (by omega) ?_
    refine g_if_le (t := 2579) (q := 2532) dL_law_2529 (by decide) rfl (fun h2529 => ?_) (fun h2529 => (False.elim (by omega)))
    exact g_forget (z_sub_r (z_sub_r (z_sub_r (z_sub_r (z_sub_r (z_sub_r (z_sub_r (z_sub_r (z_sub_r (z_sub_r (z_sub_r (z_sub_r (z_sub_r (z_sub_r (z_sub_r (z_sub_r (z_sub_r (z_sub_r (z_sub_r (z_sub_n (z_sub_n (z_sub_n (z_sub_n (z_sub_n (z_sub_n (z_sub_n (z_sub_n (z_sub_n (z_sub_n (z_sub_n (z_sub_n (z_sub_n (z_sub_n (z_sub_n (z_sub_n (z_sub_n (z_sub_n (z_sub_n (z_sub_n (z_sub_n (z_sub_n (z_sub_n (z_sub_n (z_sub_n (z_sub_n (z_sub_n (z_sub_n (z_sub_n (z_sub_n (z_sub_n z_sub_0)))))))))))))))))))))))))))))))))))))))))))))))))) hkk
  | succ k ih =>
    intro T hk hb h40 hK
    have h1 := hH ((k + 1 : Nat) : Int) (by omega) (by omega)
    have h00 := hH 0 (by omega) (by omega)
    have hz := zenc_7 (h := H) (m := k + 1) (by omega) (fun j x y => hH j x (by omega))
    have hz0 := zenc_7 (h := H) (m := k) (by omega) (fun j x y => hH j x (by omega))
    have hzk := hH (k : Int) (by omega) (by omega)
    have ezk : zenc H (k + 1) = zenc H k * 16 + (H (k : Int) + 1) := by rw [zenc]
    obtain ⟨hp, ehp⟩ : ∃ z, z = H ((k + 1 : Nat) : Int) := ⟨_, rfl⟩
    have b1 := hb hp (by omega) (by omega)
    have b0 := hb f0 (by omega) (by omega)
    have hT1 : ∀ g : Int, (z_sA (z_sA T 46 hp (T.2.1 46 hp + 1024)) 46 f0 ((z_sA T 46 hp (T.2.1 46 hp + 1024)).2.1 46 f0 - 1024)).2.1 46 g = T.2.1 46 g + 1024 * zw H ((k + 1 : Nat) : Int) g := by
      intro g
      unfold zw z1
      rw [← ehp, h0]
      by_cases c1 : g = f0
      · rw [c1, za_eq, if_pos rfl]
        by_cases c2 : f0 = hp
        · rw [c2, za_eq, if_pos rfl]
          omega
        · rw [za_ni c2, if_neg c2]
          omega
      · rw [za_ni c1, if_neg c1]
        by_cases c2 : g = hp
        · rw [c2, za_eq, if_pos rfl]
          omega
        · rw [za_ni c2, if_neg c2]
          omega
    have hnx := ih (z_sA (z_sA T 46 hp (T.2.1 46 hp + 1024)) 46 f0 ((z_sA T 46 hp (T.2.1 46 hp + 1024)).2.1 46 f0 - 1024)) (by omega) (fun g a b => by
      have q := hb g a b
      have q2 := zw_rng (H := H) (j := ((k + 1 : Nat) : Int)) (f := g)
      rw [hT1 g]
      omega) h40 (fun U u1 u2 u3 u4 => hK U u1 (fun q hq => (u2 q hq).trans (funext fun j => by rw [za_ne hq, za_ne hq])) u3 (fun g a b => by
      rw [u4 g a b, hT1 g, zsd]
      omega))
    have hzs : (z_sA T 46 hp (T.2.1 46 hp + 1024)).2.1 46 f0 = if f0 = hp then T.2.1 46 hp + 1024 else T.2.1 46 f0 := by
      rw [za_sA]
      simp
    obtain ⟨zz, ezz⟩ : ∃ z, z = (z_sA T 46 hp (T.2.1 46 hp + 1024)).2.1 46 f0 := ⟨_, rfl⟩
    have hzr : 90000 ≤ zz ∧ zz ≤ 21000000 := by
      rw [ezz, hzs]
      split <;> omega
    rw [← ezz] at hnx
    have ez : zenc H (k + 1 + 1) = zenc H (k + 1) * 16 + (hp + 1) := by rw [zenc, ehp]
    rw [ez]
    clear hK hb
    refine g_lload (q := 2525) dL_law_2523 rfl rfl ?_
    refine g_ldc2 (z := 15) (q := 2528) dL_law_2525 rfl lk_172 (by constructor <;> decide) ?_
    refine g_lcmpv (q := 2529) (z := 1) dL_law_2528 rfl (by omega) ?_
    refine g_if_le (t := 2579) (q := 2532) dL_law_2529 (by decide) rfl (fun h2529 => (False.elim (by omega))) (fun h2529 => ?_)
    refine g_aload (q := 2534) dL_law_2532 rfl rfl ?_
    refine g_lload (q := 2536) dL_law_2534 rfl rfl ?_
    refine g_ldc2 (z := 15) (q := 2539) dL_law_2536 rfl lk_172 (by constructor <;> decide) ?_
    refine g_landv (q := 2540) (z := hp + 1) dL_law_2539 rfl ((zLand_m (p := 16) 4 (by decide) (by decide) (by omega) (by omega)).trans (by omega)) ?_
    refine g_l2iv (q := 2541) (z := hp + 1) dL_law_2540 rfl rfl (by constructor <;> omega) ?_
    refine g_iconst (q := 2542) dL_law_2541 rfl ⟨by decide, by decide⟩ ?_
    refine g_isub (q := 2543) dL_law_2542 rfl (by constructor <;> omega) ?_
    refine g_top (z := hp) (by omega) ?_
    refine g_dup2 (q := 2544) dL_law_2543 rfl trivial trivial ?_
    refine g_ildv (q := 2545) (z := T.2.1 46 hp) dL_law_2544 rfl ⟨by decide, rfl, rfl⟩ (by omega) (by omega) rfl ?_
    refine g_iload (q := 2547) dL_law_2545 rfl rfl ?_
    refine g_bipush (q := 2549) dL_law_2547 rfl ⟨by decide, by decide⟩ (by decide) ?_
    refine g_ishlv (q := 2550) (z := 1024) dL_law_2549 rfl ((by decide)) ?_
    refine g_iadd (q := 2551) dL_law_2550 rfl (by constructor <;> omega) ?_
    refine g_iast (q := 2552) dL_law_2551 rfl ⟨by decide, rfl, rfl⟩ (by omega) (by omega) ?_
    refine g_aload (q := 2554) dL_law_2552 rfl rfl ?_
    refine g_aload_n (i := 3) (q := 2555) dL_law_2554 rfl rfl rfl ?_
    refine g_iload (q := 2557) dL_law_2555 rfl rfl ?_
    refine g_ildv (q := 2558) (z := f0) dL_law_2557 rfl ⟨by decide, rfl, rfl⟩ (by omega) (by omega) h40 ?_
    refine g_dup2 (q := 2559) dL_law_2558 rfl trivial trivial ?_
    refine g_ildv (q := 2560) (z := zz) dL_law_2559 rfl ⟨by decide, rfl, rfl⟩ (by omega) (by omega) ezz.symm ?_
    refine g_iload (q := 2562) dL_law_2560 rfl rfl ?_
    refine g_bipush (q := 2564) dL_law_2562 rfl ⟨by decide, by decide⟩ (by decide) ?_
    refine g_ishlv (q := 2565) (z := 1024) dL_law_2564 rfl ((by decide)) ?_
    refine g_isub (q := 2566) dL_law_2565 rfl (by constructor <;> omega) ?_
    refine g_iast (q := 2567) dL_law_2566 rfl ⟨by decide, rfl, rfl⟩ (by omega) (by omega) ?_
    refine g_iconst (q := 2568) dL_law_2567 rfl ⟨by decide, by decide⟩ ?_
    refine g_istore (q := 2570) dL_law_2568 rfl (Nat.le_of_ble_eq_true rfl) ?_
    refine g_lload (q := 2572) dL_law_2570 rfl rfl ?_
    refine g_iconst (q := 2573) dL_law_2572 rfl ⟨by decide, by decide⟩ ?_
    refine g_lshrv (q := 2574) (z := zenc H (k + 1)) dL_law_2573 rfl ((zLshr_p (p := 16) 4 (by decide) (by decide) (by constructor <;> omega)).trans (by omega)) ?_
    refine g_lstore (q := 2576) dL_law_2574 rfl (Nat.le_of_ble_eq_true rfl) (show 44 ∈ [41, 44] by decide) ?_
    refine g_goto (q := 0) (t := 2523) dL_law_2576 (by decide) ?_
    exact hnx
theorem lc_dial (hI : zInv n S) (hn : n < 150) (hi : 0 ≤ i ∧ i < 12) (hK : ∀ U, zInv (n + 1) U → z_G (mLw hh) F (500 * n + 60) 3002 [some (zR 49), some (zR 0), some (zR 7), some (zR 40), some (zR 41), some (zR 42), some (zR 43), some (zR 44), some (zR 48), some (zR 45), some (zR 46), some (zR 47), some (zI (n : Int)), some (zI v), some (zI w), none, none, none, some (zI 1), none, none, none, none, none, none, none, none, none, none, none, none, none, none, none, none, none, none, none, none, none, none, none, none, none, none, none, none, none, none, none] [] U) : z_G (mLw hh) F (500 * n + 10) 2395 [some (zR 49), some (zR 0), some (zR 7), some (zR 40), some (zR 41), some (zR 42), some (zR 43), some (zR 44), some (zR 48), some (zR 45), some (zR 46), some (zR 47), some (zI (n : Int)), some (zI v), some (zI w), some (zI i), some (zI (zdg i)), some (zI f), some (zI 1), none, none, none, none, none, none, none, none, none, none, none, none, none, none, none, none, none, none, none, none, none, none, none, none, none, none, none, none, none, none, none] [] S := by
  have h := hI.1
  have hb := hI.ab (by omega)
  have hd := zdg_rng hi
  have hs := h.serv i hi.1 hi.2
  have hlo := zlow_rng (v := w) (n := 12) (by omega)
  have hlw := zlow_rng (v := zShr w 4) (n := 3) (by omega)
  obtain ⟨ot, eot⟩ : ∃ z, z = zlow w 12 := ⟨_, rfl⟩
  obtain ⟨wy, ewy⟩ : ∃ z, z = zlow (zShr w 4) 3 := ⟨_, rfl⟩
  rw [← eot] at hlo
  rw [← ewy] at hlw
  have hod := zdg_rng hlo
  have hNn : ∀ n : Int, 0 ≤ n → n < 200 → -1 ≤ S.2.1 13 n ∧ S.2.1 13 n < 6 := by
    intro a x y
    by_cases c : ∃ j : Int, (0 ≤ j ∧ j < 12) ∧ a = zdg j
    · obtain ⟨j, ⟨c1, c2⟩, rfl⟩ := c
      exact (h.serv j c1 c2).2
    · have := (h.oth a x y (fun j p q e => c ⟨j, ⟨p, q⟩, e⟩)).1
      omega
  have k14 : z_G (mLw hh) F (500 * n + 10) 2414 [some (zR 49), some (zR 0), some (zR 7), some (zR 40), some (zR 41), some (zR 42), some (zR 43), some (zR 44), some (zR 48), some (zR 45), some (zR 46), some (zR 47), some (zI (n : Int)), some (zI v), some (zI w), some (zI i), some (zI (zdg i)), some (zI f), some (zI 1), none, none, none, none, none, none, none, none, none, none, none, none, none, none, none, none, none, none, none, none, some (zI ot), some (zI wy), none, none, none, none, none, none, none, none, none] [] S := by
    by_cases c0 : S.2.1 40 i = -1
    · have q : z_FnW mL_dial [zR 0, zI (zdg i), zI (zdg ot), zI wy] S (zI (-7300)) S := by
        have e : o_dial S (zdg i) (zdg ot) wy = (.error xS, S) := by
          unfold o_dial
          exact (if_neg (by omega)).trans ((if_neg (by omega)).trans (if_pos (by omega)))
        exact w_er (w_dial (c_dial h.xR2' hNn) (z_she e (by decide +kernel))) e (by decide +kernel)
      refine g_aload_n (i := 3) (q := 2415) dL_law_2414 rfl rfl rfl ?_
      refine g_iload (q := 2417) dL_law_2415 rfl rfl ?_
      refine g_ildv (q := 2418) (z := S.2.1 40 i) dL_law_2417 rfl ⟨by decide, rfl, rfl⟩ (by omega) (by omega) rfl ?_
      refine g_iconst (q := 2419) dL_law_2418 rfl ⟨by decide, by decide⟩ ?_
      refine g_icmp_ne (t := 2451) (q := 2422) dL_law_2419 (by decide) rfl (fun h2419 => (False.elim (by omega))) (fun h2419 => ?_)
      refine g_aload_n (i := 1) (q := 2423) dL_law_2422 rfl rfl rfl ?_
      refine g_iload (q := 2425) dL_law_2423 rfl rfl ?_
      refine g_iload (q := 2427) dL_law_2425 rfl rfl ?_
      refine g_fnS (as := [zI ot]) (q := 2430) (u' := 500 * n + 10) dL_law_2427 rfl ck_L_128 rfl rfl (Nat.le_of_ble_eq_true rfl) ⟨Nat.le_of_ble_eq_true rfl, Nat.le_of_ble_eq_true rfl⟩ rfl (show 500 * n + 10 ≤ 100000 by omega) (s_L_digits (by omega)) rfl ?_
      refine g_iload (q := 2432) dL_law_2430 rfl rfl ?_
      refine g_fnW (as := [zR 0, zI (zdg i), zI (zdg ot), zI wy]) (q := 2435) (u' := 500 * n + 14) dL_law_2432 rfl ck_L_221 rfl rfl (Nat.le_of_ble_eq_true rfl) ⟨Nat.le_of_ble_eq_true rfl, Nat.le_of_ble_eq_true rfl⟩ rfl (show 500 * n + 14 ≤ 100000 by omega) (q) ?_
      refine g_sipush (q := 2438) dL_law_2435 rfl ⟨by decide, by decide⟩ (by decide) ?_
      refine g_icmp_ne (t := 2445) (q := 2441) dL_law_2438 (by decide) rfl (fun h2438 => (False.elim (by omega))) (fun h2438 => ?_)
      refine g_iconst (q := 2442) dL_law_2441 rfl ⟨by decide, by decide⟩ ?_
      refine g_goto (q := 0) (t := 2446) dL_law_2442 (by decide) ?_
      refine g_istore (q := 2448) dL_law_2446 rfl (Nat.le_of_ble_eq_true rfl) ?_
      refine g_goto (q := 0) (t := 3002) dL_law_2448 (by decide) ?_
      exact g_forget (z_sub_r (z_sub_r (z_sub_r (z_sub_r (z_sub_r (z_sub_r (z_sub_r (z_sub_r (z_sub_r (z_sub_r (z_sub_r (z_sub_r (z_sub_r (z_sub_r (z_sub_r (z_sub_n (z_sub_n (z_sub_n (z_sub_r (z_sub_n (z_sub_n (z_sub_n (z_sub_n (z_sub_n (z_sub_n (z_sub_n (z_sub_n (z_sub_n (z_sub_n (z_sub_n (z_sub_n (z_sub_n (z_sub_n (z_sub_n (z_sub_n (z_sub_n (z_sub_n (z_sub_n (z_sub_n (z_sub_n (z_sub_n (z_sub_n (z_sub_n (z_sub_n (z_sub_n (z_sub_n (z_sub_n (z_sub_n (z_sub_n (z_sub_n z_sub_0)))))))))))))))))))))))))))))))))))))))))))))))))) (z_G.widen (by omega) (hK _ hI.same))
    · have hf0 : 0 ≤ S.2.1 13 (zdg i) ∧ S.2.1 13 (zdg i) < 6 := by omega
      have hgo := s_L_goes (w := wy) h hb hf0 hlo (by omega)
      have hfr := x_tc_fr (w := wy) hf0 ⟨hod.1, hod.2.1⟩ h.xR2'
      have he := x_tc_e (S := S) (f := S.2.1 13 (zdg i)) (n := zdg ot) (w := wy)
      have q : z_FnW mL_dial [zR 0, zI (zdg i), zI (zdg ot), zI wy] S (zI (x_tc S (S.2.1 13 (zdg i)) (zdg ot) wy).2) (if (x_tc S (S.2.1 13 (zdg i)) (zdg ot) wy).2 = 0 then x_pf (x_tc S (S.2.1 13 (zdg i)) (zdg ot) wy).1 else (x_tc S (S.2.1 13 (zdg i)) (zdg ot) wy).1) := by
        have e : o_dial S (zdg i) (zdg ot) wy = (zI? (x_tc S (S.2.1 13 (zdg i)) (zdg ot) wy).2, (if (x_tc S (S.2.1 13 (zdg i)) (zdg ot) wy).2 = 0 then x_pf (x_tc S (S.2.1 13 (zdg i)) (zdg ot) wy).1 else (x_tc S (S.2.1 13 (zdg i)) (zdg ot) wy).1)) := by
          unfold o_dial
          exact (if_neg (by omega)).trans ((if_neg (by omega)).trans (if_neg (by omega)))
        exact w_ok (w_dial (c_dial h.xR2' hNn) (z_shk e)) e
      obtain ⟨m, em⟩ := zb_nat (x := (x_tc S (S.2.1 13 (zdg i)) (zdg ot) wy).1.1 4) (by omega)
      have h390 : (x_tc S (S.2.1 13 (zdg i)) (zdg ot) wy).2 = 0 → (x_tc S (S.2.1 13 (zdg i)) (zdg ot) wy).1.2.1 39 0 = S.2.1 13 (zdg i) := x_tc_0
      obtain ⟨P, eP⟩ : ∃ P, P = x_tc S (S.2.1 13 (zdg i)) (zdg ot) wy := ⟨_, rfl⟩
      rw [← eP] at hgo hfr he q em h390
      have hgt : zRt S P.1 := ⟨hfr.1, fun k hk => funext fun j => hfr.2.1 k j hk, hfr.2.2.1⟩
      have hH : ∀ j : Int, 0 ≤ j → j < m → 0 ≤ P.1.2.1 39 j ∧ P.1.2.1 39 j < 6 := fun j x y => hfr.2.2.2.2 j x (by omega)
      have hzE := zenc_7 (h := P.1.2.1 39) (m := m) (by omega) hH
      have ez : zrow P = zenc (P.1.2.1 39) m * 8 + P.2 := by
        unfold zrow
        rw [em, Int.toNat_natCast]
      rw [ez] at hgo
      obtain ⟨e, ee⟩ : ∃ z, z = P.2 := ⟨_, rfl⟩
      rw [← ee] at hgo he q h390
      rw [← hs.1] at hgo h390 hf0
      have hRU := h.rt hgt
      by_cases ce : e = 0
      · have h0 := h390 ce
        rw [if_pos ce] at q
        -- who pays: the class
        have hacc := hI.2.1
        have hg60 := hI.2.2.2
        have hcr := h.chgr
        have p12 : P.1.2.1 12 = S.2.1 12 := hgt.2.1 12 (by omega)
        have p2 : P.1.1 2 = S.1 2 := hgt.1 2 (by omega)
        have p3 : P.1.1 3 = S.1 3 := hgt.1 3 (by omega)
        have hpf : (x_pf P.1).1 = P.1.1 ∧ (∀ q, q ≠ 12 → (x_pf P.1).2.1 q = P.1.2.1 q) ∧ (x_pf P.1).2.2 = P.1.2.2 ∧ ∀ g : Int, 0 ≤ g → g < 6 → (x_pf P.1).2.1 12 g = S.2.1 12 g + (if m = 1 then 0 else 3 * zw (P.1.2.1 39) ((m : Int) - 1) g + zsd (P.1.2.1 39) g (m - 2)) := by
          unfold x_pf
          by_cases c1 : m = 1
          · rw [if_pos (by omega)]
            exact ⟨rfl, fun _ _ => rfl, rfl, fun g _ _ => by rw [if_pos c1, p12]; omega⟩
          · have hm0 := hH 0 (by omega) (by omega)
            have hml := hH ((m : Int) - 1) (by omega) (by omega)
            have hab : zAb P.1 := fun g a b => by rw [p12]; exact hb g a b
            rw [if_neg (by omega), em, show ((m : Int) - 2).toNat = m - 2 by omega]
            have hx : ∀ g : Int, (x_pay P.1 (P.1.2.1 39 0) (P.1.2.1 39 ((m : Int) - 1)) 3).2.1 12 g = S.2.1 12 g + 3 * zw (P.1.2.1 39) ((m : Int) - 1) g := fun g => by
              rw [x_pay_acc hab hm0 hml (by omega), p12, z1_1 (m := 3), z1_1 (p := g = P.1.2.1 39 ((m : Int) - 1)) (m := 3)]
              unfold zw
              omega
            obtain ⟨g1, g2, g3, g4⟩ := x_pfl_acc (H := P.1.2.1 39) (b0 := 4000) (m - 2) 1 (x_pay P.1 (P.1.2.1 39 0) (P.1.2.1 39 ((m : Int) - 1)) 3) (fun g a b => by
              have q1 := hacc g a b
              have q2 := zw_rng (H := P.1.2.1 39) (j := (m : Int) - 1) (f := g)
              rw [hx g]
              omega) (by omega) (by omega) x_pay_39 hm0 (fun j a b => ⟨x_pay_39, hH j (by omega) (by omega)⟩)
            refine ⟨g1, fun q hq => (g2 q hq).trans (x_pay_ne.2.1 q hq), g3, fun g a b => ?_⟩
            rw [g4 g a b, hx g, zsu_d, if_neg c1]
            omega
        obtain ⟨X, eX⟩ : ∃ X, X = x_pf P.1 := ⟨_, rfl⟩
        rw [← eX] at q hpf
        obtain ⟨x1, x2, x3, x4⟩ := hpf
        have hXl : zlw X S := ⟨fun k hk => (x2 k (by omega)).trans (hgt.2.1 k (by omega)), x3.trans hgt.2.2⟩
        have x46 : ∀ j, X.2.1 46 j = S.2.1 46 j := fun j => congrFun (hXl.1 46 (by omega)) j
        have x40 : ∀ j, X.2.1 40 j = S.2.1 40 j := fun j => congrFun (hXl.1 40 (by omega)) j
        have hwb : ∀ g : Int, 0 ≤ g → g < 6 → 2000000 ≤ S.2.1 46 g ∧ S.2.1 46 g ≤ 6000000 := fun g a b => by
          have q1 := hacc g a b
          have q2 := h.firm g a b
          have q3 := h.flag g a b
          omega
        have hfin : ∀ U : zS, U.1 = X.1 → (∀ q, q ≠ 46 → U.2.1 q = X.2.1 q) → U.2.2 = X.2.2 → (∀ g : Int, 0 ≤ g → g < 6 → U.2.1 46 g = X.2.1 46 g + 1024 * (if m = 1 then 0 else 3 * zw (P.1.2.1 39) ((m : Int) - 1) g + zsd (P.1.2.1 39) g (m - 2))) → z_G (mLw hh) F (500 * n + 20) 2579 [some (zR 49), some (zR 0), some (zR 7), some (zR 40), some (zR 41), some (zR 42), some (zR 43), some (zR 44), some (zR 48), some (zR 45), some (zR 46), some (zR 47), some (zI (n : Int)), some (zI v), some (zI w), some (zI i), some (zI (zdg i)), some (zI f), some (zI 1), none, none, none, none, none, none, none, none, none, none, none, none, none, none, none, none, none, none, none, none, none, none, none, none, none, none, none, none, none, none, none] [] U := by
          intro U u1 u2 u3 u4
          have hR : Rel U U := h.money (fun k hk => by rw [u1, x1]; exact hgt.1 k hk) (fun k a b c d => by rw [u2 k (by omega), x2 k c]; exact hgt.2.1 k d) (fun k a b => by rw [u2 k b]; exact hXl.1 k a) (u3.trans hXl.2) (fun g a b => by
            rw [u4 g a b, x46 g, u2 12 (by omega), x4 g a b]
            omega)
          have hN : zInv (n + 1) U := by
            refine ⟨hR, fun g a b => ?_, ?_, ?_⟩
            · have q1 := hacc g a b
              have q2 := zw_rng (H := P.1.2.1 39) (j := (m : Int) - 1) (f := g)
              have q3 := zsu_rng (H := P.1.2.1 39) (f := g) (m - 2) 1
              rw [zsu_d] at q3
              rw [u2 12 (by omega), x4 g a b, u1, x1, p2]
              split <;> omega
            · have := hI.2.2.1
              rw [u1, x1, p2, p3]
              omega
            · rw [u1, x1, p2]
              exact hg60
          refine g_goto (q := 0) (t := 3002) dL_law_2579 (by decide) ?_
          exact g_forget (z_sub_r (z_sub_r (z_sub_r (z_sub_r (z_sub_r (z_sub_r (z_sub_r (z_sub_r (z_sub_r (z_sub_r (z_sub_r (z_sub_r (z_sub_r (z_sub_r (z_sub_r (z_sub_n (z_sub_n (z_sub_n (z_sub_r (z_sub_n (z_sub_n (z_sub_n (z_sub_n (z_sub_n (z_sub_n (z_sub_n (z_sub_n (z_sub_n (z_sub_n (z_sub_n (z_sub_n (z_sub_n (z_sub_n (z_sub_n (z_sub_n (z_sub_n (z_sub_n (z_sub_n (z_sub_n (z_sub_n (z_sub_n (z_sub_n (z_sub_n (z_sub_n (z_sub_n (z_sub_n (z_sub_n (z_sub_n (z_sub_n (z_sub_n z_sub_0)))))))))))))))))))))))))))))))))))))))))))))))))) (z_G.widen (by omega) (hK _ hN))
        subst ce
        have k23 : z_G (mLw hh) F (500 * n + 20) 2523 [some (zR 49), some (zR 0), some (zR 7), some (zR 40), some (zR 41), some (zR 42), some (zR 43), some (zR 44), some (zR 48), some (zR 45), some (zR 46), some (zR 47), some (zI (n : Int)), some (zI v), some (zI w), some (zI i), some (zI (zdg i)), some (zI f), some (zI 1), none, none, none, none, none, none, none, none, none, none, none, none, none, none, none, none, none, none, none, none, none, none, some (zL (zenc (P.1.2.1 39) m * 8 + 0)), none, some (zI 3), some (zL (zenc (P.1.2.1 39) m)), none, none, none, none, none] [] X := by
          by_cases c1 : m = 1
          · have hm0 := hH 0 (by omega) (by omega)
            have hkk := hfin X rfl (fun _ _ => rfl) rfl (fun g a b => by rw [if_pos c1]; omega)
            have ez1 : zenc (P.1.2.1 39) m = P.1.2.1 39 0 + 1 := by rw [c1, zenc, zenc]; simp
            rw [ez1]
            clear hfin
            refine g_lload (q := 2525) dL_law_2523 rfl rfl ?_
            refine g_ldc2 (z := 15) (q := 2528) dL_law_2525 rfl lk_172 (by constructor <;> decide) ?_
            refine g_lcmpv (q := 2529) (z := -1) dL_law_2528 rfl (by omega) ?_
            refine g_if_le (t := 2579) (q := 2532) dL_law_2529 (by decide) rfl (fun h2529 => ?_) (fun h2529 => (False.elim (by omega)))
            exact g_forget (z_sub_r (z_sub_r (z_sub_r (z_sub_r (z_sub_r (z_sub_r (z_sub_r (z_sub_r (z_sub_r (z_sub_r (z_sub_r (z_sub_r (z_sub_r (z_sub_r (z_sub_r (z_sub_r (z_sub_r (z_sub_r (z_sub_r (z_sub_n (z_sub_n (z_sub_n (z_sub_n (z_sub_n (z_sub_n (z_sub_n (z_sub_n (z_sub_n (z_sub_n (z_sub_n (z_sub_n (z_sub_n (z_sub_n (z_sub_n (z_sub_n (z_sub_n (z_sub_n (z_sub_n (z_sub_n (z_sub_n (z_sub_n (z_sub_n (z_sub_n (z_sub_n (z_sub_n (z_sub_n (z_sub_n (z_sub_n (z_sub_n (z_sub_n z_sub_0)))))))))))))))))))))))))))))))))))))))))))))))))) hkk
          · obtain ⟨k, ek⟩ : ∃ k, m = k + 2 := ⟨m - 2, by omega⟩
            subst ek
            have h1 := hH ((k + 1 : Nat) : Int) (by omega) (by omega)
            have h00 := hH 0 (by omega) (by omega)
            have hz := zenc_7 (h := P.1.2.1 39) (m := k + 1) (by omega) (fun j x y => hH j x (by omega))
            have hz0 := zenc_7 (h := P.1.2.1 39) (m := k) (by omega) (fun j x y => hH j x (by omega))
            have hzk := hH (k : Int) (by omega) (by omega)
            have ezk : zenc (P.1.2.1 39) (k + 1) = zenc (P.1.2.1 39) k * 16 + (P.1.2.1 39 (k : Int) + 1) := by rw [zenc]
            obtain ⟨hp, ehp⟩ : ∃ z, z = P.1.2.1 39 ((k + 1 : Nat) : Int) := ⟨_, rfl⟩
            obtain ⟨f0, ef0⟩ : ∃ z, z = S.2.1 40 i := ⟨_, rfl⟩
            rw [← ef0] at h0 hf0
            have b1 := hwb hp (by omega) (by omega)
            have b0 := hwb f0 (by omega) (by omega)
            have h40 : X.2.1 40 i = f0 := (x40 i).trans ef0.symm
            rw [← x46] at b1 b0
            have hT1 : ∀ g : Int, (z_sA (z_sA X 46 hp (X.2.1 46 hp + 3072)) 46 f0 ((z_sA X 46 hp (X.2.1 46 hp + 3072)).2.1 46 f0 - 3072)).2.1 46 g = X.2.1 46 g + 3072 * zw (P.1.2.1 39) ((k + 1 : Nat) : Int) g := by
              intro g
              unfold zw z1
              rw [← ehp, h0]
              by_cases c1 : g = f0
              · rw [c1, za_eq, if_pos rfl]
                by_cases c2 : f0 = hp
                · rw [c2, za_eq, if_pos rfl]
                  omega
                · rw [za_ni c2, if_neg c2]
                  omega
              · rw [za_ni c1, if_neg c1]
                by_cases c2 : g = hp
                · rw [c2, za_eq, if_pos rfl]
                  omega
                · rw [za_ni c2, if_neg c2]
                  omega
            have hnx := lc_dial_loop (hh := hh) (F := F) (v := v) (w := w) (f := f) (row := zenc (P.1.2.1 39) (k + 2) * 8 + 0) (ot := 0) (wy := 0) (p3 := 0) (lo := 0) (H := P.1.2.1 39) (f0 := f0) (m := k + 2) hn (by omega) hi hH h0 k (z_sA (z_sA X 46 hp (X.2.1 46 hp + 3072)) 46 f0 ((z_sA X 46 hp (X.2.1 46 hp + 3072)).2.1 46 f0 - 3072)) (by omega) (fun g a b => by
              have q1 := hwb g a b
              have q2 := zw_rng (H := P.1.2.1 39) (j := ((k + 1 : Nat) : Int)) (f := g)
              rw [hT1 g, x46]
              omega) h40 (fun U u1 u2 u3 u4 => hfin U u1 (fun q hq => (u2 q hq).trans (funext fun j => by rw [za_ne hq, za_ne hq])) u3 (fun g a b => by
              rw [u4 g a b, hT1 g, if_neg c1, show (((k + 2 : Nat) : Int) - 1) = ((k + 1 : Nat) : Int) by omega, show k + 2 - 2 = k by omega]
              omega))
            have hzs : (z_sA X 46 hp (X.2.1 46 hp + 3072)).2.1 46 f0 = if f0 = hp then X.2.1 46 hp + 3072 else X.2.1 46 f0 := by
              rw [za_sA]
              simp
            obtain ⟨zz, ezz⟩ : ∃ z, z = (z_sA X 46 hp (X.2.1 46 hp + 3072)).2.1 46 f0 := ⟨_, rfl⟩
            have hzr : 90000 ≤ zz ∧ zz ≤ 21000000 := by
              rw [ezz, hzs]
              split <;> omega
            rw [← ezz] at hnx
            have ez2 : zenc (P.1.2.1 39) (k + 2) = zenc (P.1.2.1 39) (k + 1) * 16 + (hp + 1) := by
              rw [show k + 2 = k + 1 + 1 by omega, zenc, ehp]
            rw [ez2] at hnx ⊢
            clear hfin hwb
            refine g_lload (q := 2525) dL_law_2523 rfl rfl ?_
            refine g_ldc2 (z := 15) (q := 2528) dL_law_2525 rfl lk_172 (by constructor <;> decide) ?_
            refine g_lcmpv (q := 2529) (z := 1) dL_law_2528 rfl (by omega) ?_
            refine g_if_le (t := 2579) (q := 2532) dL_law_2529 (by decide) rfl (fun h2529 => (False.elim (by omega))) (fun h2529 => ?_)
            refine g_aload (q := 2534) dL_law_2532 rfl rfl ?_
            refine g_lload (q := 2536) dL_law_2534 rfl rfl ?_
            refine g_ldc2 (z := 15) (q := 2539) dL_law_2536 rfl lk_172 (by constructor <;> decide) ?_
            refine g_landv (q := 2540) (z := hp + 1) dL_law_2539 rfl ((zLand_m (p := 16) 4 (by decide) (by decide) (by omega) (by omega)).trans (by omega)) ?_
            refine g_l2iv (q := 2541) (z := hp + 1) dL_law_2540 rfl rfl (by constructor <;> omega) ?_
            refine g_iconst (q := 2542) dL_law_2541 rfl ⟨by decide, by decide⟩ ?_
            refine g_isub (q := 2543) dL_law_2542 rfl (by constructor <;> omega) ?_
            refine g_top (z := hp) (by omega) ?_
            refine g_dup2 (q := 2544) dL_law_2543 rfl trivial trivial ?_
            refine g_ildv (q := 2545) (z := X.2.1 46 hp) dL_law_2544 rfl ⟨by decide, rfl, rfl⟩ (by omega) (by omega) rfl ?_
            refine g_iload (q := 2547) dL_law_2545 rfl rfl ?_
            refine g_bipush (q := 2549) dL_law_2547 rfl ⟨by decide, by decide⟩ (by decide) ?_
            refine g_ishlv (q := 2550) (z := 3072) dL_law_2549 rfl ((by decide)) ?_
            refine g_iadd (q := 2551) dL_law_2550 rfl (by constructor <;> omega) ?_
            refine g_iast (q := 2552) dL_law_2551 rfl ⟨by decide, rfl, rfl⟩ (by omega) (by omega) ?_
            refine g_aload (q := 2554) dL_law_2552 rfl rfl ?_
            refine g_aload_n (i := 3) (q := 2555) dL_law_2554 rfl rfl rfl ?_
            refine g_iload (q := 2557) dL_law_2555 rfl rfl ?_
            refine g_ildv (q := 2558) (z := f0) dL_law_2557 rfl ⟨by decide, rfl, rfl⟩ (by omega) (by omega) h40 ?_
            refine g_dup2 (q := 2559) dL_law_2558 rfl trivial trivial ?_
            refine g_ildv (q := 2560) (z := zz) dL_law_2559 rfl ⟨by decide, rfl, rfl⟩ (by omega) (by omega) ezz.symm ?_
            refine g_iload (q := 2562) dL_law_2560 rfl rfl ?_
            refine g_bipush (q := 2564) dL_law_2562 rfl ⟨by decide, by decide⟩ (by decide) ?_
            refine g_ishlv (q := 2565) (z := 3072) dL_law_2564 rfl ((by decide)) ?_
            refine g_isub (q := 2566) dL_law_2565 rfl (by constructor <;> omega) ?_
            refine g_iast (q := 2567) dL_law_2566 rfl ⟨by decide, rfl, rfl⟩ (by omega) (by omega) ?_
            refine g_iconst (q := 2568) dL_law_2567 rfl ⟨by decide, by decide⟩ ?_
            refine g_istore (q := 2570) dL_law_2568 rfl (Nat.le_of_ble_eq_true rfl) ?_
            refine g_lload (q := 2572) dL_law_2570 rfl rfl ?_
            refine g_iconst (q := 2573) dL_law_2572 rfl ⟨by decide, by decide⟩ ?_
            refine g_lshrv (q := 2574) (z := zenc (P.1.2.1 39) (k + 1)) dL_law_2573 rfl ((zLshr_p (p := 16) 4 (by decide) (by decide) (by constructor <;> omega)).trans (by omega)) ?_
            refine g_lstore (q := 2576) dL_law_2574 rfl (Nat.le_of_ble_eq_true rfl) (show 44 ∈ [41, 44] by decide) ?_
            refine g_goto (q := 0) (t := 2523) dL_law_2576 (by decide) ?_
            exact hnx
        clear hfin
        refine g_aload_n (i := 3) (q := 2415) dL_law_2414 rfl rfl rfl ?_
        refine g_iload (q := 2417) dL_law_2415 rfl rfl ?_
        refine g_ildv (q := 2418) (z := S.2.1 40 i) dL_law_2417 rfl ⟨by decide, rfl, rfl⟩ (by omega) (by omega) rfl ?_
        refine g_iconst (q := 2419) dL_law_2418 rfl ⟨by decide, by decide⟩ ?_
        refine g_icmp_ne (t := 2451) (q := 2422) dL_law_2419 (by decide) rfl (fun h2419 => ?_) (fun h2419 => (False.elim (by omega)))
        refine g_aload_n (i := 3) (q := 2452) dL_law_2451 rfl rfl rfl ?_
        refine g_iload (q := 2454) dL_law_2452 rfl rfl ?_
        refine g_ildv (q := 2455) (z := S.2.1 40 i) dL_law_2454 rfl ⟨by decide, rfl, rfl⟩ (by omega) (by omega) rfl ?_
        refine g_iload (q := 2457) dL_law_2455 rfl rfl ?_
        refine g_iload (q := 2459) dL_law_2457 rfl rfl ?_
        refine g_aload_n (i := 2) (q := 2460) dL_law_2459 rfl rfl rfl ?_
        refine g_aload_n (i := 3) (q := 2461) dL_law_2460 rfl rfl rfl ?_
        refine g_aload (q := 2463) dL_law_2461 rfl rfl ?_
        refine g_aload (q := 2465) dL_law_2463 rfl rfl ?_
        refine g_fnS (as := [zI (S.2.1 40 i), zI ot, zI wy, zR 7, zR 40, zR 48, zR 46]) (q := 2468) (u' := 500 * n + 10) dL_law_2465 rfl ck_L_165 rfl rfl (Nat.le_of_ble_eq_true rfl) ⟨Nat.le_of_ble_eq_true rfl, Nat.le_of_ble_eq_true rfl⟩ rfl (show 500 * n + 10 ≤ 100000 by omega) (hgo) rfl ?_
        refine g_lstore (q := 2470) dL_law_2468 rfl (Nat.le_of_ble_eq_true rfl) (show 41 ∈ [41, 44] by decide) ?_
        refine g_aload_n (i := 1) (q := 2471) dL_law_2470 rfl rfl rfl ?_
        refine g_iload (q := 2473) dL_law_2471 rfl rfl ?_
        refine g_iload (q := 2475) dL_law_2473 rfl rfl ?_
        refine g_fnS (as := [zI ot]) (q := 2478) (u' := 500 * n + 10) dL_law_2475 rfl ck_L_128 rfl rfl (Nat.le_of_ble_eq_true rfl) ⟨Nat.le_of_ble_eq_true rfl, Nat.le_of_ble_eq_true rfl⟩ rfl (show 500 * n + 10 ≤ 100000 by omega) (s_L_digits (by omega)) rfl ?_
        refine g_iload (q := 2480) dL_law_2478 rfl rfl ?_
        refine g_fnW (as := [zR 0, zI (zdg i), zI (zdg ot), zI wy]) (q := 2483) (u' := 500 * n + 14) dL_law_2480 rfl ck_L_221 rfl rfl (Nat.le_of_ble_eq_true rfl) ⟨Nat.le_of_ble_eq_true rfl, Nat.le_of_ble_eq_true rfl⟩ rfl (show 500 * n + 14 ≤ 100000 by omega) (q) ?_
        refine g_lload (q := 2485) dL_law_2483 rfl rfl ?_
        refine g_ldc2 (z := 7) (q := 2488) dL_law_2485 rfl lk_108 (by constructor <;> decide) ?_
        refine g_landv (q := 2489) (z := 0) dL_law_2488 rfl ((zLand_m (p := 8) 3 (by decide) (by decide) (by omega) (by omega)).trans (by omega)) ?_
        refine g_l2iv (q := 2490) (z := 0) dL_law_2489 rfl rfl (by constructor <;> omega) ?_
        refine g_icmp_ne (t := 2497) (q := 2493) dL_law_2490 (by decide) rfl (fun h2490 => (False.elim (by omega))) (fun h2490 => ?_)
        refine g_iconst (q := 2494) dL_law_2493 rfl ⟨by decide, by decide⟩ ?_
        refine g_goto (q := 0) (t := 2498) dL_law_2494 (by decide) ?_
        refine g_istore (q := 2500) dL_law_2498 rfl (Nat.le_of_ble_eq_true rfl) ?_
        refine g_lload (q := 2502) dL_law_2500 rfl rfl ?_
        refine g_ldc2 (z := 7) (q := 2505) dL_law_2502 rfl lk_108 (by constructor <;> decide) ?_
        refine g_landv (q := 2506) (z := 0) dL_law_2505 rfl ((zLand_m (p := 8) 3 (by decide) (by decide) (by omega) (by omega)).trans (by omega)) ?_
        refine g_lconst (q := 2507) (z := 0) dL_law_2506 rfl ⟨by decide, by decide⟩ rfl ?_
        refine g_lcmpv (q := 2508) (z := 0) dL_law_2507 rfl (by omega) ?_
        refine g_if_eq (t := 2514) (q := 2511) dL_law_2508 (by decide) rfl (fun h2508 => ?_) (fun h2508 => (False.elim (by omega)))
        refine g_iconst (q := 2515) dL_law_2514 rfl ⟨by decide, by decide⟩ ?_
        refine g_istore (q := 2517) dL_law_2515 rfl (Nat.le_of_ble_eq_true rfl) ?_
        refine g_lload (q := 2519) dL_law_2517 rfl rfl ?_
        refine g_iconst (q := 2520) dL_law_2519 rfl ⟨by decide, by decide⟩ ?_
        refine g_lshrv (q := 2521) (z := zenc (P.1.2.1 39) m) dL_law_2520 rfl ((zLshr_p (p := 8) 3 (by decide) (by decide) (by constructor <;> omega)).trans (by omega)) ?_
        refine g_lstore (q := 2523) dL_law_2521 rfl (Nat.le_of_ble_eq_true rfl) (show 44 ∈ [41, 44] by decide) ?_
        exact g_forget (z_sub_r (z_sub_r (z_sub_r (z_sub_r (z_sub_r (z_sub_r (z_sub_r (z_sub_r (z_sub_r (z_sub_r (z_sub_r (z_sub_r (z_sub_r (z_sub_r (z_sub_r (z_sub_r (z_sub_r (z_sub_r (z_sub_r (z_sub_n (z_sub_n (z_sub_n (z_sub_n (z_sub_n (z_sub_n (z_sub_n (z_sub_n (z_sub_n (z_sub_n (z_sub_n (z_sub_n (z_sub_n (z_sub_n (z_sub_n (z_sub_n (z_sub_n (z_sub_n (z_sub_n (z_sub_n (z_sub_n (z_sub_n (z_sub_r (z_sub_n (z_sub_r (z_sub_r (z_sub_n (z_sub_n (z_sub_n (z_sub_n (z_sub_n z_sub_0)))))))))))))))))))))))))))))))))))))))))))))))))) (z_G.widen (by omega) k23)
      · rw [if_neg ce] at q
        have hN : zInv (n + 1) P.1 := hI.next hRU (by rw [hgt.1 2 (by omega)]; exact Int.le_refl _) (by rw [hgt.1 2 (by omega), hgt.1 3 (by omega)]; omega) (hgt.2.1 12 (by omega)) (by rw [hgt.1 2 (by omega)]; exact hI.2.2.2)
        refine g_aload_n (i := 3) (q := 2415) dL_law_2414 rfl rfl rfl ?_
        refine g_iload (q := 2417) dL_law_2415 rfl rfl ?_
        refine g_ildv (q := 2418) (z := S.2.1 40 i) dL_law_2417 rfl ⟨by decide, rfl, rfl⟩ (by omega) (by omega) rfl ?_
        refine g_iconst (q := 2419) dL_law_2418 rfl ⟨by decide, by decide⟩ ?_
        refine g_icmp_ne (t := 2451) (q := 2422) dL_law_2419 (by decide) rfl (fun h2419 => ?_) (fun h2419 => (False.elim (by omega)))
        refine g_aload_n (i := 3) (q := 2452) dL_law_2451 rfl rfl rfl ?_
        refine g_iload (q := 2454) dL_law_2452 rfl rfl ?_
        refine g_ildv (q := 2455) (z := S.2.1 40 i) dL_law_2454 rfl ⟨by decide, rfl, rfl⟩ (by omega) (by omega) rfl ?_
        refine g_iload (q := 2457) dL_law_2455 rfl rfl ?_
        refine g_iload (q := 2459) dL_law_2457 rfl rfl ?_
        refine g_aload_n (i := 2) (q := 2460) dL_law_2459 rfl rfl rfl ?_
        refine g_aload_n (i := 3) (q := 2461) dL_law_2460 rfl rfl rfl ?_
        refine g_aload (q := 2463) dL_law_2461 rfl rfl ?_
        refine g_aload (q := 2465) dL_law_2463 rfl rfl ?_
        refine g_fnS (as := [zI (S.2.1 40 i), zI ot, zI wy, zR 7, zR 40, zR 48, zR 46]) (q := 2468) (u' := 500 * n + 10) dL_law_2465 rfl ck_L_165 rfl rfl (Nat.le_of_ble_eq_true rfl) ⟨Nat.le_of_ble_eq_true rfl, Nat.le_of_ble_eq_true rfl⟩ rfl (show 500 * n + 10 ≤ 100000 by omega) (hgo) rfl ?_
        refine g_lstore (q := 2470) dL_law_2468 rfl (Nat.le_of_ble_eq_true rfl) (show 41 ∈ [41, 44] by decide) ?_
        refine g_aload_n (i := 1) (q := 2471) dL_law_2470 rfl rfl rfl ?_
        refine g_iload (q := 2473) dL_law_2471 rfl rfl ?_
        refine g_iload (q := 2475) dL_law_2473 rfl rfl ?_
        refine g_fnS (as := [zI ot]) (q := 2478) (u' := 500 * n + 10) dL_law_2475 rfl ck_L_128 rfl rfl (Nat.le_of_ble_eq_true rfl) ⟨Nat.le_of_ble_eq_true rfl, Nat.le_of_ble_eq_true rfl⟩ rfl (show 500 * n + 10 ≤ 100000 by omega) (s_L_digits (by omega)) rfl ?_
        refine g_iload (q := 2480) dL_law_2478 rfl rfl ?_
        refine g_fnW (as := [zR 0, zI (zdg i), zI (zdg ot), zI wy]) (q := 2483) (u' := 500 * n + 14) dL_law_2480 rfl ck_L_221 rfl rfl (Nat.le_of_ble_eq_true rfl) ⟨Nat.le_of_ble_eq_true rfl, Nat.le_of_ble_eq_true rfl⟩ rfl (show 500 * n + 14 ≤ 100000 by omega) (q) ?_
        refine g_lload (q := 2485) dL_law_2483 rfl rfl ?_
        refine g_ldc2 (z := 7) (q := 2488) dL_law_2485 rfl lk_108 (by constructor <;> decide) ?_
        refine g_landv (q := 2489) (z := e) dL_law_2488 rfl ((zLand_m (p := 8) 3 (by decide) (by decide) (by omega) (by omega)).trans (by omega)) ?_
        refine g_l2iv (q := 2490) (z := e) dL_law_2489 rfl rfl (by constructor <;> omega) ?_
        refine g_icmp_ne (t := 2497) (q := 2493) dL_law_2490 (by decide) rfl (fun h2490 => (False.elim (by omega))) (fun h2490 => ?_)
        refine g_iconst (q := 2494) dL_law_2493 rfl ⟨by decide, by decide⟩ ?_
        refine g_goto (q := 0) (t := 2498) dL_law_2494 (by decide) ?_
        refine g_istore (q := 2500) dL_law_2498 rfl (Nat.le_of_ble_eq_true rfl) ?_
        refine g_lload (q := 2502) dL_law_2500 rfl rfl ?_
        refine g_ldc2 (z := 7) (q := 2505) dL_law_2502 rfl lk_108 (by constructor <;> decide) ?_
        refine g_landv (q := 2506) (z := e) dL_law_2505 rfl ((zLand_m (p := 8) 3 (by decide) (by decide) (by omega) (by omega)).trans (by omega)) ?_
        refine g_lconst (q := 2507) (z := 0) dL_law_2506 rfl ⟨by decide, by decide⟩ rfl ?_
        refine g_lcmpv (q := 2508) (z := 1) dL_law_2507 rfl (by omega) ?_
        refine g_if_eq (t := 2514) (q := 2511) dL_law_2508 (by decide) rfl (fun h2508 => (False.elim (by omega))) (fun h2508 => ?_)
        refine g_goto (q := 0) (t := 3002) dL_law_2511 (by decide) ?_
        exact g_forget (z_sub_r (z_sub_r (z_sub_r (z_sub_r (z_sub_r (z_sub_r (z_sub_r (z_sub_r (z_sub_r (z_sub_r (z_sub_r (z_sub_r (z_sub_r (z_sub_r (z_sub_r (z_sub_n (z_sub_n (z_sub_n (z_sub_r (z_sub_n (z_sub_n (z_sub_n (z_sub_n (z_sub_n (z_sub_n (z_sub_n (z_sub_n (z_sub_n (z_sub_n (z_sub_n (z_sub_n (z_sub_n (z_sub_n (z_sub_n (z_sub_n (z_sub_n (z_sub_n (z_sub_n (z_sub_n (z_sub_n (z_sub_n (z_sub_n (z_sub_n (z_sub_n (z_sub_n (z_sub_n (z_sub_n (z_sub_n (z_sub_n (z_sub_n z_sub_0)))))))))))))))))))))))))))))))))))))))))))))))))) (z_G.widen (by omega) (hK _ hN))
  rw [eot, ewy] at k14
  refine g_iload (q := 2397) dL_law_2395 rfl rfl ?_
  refine g_bipush (q := 2399) dL_law_2397 rfl ⟨by decide, by decide⟩ (by decide) ?_
  refine g_fnS (as := [zI w, zI 12]) (q := 2402) (u' := 500 * n + 10) dL_law_2399 rfl ck_L_125 rfl rfl (Nat.le_of_ble_eq_true rfl) ⟨Nat.le_of_ble_eq_true rfl, Nat.le_of_ble_eq_true rfl⟩ rfl (show 500 * n + 10 ≤ 100000 by omega) (s_L_low (by omega)) rfl ?_
  refine g_istore (q := 2404) dL_law_2402 rfl (Nat.le_of_ble_eq_true rfl) ?_
  refine g_iload (q := 2406) dL_law_2404 rfl rfl ?_
  refine g_iconst (q := 2407) dL_law_2406 rfl ⟨by decide, by decide⟩ ?_
  refine g_ishrv (q := 2408) (z := zShr w 4) dL_law_2407 rfl (rfl) ?_
  refine g_iconst (q := 2409) dL_law_2408 rfl ⟨by decide, by decide⟩ ?_
  refine g_fnS (as := [zI (zShr w 4), zI 3]) (q := 2412) (u' := 500 * n + 10) dL_law_2409 rfl ck_L_125 rfl rfl (Nat.le_of_ble_eq_true rfl) ⟨Nat.le_of_ble_eq_true rfl, Nat.le_of_ble_eq_true rfl⟩ rfl (show 500 * n + 10 ≤ 100000 by omega) (s_L_low (by omega)) rfl ?_
  refine g_istore (q := 2414) dL_law_2412 rfl (Nat.le_of_ble_eq_true rfl) ?_
  exact k14
end
