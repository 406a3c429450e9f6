/-! ===== a firm ends: its room is wanted only where it ends ===== -/
theorem c_endFirm2 {S : zS} {f h : Int} {c : Nat} (hc : S.1 1 = c) (h60 : c ≤ 60) (h2 : 0 ≤ S.1 2) (h6 : (0 ≤ f ∧ f < 6) → (0 ≤ h ∧ h < 6) → ¬ f = h → S.2.1 9 f = 0 → S.2.1 9 h = 0 → (x_ebl (z_sA S 9 f 1) f h 0 20).1 2 ≤ 600) (h3 : 0 ≤ S.1 3 ∧ S.1 3 < 572) : z_Out mX6_endFirm [zR 0, zI f, zI h] S (o_endFirm S c f h) := by
  refine z_enter (by decide +kernel) rfl (z_n1 trivial (z_n1 trivial (z_n1 trivial z_n0))) (Nat.le_of_ble_eq_true rfl) ?_
  refine g_iload_n (i := 1) (q := 1) dX6_endFirm_0 rfl rfl rfl ?_
  by_cases c1 : 0 ≤ f ∧ f < 6
  · skip
    refine g_fnS (as := [zI f]) (q := 4) (u' := 1) dX6_endFirm_1 rfl ck_X6_150 rfl rfl (Nat.le_of_ble_eq_true rfl) (by decide) rfl (by decide) (s_X6_requireFirm_ok c1) rfl ?_
    refine g_iload_n (i := 2) (q := 5) dX6_endFirm_4 rfl rfl rfl ?_
    by_cases c5 : 0 ≤ h ∧ h < 6
    · skip
      refine g_fnS (as := [zI h]) (q := 8) (u' := 2) dX6_endFirm_5 rfl ck_X6_150 rfl rfl (Nat.le_of_ble_eq_true rfl) (by decide) rfl (by decide) (s_X6_requireFirm_ok c5) rfl ?_
      refine g_iload_n (i := 1) (q := 9) dX6_endFirm_8 rfl rfl rfl ?_
      refine g_iload_n (i := 2) (q := 10) dX6_endFirm_9 rfl rfl rfl ?_
      refine g_icmp_ne (t := 23) (q := 13) dX6_endFirm_10 (by decide) rfl (fun h10 => ?_) (fun h10 => ?_)
      · refine g_aload_n (i := 0) (q := 24) dX6_endFirm_23 rfl rfl rfl ?_
        refine g_getr (q := 27) dX6_endFirm_24 rfl fk_X6_16 rfl rfl ?_
        refine g_getr (q := 30) dX6_endFirm_27 rfl fk_X6_79 rfl rfl ?_
        refine g_iload_n (i := 1) (q := 31) dX6_endFirm_30 rfl rfl rfl ?_
        refine g_zldv (q := 32) (z := S.2.1 9 f) dX6_endFirm_31 rfl ⟨by decide, rfl, rfl⟩ (by omega) (by omega) rfl ?_
        refine g_if_ne (t := 47) (q := 35) dX6_endFirm_32 (by decide) rfl (fun h32 => ?_) (fun h32 => ?_)
        · exact g_throw (text := "one of the firms is gone") rfl rfl z_tk_S (by decide +kernel) dX6_endFirm_47 dX6_endFirm_50 dX6_endFirm_51 dX6_endFirm_53 dX6_endFirm_56 (by decide) (by decide) (by decide) (by unfold o_endFirm; (repeat (first | rw [if_pos (by omega)] | rw [if_neg (by omega)])); exact ⟨rfl, rfl⟩)
        · refine g_aload_n (i := 0) (q := 36) dX6_endFirm_35 rfl rfl rfl ?_
          refine g_getr (q := 39) dX6_endFirm_36 rfl fk_X6_16 rfl rfl ?_
          refine g_getr (q := 42) dX6_endFirm_39 rfl fk_X6_79 rfl rfl ?_
          refine g_iload_n (i := 2) (q := 43) dX6_endFirm_42 rfl rfl rfl ?_
          refine g_zldv (q := 44) (z := S.2.1 9 h) dX6_endFirm_43 rfl ⟨by decide, rfl, rfl⟩ (by omega) (by omega) rfl ?_
          refine g_if_eq (t := 57) (q := 47) dX6_endFirm_44 (by decide) rfl (fun h44 => ?_) (fun h44 => ?_)
          · refine g_aload_n (i := 0) (q := 58) dX6_endFirm_57 rfl rfl rfl ?_
            refine g_getr (q := 61) dX6_endFirm_58 rfl fk_X6_16 rfl rfl ?_
            refine g_getr (q := 64) dX6_endFirm_61 rfl fk_X6_79 rfl rfl ?_
            refine g_iload_n (i := 1) (q := 65) dX6_endFirm_64 rfl rfl rfl ?_
            refine g_iconst (q := 66) dX6_endFirm_65 rfl ⟨by decide, by decide⟩ ?_
            refine g_zast (q := 67) dX6_endFirm_66 rfl ⟨by decide, rfl, rfl⟩ (by omega) (by omega) (by omega) ?_
            refine g_iconst (q := 68) dX6_endFirm_67 rfl ⟨by decide, by decide⟩ ?_
            refine g_istore_n (i := 3) (q := 69) dX6_endFirm_68 rfl rfl (by decide) ?_
            refine g_iconst (q := 70) dX6_endFirm_69 rfl ⟨by decide, by decide⟩ ?_
            refine g_istore (q := 72) dX6_endFirm_70 rfl (by decide) ?_
            exact l_X6_endFirm h60 20 0 (z_sA S 9 f 1) 0 (by omega) hc h2 (h6 c1 c5 (by omega) (by omega) (by omega)) h3.1 h3.2 (by omega) (by unfold o_endFirm; (repeat (first | rw [if_pos (by omega)] | rw [if_neg (by omega)])); rw [Int.zero_add]; exact ⟨rfl, rfl⟩)
          · exact g_throw (text := "one of the firms is gone") rfl rfl z_tk_S (by decide +kernel) dX6_endFirm_47 dX6_endFirm_50 dX6_endFirm_51 dX6_endFirm_53 dX6_endFirm_56 (by decide) (by decide) (by decide) (by unfold o_endFirm; (repeat (first | rw [if_pos (by omega)] | rw [if_neg (by omega)])); exact ⟨rfl, rfl⟩)
      · exact g_throw (text := "a firm is not its own heir") rfl rfl z_tk_A (by decide +kernel) dX6_endFirm_13 dX6_endFirm_16 dX6_endFirm_17 dX6_endFirm_19 dX6_endFirm_22 (by decide) (by decide) (by decide) (by unfold o_endFirm; (repeat (first | rw [if_pos (by omega)] | rw [if_neg (by omega)])); exact ⟨rfl, rfl⟩)
    · exact g_exS (as := [zI h]) dX6_endFirm_5 ck_X6_150 rfl rfl (Nat.le_of_ble_eq_true rfl) (by decide) (by decide) rfl (s_X6_requireFirm_ex c5) (by unfold o_endFirm; (repeat (first | rw [if_pos (by omega)] | rw [if_neg (by omega)])); exact ⟨rfl, rfl⟩)
  · exact g_exS (as := [zI f]) dX6_endFirm_1 ck_X6_150 rfl rfl (Nat.le_of_ble_eq_true rfl) (by decide) (by decide) rfl (s_X6_requireFirm_ex c1) (by unfold o_endFirm; (repeat (first | rw [if_pos (by omega)] | rw [if_neg (by omega)])); exact ⟨rfl, rfl⟩)
/-! ===== a firm ends: class and reference, number by number ===== -/
/-- numbers 0 to i are done: X from S, Y from T -/
def zJ (f h : Int) (S T X Y : zS) (i : Nat) : Prop :=
  ((∀ q, q ≠ 2 → X.1 q = S.1 q) ∧ (∀ q, q ≠ 8 → q ≠ 13 → q ≠ 18 → q ≠ 25 → q ≠ 26 → q ≠ 27 → X.2.1 q = S.2.1 q)) ∧
  ((∀ q, q ≠ 8 → Y.1 q = T.1 q) ∧ (∀ q, q ≠ 42 → q ≠ 47 → q ≠ 55 → q ≠ 56 → q ≠ 57 → Y.2.1 q = T.2.1 q)) ∧
  (∀ k : Int, X.2.1 13 k = (if (0 ≤ k ∧ k < i) ∧ S.2.1 13 k = f then h else S.2.1 13 k) ∧ X.2.1 18 k = (if (0 ≤ k ∧ k < i) ∧ S.2.1 13 k = f then -1 else S.2.1 18 k) ∧ Y.2.1 42 k = (if (0 ≤ k ∧ k < i) ∧ T.2.1 42 k = f then h else T.2.1 42 k) ∧ Y.2.1 47 k = (if (0 ≤ k ∧ k < i) ∧ T.2.1 42 k = f then -1 else T.2.1 47 k)) ∧
  (X.1 2 = Y.1 8 ∧ S.1 2 ≤ X.1 2) ∧
  (∀ j : Int, 0 ≤ j → j < X.1 2 → X.2.1 25 j = Y.2.1 55 j ∧ X.2.1 26 j = Y.2.1 56 j ∧ X.2.1 27 j = Y.2.1 57 j ∧ (0 ≤ X.2.1 26 j ∧ X.2.1 26 j < 200) ∧ (0 ≤ X.2.1 27 j ∧ X.2.1 27 j ≤ 6)) ∧
  (∀ j : Int, 0 ≤ j → j < S.1 2 → X.2.1 26 j = S.2.1 26 j ∧ X.2.1 27 j = S.2.1 27 j) ∧
  (∀ j : Int, 0 ≤ j → 0 ≤ Y.2.1 57 j ∧ Y.2.1 57 j ≤ 6)
theorem zJ.move {f h : Int} {S T X Y : zS} {i : Nat} (J : zJ f h S T X Y i) (e1 : S.2.1 13 i = f) (e2 : T.2.1 42 i = f) : zJ f h S T (z_sA (z_sA X 13 i h) 18 i (-1)) (z_sA (z_sA Y 42 i h) 47 i (-1)) (i + 1) := by
  obtain ⟨⟨a1, a2⟩, ⟨b1, b2⟩, c, d, e, g, k⟩ := J
  refine ⟨⟨a1, fun q h1 h2 h3 h4 h5 h6 => ?_⟩, ⟨b1, fun q h1 h2 h3 h4 h5 => ?_⟩, fun m => ?_, d, e, g, k⟩
  · rw [← a2 q h1 h2 h3 h4 h5 h6]
    funext j
    rw [za_ne (by omega), za_ne (by omega)]
  · rw [← b2 q h1 h2 h3 h4 h5]
    funext j
    rw [za_ne (by omega), za_ne (by omega)]
  · obtain ⟨c1, c2, c3, c4⟩ := c m
    by_cases hm : m = i
    · subst hm
      rw [if_pos ⟨by omega, e1⟩, if_pos ⟨by omega, e1⟩, if_pos ⟨by omega, e2⟩, if_pos ⟨by omega, e2⟩]
      simp [za_sA]
    · have w : (0 ≤ m ∧ m < ((i + 1 : Nat) : Int)) ↔ (0 ≤ m ∧ m < (i : Int)) := by omega
      have t1 : (z_sA (z_sA X 13 i h) 18 i (-1)).2.1 13 m = X.2.1 13 m := by rw [za_ne (by omega), za_ni hm]
      have t2 : (z_sA (z_sA X 13 i h) 18 i (-1)).2.1 18 m = X.2.1 18 m := by rw [za_ni hm, za_ne (by omega)]
      have t3 : (z_sA (z_sA Y 42 i h) 47 i (-1)).2.1 42 m = Y.2.1 42 m := by rw [za_ne (by omega), za_ni hm]
      have t4 : (z_sA (z_sA Y 42 i h) 47 i (-1)).2.1 47 m = Y.2.1 47 m := by rw [za_ni hm, za_ne (by omega)]
      rw [t1, t2, t3, t4]
      simp only [w]
      exact ⟨c1, c2, c3, c4⟩
theorem zJ.stay {f h : Int} {S T X Y : zS} {i : Nat} (J : zJ f h S T X Y i) (e1 : ¬ S.2.1 13 i = f) (e2 : ¬ T.2.1 42 i = f) : zJ f h S T X Y (i + 1) := by
  obtain ⟨a, b, c, d, e, g, k⟩ := J
  refine ⟨a, b, fun m => ?_, d, e, g, k⟩
  obtain ⟨c1, c2, c3, c4⟩ := c m
  by_cases hm : m = i
  · subst hm
    rw [if_neg (fun w => e1 w.2), if_neg (fun w => e1 w.2), if_neg (fun w => e2 w.2), if_neg (fun w => e2 w.2)]
    rw [if_neg (fun w => e1 w.2)] at c1 c2
    rw [if_neg (fun w => e2 w.2)] at c3 c4
    exact ⟨c1, c2, c3, c4⟩
  · have w : (0 ≤ m ∧ m < ((i + 1 : Nat) : Int)) ↔ (0 ≤ m ∧ m < (i : Int)) := by omega
    simp only [w]
    exact ⟨c1, c2, c3, c4⟩
theorem zJ.hold {f h : Int} {S T X Y : zS} {i : Nat} (J : zJ f h S T X Y i) {b v : Int} : zJ f h S T (z_sA X 8 b v) Y i := by
  obtain ⟨⟨a1, a2⟩, b, c, d, e, g, k⟩ := J
  refine ⟨⟨a1, fun q h1 h2 h3 h4 h5 h6 => ?_⟩, b, c, d, e, g, k⟩
  rw [← a2 q h1 h2 h3 h4 h5 h6]
  funext j
  exact za_ne (by omega)
theorem zJ.chg {f h : Int} {S T X Y : zS} {i : Nat} (J : zJ f h S T X Y i) (h0 : S.1 0 = T.1 6) (h2 : 0 ≤ S.1 2) {k p : Int} (hk : 0 ≤ k ∧ k < 200) (hp : 0 ≤ p ∧ p ≤ 6) : zJ f h S T (x_chg X (X.1 0) k p) (y_chg Y k p) i := by
  obtain ⟨⟨a1, a2⟩, ⟨b1, b2⟩, c, d, e, g, k7⟩ := J
  have n1 := a1 0 (by omega)
  have n2 := b1 6 (by omega)
  refine ⟨⟨fun q hq => ?_, fun q h1 h2 h3 h4 h5 h6 => ?_⟩, ⟨fun q hq => ?_, fun q h1 h2 h3 h4 h5 => ?_⟩, c, ?_, fun j x y => ?_, fun j x y => ?_, fun j x => ?_⟩
  · rw [← a1 q hq]
    unfold x_chg
    rw [zv_sS, if_neg hq]
    rfl
  · rw [← a2 q h1 h2 h3 h4 h5 h6]
    funext j
    unfold x_chg
    rw [za_sS, za_ne h6, za_ne h5, za_ne h4]
  · rw [← b1 q hq]
    unfold y_chg
    rw [zv_sS, if_neg hq]
    rfl
  · rw [← b2 q h1 h2 h3 h4 h5]
    funext j
    unfold y_chg
    rw [za_sS, za_ne h5, za_ne h4, za_ne h3]
  · refine ⟨show X.1 2 + 1 = Y.1 8 + 1 by omega, show S.1 2 ≤ X.1 2 + 1 by omega⟩
  · have y2 : j < X.1 2 + 1 := y
    by_cases cj : j = X.1 2
    · have c2 : j = Y.1 8 := by omega
      have en : X.1 0 = Y.1 6 := by omega
      simp [x_chg, y_chg, za_sA, za_sS, zv_sA, zv_sS, cj, ← d.1, en]
      omega
    · have q := e j x (by omega)
      have c2 : ¬ j = Y.1 8 := by omega
      simp [x_chg, y_chg, za_sA, za_sS, zv_sA, zv_sS, cj, c2]
      exact q
  · have hne : ¬ j = X.1 2 := by omega
    simp [x_chg, za_sA, za_sS, zv_sA, zv_sS, hne]
    exact g j x y
  · have q := k7 j x
    by_cases cj : j = Y.1 8
    · simp [y_chg, za_sA, za_sS, zv_sA, zv_sS, cj]
      exact hp
    · simp [y_chg, za_sA, za_sS, zv_sA, zv_sS, cj]
      exact q
/-- the change that a number's heir causes -/
def zec (f h : Int) (S : zS) (k : Nat) : Bool := decide ((S.2.1 13 k = f ∧ ¬ S.2.1 8 ((k : Int) / 10) = f) ∨ (S.2.1 13 k = h ∧ S.2.1 8 ((k : Int) / 10) = f))
theorem zJ.step {f h hb : Int} {S T X Y : zS} {i : Nat} (J : zJ f h S T X Y i) (h0 : S.1 0 = T.1 6) (h2 : 0 ≤ S.1 2) (hi : i < 200) (hfh : ¬ f = h) (hh : 0 ≤ h ∧ h < 6) (es : S.2.1 13 i = T.2.1 42 i) (eh : S.2.1 8 ((i : Int) / 10) = T.2.1 40 ((i : Int) / 10)) (ehb : hb = S.2.1 8 ((i : Int) / 10)) (e8 : X.2.1 8 ((i : Int) / 10) = if S.2.1 8 ((i : Int) / 10) = f then h else S.2.1 8 ((i : Int) / 10)) :
    zJ f h S T (x_ib1 X i f h hb) (y_e1 Y f h i) (i + 1) ∧ (x_ib1 X i f h hb).1 2 = X.1 2 + (if zec f h S i = true then 1 else 0) ∧ (x_ib1 X i f h hb).2.1 8 = X.2.1 8 ∧ (if X.2.1 13 i = f then (1 : Int) else 0) = y_e1n Y f i := by
  have x13 : X.2.1 13 i = S.2.1 13 i := by rw [(J.2.2.1 i).1, if_neg (by omega)]
  have y42 : Y.2.1 42 i = S.2.1 13 i := by rw [(J.2.2.1 i).2.2.1, if_neg (by omega), es]
  have y40 : Y.2.1 40 ((i : Int) / 10) = S.2.1 8 ((i : Int) / 10) := by rw [J.2.1.2 40 (by omega) (by omega) (by omega) (by omega) (by omega), eh]
  unfold x_ib1 y_e1 y_e1n zec
  rw [x13, y42, y40]
  subst ehb
  generalize ese : S.2.1 13 i = s at *
  generalize eee : S.2.1 8 ((i : Int) / 10) = η at *
  by_cases c1 : s = f
  · rw [if_pos c1, if_pos c1, if_pos c1]
    have J2 := J.move (ese.trans c1) (es.symm.trans c1)
    have q13 : (z_sA (z_sA X 13 i h) 18 i (-1)).2.1 13 i = h := by rw [za_ne (by omega), za_eq]
    have q8 : (z_sA (z_sA X 13 i h) 18 i (-1)).2.1 8 = X.2.1 8 := rfl
    have q2 : (z_sA (z_sA X 13 i h) 18 i (-1)).1 2 = X.1 2 := rfl
    generalize z_sA (z_sA X 13 i h) 18 i (-1) = X2 at J2 q13 q8 q2 ⊢
    generalize z_sA (z_sA Y 42 i h) 47 i (-1) = Y2 at J2 ⊢
    unfold x_ah
    rw [if_pos q13, q8, e8]
    by_cases c2 : (if η = f then h else η) = h
    · rw [if_pos c2, if_pos c2]
      by_cases c3 : s = η
      · rw [if_pos c3, if_pos c3]
        refine ⟨J2, ?_, q8, rfl⟩
        rw [if_neg (by simp; omega), q2]
        omega
      · rw [if_neg c3, if_neg c3]
        refine ⟨J2.chg h0 h2 (by omega) (by omega), ?_, q8, rfl⟩
        rw [if_pos (by simp; omega)]
        show X2.1 2 + 1 = _
        omega
    · rw [if_neg c2, if_neg c2, if_neg (by omega)]
      refine ⟨J2.chg h0 h2 (by omega) (by omega), ?_, q8, rfl⟩
      have c4 : ¬ η = f := fun w => c2 (if_pos w)
      rw [if_pos (by simp; omega)]
      show X2.1 2 + 1 = _
      omega
  · rw [if_neg c1, if_neg c1, if_neg c1]
    have J2 := J.stay (fun w => c1 (ese.symm.trans w)) (fun w => c1 (es.trans w))
    unfold x_ah
    rw [x13]
    by_cases c2 : s = h
    · rw [if_pos c2, e8]
      by_cases c3 : η = f
      · rw [if_pos c3, if_pos rfl, if_neg (by omega), if_pos ⟨c2, c3⟩]
        refine ⟨J2.chg h0 h2 (by omega) (by omega), ?_, rfl, rfl⟩
        rw [if_pos (by simp; omega)]
        rfl
      · rw [if_neg c3, if_neg (show ¬ (s = h ∧ η = f) from fun w => c3 w.2)]
        have ec0 : ¬ (decide ((s = f ∧ ¬ η = f) ∨ (s = h ∧ η = f)) = true) := by simp; omega
        rw [if_neg ec0]
        by_cases c4 : η = h
        · rw [if_pos c4, if_pos (by omega)]
          exact ⟨J2, by omega, rfl, rfl⟩
        · rw [if_neg c4, if_pos c2]
          exact ⟨J2, by omega, rfl, rfl⟩
    · rw [if_neg c2, if_neg (fun w => c2 w.1)]
      have ec0 : ¬ (decide ((s = f ∧ ¬ η = f) ∨ (s = h ∧ η = f)) = true) := by simp; omega
      rw [if_neg ec0]
      exact ⟨J2, by omega, rfl, rfl⟩
