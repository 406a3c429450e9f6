/-! ===== the law's cases: blocks, contracts, networks ===== -/
/-- the law's body; its table of handlers is whatever it is: it catches nothing -/
abbrev mLw (hh : List (Nat × Nat × Nat × Nat)) : zM := (x, cL_law, 50, some .boolean, hh, 12, 470, 100000, [41, 44])
section
variable {hh : List (Nat × Nat × Nat × Nat)} {F : zF} {n : Nat} {S : zS} {v w i f : Int}
theorem lc_give_many {b g : Int} (hk : z_G (mLw hh) F (500 * n + 10) 459 [some (zR 49), some (zR 0), some (zR 7), some (zR 40), some (zR 41), some (zR 42), some (zR 43), some (zR 44), some (zR 48), some (zR 45), some (zR 46), some (zR 47), some (zI (n : Int)), some (zI v), some (zI w), some (zI i), some (zI (zdg i)), some (zI f), some (zI 1), some (zI b), some (zI g), some (zI (1 + (z_ct (fun a => decide (S.2.1 7 a = f)) 4 : Int))), none, none, none, none, none, none, none, none, none, none, none, none, none, none, none, none, none, none, none, none, none, none, none, none, none, none, none, none] [] S) (hn : n < 150) : ∀ (k c : Nat), c + k = 4 → z_G (mLw hh) F (500 * n + 10) 428 [some (zR 49), some (zR 0), some (zR 7), some (zR 40), some (zR 41), some (zR 42), some (zR 43), some (zR 44), some (zR 48), some (zR 45), some (zR 46), some (zR 47), some (zI (n : Int)), some (zI v), some (zI w), some (zI i), some (zI (zdg i)), some (zI f), some (zI 1), some (zI b), some (zI g), some (zI (1 + (z_ct (fun a => decide (S.2.1 7 a = f)) c : Int))), some (zI (c : Int)), none, none, none, none, none, none, none, none, none, none, none, none, none, none, none, none, none, none, none, none, none, none, none, none, none, none, none] [] S := by
  intro k
  induction k with
  | zero =>
    intro c hc
    have e : c = 4 := by omega
    subst e
    refine g_iload (q := 430) dL_law_428 rfl rfl ?_
    refine g_iconst (q := 431) dL_law_430 rfl ⟨by decide, by decide⟩ ?_
    refine g_icmp_ge (t := 459) (q := 434) dL_law_431 (by decide) rfl (fun h431 => ?_) (fun h431 => (False.elim (by omega)))
    exact g_forget (z_sub_r (z_sub_r (z_sub_r (z_sub_r (z_sub_r (z_sub_r (z_sub_r (z_sub_r (z_sub_r (z_sub_r (z_sub_r (z_sub_r (z_sub_r (z_sub_r (z_sub_r (z_sub_r (z_sub_r (z_sub_r (z_sub_r (z_sub_r (z_sub_r (z_sub_r (z_sub_n (z_sub_n (z_sub_n (z_sub_n (z_sub_n (z_sub_n (z_sub_n (z_sub_n (z_sub_n (z_sub_n (z_sub_n (z_sub_n (z_sub_n (z_sub_n (z_sub_n (z_sub_n (z_sub_n (z_sub_n (z_sub_n (z_sub_n (z_sub_n (z_sub_n (z_sub_n (z_sub_n (z_sub_n (z_sub_n (z_sub_n (z_sub_n z_sub_0)))))))))))))))))))))))))))))))))))))))))))))))))) hk
  | succ k ih =>
    intro c hc
    have hle := z_ct_le (fun a : Nat => decide (S.2.1 7 a = f)) c
    have hnx := ih (c + 1) (by omega)
    rw [z_ct_succ] at hnx
    by_cases e : S.2.1 7 c = f
    · rw [if_pos (decide_eq_true e), ← Int.add_assoc] at hnx
      refine g_iload (q := 430) dL_law_428 rfl rfl ?_
      refine g_iconst (q := 431) dL_law_430 rfl ⟨by decide, by decide⟩ ?_
      refine g_icmp_ge (t := 459) (q := 434) dL_law_431 (by decide) rfl (fun h431 => (False.elim (by omega))) (fun h431 => ?_)
      refine g_iload (q := 436) dL_law_434 rfl rfl ?_
      refine g_aload_n (i := 2) (q := 437) dL_law_436 rfl rfl rfl ?_
      refine g_iload (q := 439) dL_law_437 rfl rfl ?_
      refine g_ildv (q := 440) (z := S.2.1 7 (c : Int)) dL_law_439 rfl ⟨by decide, rfl, rfl⟩ (by omega) (by omega) rfl ?_
      refine g_iload (q := 442) dL_law_440 rfl rfl ?_
      refine g_icmp_ne (t := 449) (q := 445) dL_law_442 (by decide) rfl (fun h442 => (False.elim (by omega))) (fun h442 => ?_)
      refine g_iconst (q := 446) dL_law_445 rfl ⟨by decide, by decide⟩ ?_
      refine g_goto (q := 0) (t := 450) dL_law_446 (by decide) ?_
      refine g_iadd (q := 451) dL_law_450 rfl (by constructor <;> omega) ?_
      refine g_istore (q := 453) dL_law_451 rfl (Nat.le_of_ble_eq_true rfl) ?_
      refine g_iinc (q := 456) (i := 22) (n := 1) dL_law_453 rfl rfl (by constructor <;> omega) ?_
      refine g_goto (q := 0) (t := 428) dL_law_456 (by decide) ?_
      exact hnx
    · rw [if_neg (by rw [decide_eq_true_eq]; exact e), ← Int.add_assoc] at hnx
      refine g_iload (q := 430) dL_law_428 rfl rfl ?_
      refine g_iconst (q := 431) dL_law_430 rfl ⟨by decide, by decide⟩ ?_
      refine g_icmp_ge (t := 459) (q := 434) dL_law_431 (by decide) rfl (fun h431 => (False.elim (by omega))) (fun h431 => ?_)
      refine g_iload (q := 436) dL_law_434 rfl rfl ?_
      refine g_aload_n (i := 2) (q := 437) dL_law_436 rfl rfl rfl ?_
      refine g_iload (q := 439) dL_law_437 rfl rfl ?_
      refine g_ildv (q := 440) (z := S.2.1 7 (c : Int)) dL_law_439 rfl ⟨by decide, rfl, rfl⟩ (by omega) (by omega) rfl ?_
      refine g_iload (q := 442) dL_law_440 rfl rfl ?_
      refine g_icmp_ne (t := 449) (q := 445) dL_law_442 (by decide) rfl (fun h442 => ?_) (fun h442 => (False.elim (by omega)))
      refine g_iconst (q := 450) dL_law_449 rfl ⟨by decide, by decide⟩ ?_
      refine g_iadd (q := 451) dL_law_450 rfl (by constructor <;> omega) ?_
      refine g_istore (q := 453) dL_law_451 rfl (Nat.le_of_ble_eq_true rfl) ?_
      refine g_iinc (q := 456) (i := 22) (n := 1) dL_law_453 rfl rfl (by constructor <;> omega) ?_
      refine g_goto (q := 0) (t := 428) dL_law_456 (by decide) ?_
      exact hnx
theorem lc_give (hI : zInv n S) (hn : n < 150) (hf : 0 ≤ f ∧ f < 6) (hK : ∀ U, zInv (n + 1) U → z_G (mLw hh) F (500 * n + 60) 3002 [some (zR 49), some (zR 0), some (zR 7), some (zR 40), some (zR 41), some (zR 42), some (zR 43), some (zR 44), some (zR 48), some (zR 45), some (zR 46), some (zR 47), some (zI (n : Int)), some (zI v), some (zI w), none, none, none, some (zI 1), none, none, none, none, none, none, none, none, none, none, none, none, none, none, none, none, none, none, none, none, none, none, none, none, none, none, none, none, none, none, none] [] U) : z_G (mLw hh) F (500 * n + 10) 388 [some (zR 49), some (zR 0), some (zR 7), some (zR 40), some (zR 41), some (zR 42), some (zR 43), some (zR 44), some (zR 48), some (zR 45), some (zR 46), some (zR 47), some (zI (n : Int)), some (zI v), some (zI w), some (zI i), some (zI (zdg i)), some (zI f), some (zI 1), none, none, none, none, none, none, none, none, none, none, none, none, none, none, none, none, none, none, none, none, none, none, none, none, none, none, none, none, none, none, none] [] S := by
  have h := hI.1
  have hb := hI.ab (by omega)
  have hw := h.word hb hf
  have hfl := h.flag f hf.1 hf.2
  have hl := zlow_rng (v := w) (n := 4) (by omega)
  obtain ⟨b, eb⟩ : ∃ z, z = zlow w 4 := ⟨_, rfl⟩
  rw [← eb] at hl
  have k1 : ∀ g : Int, ((g = 1 ∧ S.2.1 7 b = -1 ∧ S.2.1 9 f = 0) ∨ (g = 0 ∧ ¬ (S.2.1 7 b = -1 ∧ S.2.1 9 f = 0))) → z_G (mLw hh) F (500 * n + 10) 420 [some (zR 49), some (zR 0), some (zR 7), some (zR 40), some (zR 41), some (zR 42), some (zR 43), some (zR 44), some (zR 48), some (zR 45), some (zR 46), some (zR 47), some (zI (n : Int)), some (zI v), some (zI w), some (zI i), some (zI (zdg i)), some (zI f), some (zI 1), some (zI b), none, none, none, none, none, none, none, none, none, none, none, none, none, none, none, none, none, none, none, none, none, none, none, none, none, none, none, none, none, none] [zI g] S := by
    intro g hg
    have k2 : z_G (mLw hh) F (500 * n + 10) 459 [some (zR 49), some (zR 0), some (zR 7), some (zR 40), some (zR 41), some (zR 42), some (zR 43), some (zR 44), some (zR 48), some (zR 45), some (zR 46), some (zR 47), some (zI (n : Int)), some (zI v), some (zI w), some (zI i), some (zI (zdg i)), some (zI f), some (zI 1), some (zI b), some (zI g), some (zI (1 + (z_ct (fun a => decide (S.2.1 7 a = f)) 4 : Int))), none, none, none, none, none, none, none, none, none, none, none, none, none, none, none, none, none, none, none, none, none, none, none, none, none, none, none, none] [] S := by
      rcases hg with ⟨rfl, g1, g2⟩ | ⟨rfl, g1⟩
      · have q := q_give_ok h hl hf g1 g2
        have r := (rel_hold h hl (f := f) (by omega) (by omega)).both (U := z_sA (z_sA S 8 b f) 7 b f) (zcl_w zcl.rf (by omega)) (zlw_w (zlw_c zlw.rf (by omega)))
        have hN : zInv (n + 1) (z_sA (z_sA S 8 b f) 7 b f) := hI.next r (Int.le_refl _) (by show S.1 3 ≤ S.1 3 + 1 + (S.1 2 - S.1 2); omega) rfl hI.2.2.2
        obtain ⟨mn, emn⟩ : ∃ z : Int, z = 1 + (z_ct (fun a => decide (S.2.1 7 a = f)) 4 : Int) := ⟨_, rfl⟩
        rw [← emn] at q ⊢
        refine g_aload_n (i := 1) (q := 460) dL_law_459 rfl rfl rfl ?_
        refine g_iload (q := 462) dL_law_460 rfl rfl ?_
        refine g_iload (q := 464) dL_law_462 rfl rfl ?_
        refine g_fnW (as := [zR 0, zI b, zI f]) (q := 467) (u' := 500 * n + 11) dL_law_464 rfl ck_L_185 rfl rfl (Nat.le_of_ble_eq_true rfl) ⟨Nat.le_of_ble_eq_true rfl, Nat.le_of_ble_eq_true rfl⟩ rfl (show 500 * n + 11 ≤ 100000 by omega) (q) ?_
        refine g_iload (q := 469) dL_law_467 rfl rfl ?_
        refine g_if_eq (t := 477) (q := 472) dL_law_469 (by decide) rfl (fun h469 => (False.elim (by omega))) (fun h469 => ?_)
        refine g_iload (q := 474) dL_law_472 rfl rfl ?_
        refine g_goto (q := 0) (t := 480) dL_law_474 (by decide) ?_
        refine g_icmp_ne (t := 487) (q := 483) dL_law_480 (by decide) rfl (fun h480 => (False.elim (by omega))) (fun h480 => ?_)
        refine g_iconst (q := 484) dL_law_483 rfl ⟨by decide, by decide⟩ ?_
        refine g_goto (q := 0) (t := 488) dL_law_484 (by decide) ?_
        refine g_istore (q := 490) dL_law_488 rfl (Nat.le_of_ble_eq_true rfl) ?_
        refine g_aload_n (i := 2) (q := 491) dL_law_490 rfl rfl rfl ?_
        refine g_iload (q := 493) dL_law_491 rfl rfl ?_
        refine g_iload (q := 495) dL_law_493 rfl rfl ?_
        refine g_if_eq (t := 503) (q := 498) dL_law_495 (by decide) rfl (fun h495 => (False.elim (by omega))) (fun h495 => ?_)
        refine g_iload (q := 500) dL_law_498 rfl rfl ?_
        refine g_goto (q := 0) (t := 507) dL_law_500 (by decide) ?_
        refine g_iast (q := 508) dL_law_507 rfl ⟨by decide, rfl, rfl⟩ (by omega) (by omega) ?_
        refine g_goto (q := 0) (t := 3002) dL_law_508 (by decide) ?_
        exact g_forget (z_sub_r (z_sub_r (z_sub_r (z_sub_r (z_sub_r (z_sub_r (z_sub_r (z_sub_r (z_sub_r (z_sub_r (z_sub_r (z_sub_r (z_sub_r (z_sub_r (z_sub_r (z_sub_n (z_sub_n (z_sub_n (z_sub_r (z_sub_n (z_sub_n (z_sub_n (z_sub_n (z_sub_n (z_sub_n (z_sub_n (z_sub_n (z_sub_n (z_sub_n (z_sub_n (z_sub_n (z_sub_n (z_sub_n (z_sub_n (z_sub_n (z_sub_n (z_sub_n (z_sub_n (z_sub_n (z_sub_n (z_sub_n (z_sub_n (z_sub_n (z_sub_n (z_sub_n (z_sub_n (z_sub_n (z_sub_n (z_sub_n (z_sub_n z_sub_0)))))))))))))))))))))))))))))))))))))))))))))))))) (z_G.widen (by omega) (hK _ hN))
      · have q := q_give_ex h hl hf g1
        obtain ⟨mn, emn⟩ : ∃ z : Int, z = 1 + (z_ct (fun a => decide (S.2.1 7 a = f)) 4 : Int) := ⟨_, rfl⟩
        rw [← emn]
        refine g_aload_n (i := 1) (q := 460) dL_law_459 rfl rfl rfl ?_
        refine g_iload (q := 462) dL_law_460 rfl rfl ?_
        refine g_iload (q := 464) dL_law_462 rfl rfl ?_
        refine g_fnW (as := [zR 0, zI b, zI f]) (q := 467) (u' := 500 * n + 11) dL_law_464 rfl ck_L_185 rfl rfl (Nat.le_of_ble_eq_true rfl) ⟨Nat.le_of_ble_eq_true rfl, Nat.le_of_ble_eq_true rfl⟩ rfl (show 500 * n + 11 ≤ 100000 by omega) (q) ?_
        refine g_iload (q := 469) dL_law_467 rfl rfl ?_
        refine g_if_eq (t := 477) (q := 472) dL_law_469 (by decide) rfl (fun h469 => ?_) (fun h469 => (False.elim (by omega)))
        refine g_sipush (q := 480) dL_law_477 rfl ⟨by decide, by decide⟩ (by decide) ?_
        refine g_icmp_ne (t := 487) (q := 483) dL_law_480 (by decide) rfl (fun h480 => (False.elim (by omega))) (fun h480 => ?_)
        refine g_iconst (q := 484) dL_law_483 rfl ⟨by decide, by decide⟩ ?_
        refine g_goto (q := 0) (t := 488) dL_law_484 (by decide) ?_
        refine g_istore (q := 490) dL_law_488 rfl (Nat.le_of_ble_eq_true rfl) ?_
        refine g_aload_n (i := 2) (q := 491) dL_law_490 rfl rfl rfl ?_
        refine g_iload (q := 493) dL_law_491 rfl rfl ?_
        refine g_iload (q := 495) dL_law_493 rfl rfl ?_
        refine g_if_eq (t := 503) (q := 498) dL_law_495 (by decide) rfl (fun h495 => ?_) (fun h495 => (False.elim (by omega)))
        refine g_aload_n (i := 2) (q := 504) dL_law_503 rfl rfl rfl ?_
        refine g_iload (q := 506) dL_law_504 rfl rfl ?_
        refine g_ildv (q := 507) (z := S.2.1 7 b) dL_law_506 rfl ⟨by decide, rfl, rfl⟩ (by omega) (by omega) rfl ?_
        refine g_iast (q := 508) dL_law_507 rfl ⟨by decide, rfl, rfl⟩ (by omega) (by omega) ?_
        refine g_goto (q := 0) (t := 3002) dL_law_508 (by decide) ?_
        rw [za_id]
        exact g_forget (z_sub_r (z_sub_r (z_sub_r (z_sub_r (z_sub_r (z_sub_r (z_sub_r (z_sub_r (z_sub_r (z_sub_r (z_sub_r (z_sub_r (z_sub_r (z_sub_r (z_sub_r (z_sub_n (z_sub_n (z_sub_n (z_sub_r (z_sub_n (z_sub_n (z_sub_n (z_sub_n (z_sub_n (z_sub_n (z_sub_n (z_sub_n (z_sub_n (z_sub_n (z_sub_n (z_sub_n (z_sub_n (z_sub_n (z_sub_n (z_sub_n (z_sub_n (z_sub_n (z_sub_n (z_sub_n (z_sub_n (z_sub_n (z_sub_n (z_sub_n (z_sub_n (z_sub_n (z_sub_n (z_sub_n (z_sub_n (z_sub_n (z_sub_n z_sub_0)))))))))))))))))))))))))))))))))))))))))))))))))) (z_G.widen (by omega) (hK _ hI.same))
    have k3 := lc_give_many k2 hn 4 0 (by omega)
    refine g_istore (q := 422) dL_law_420 rfl (Nat.le_of_ble_eq_true rfl) ?_
    refine g_iconst (q := 423) dL_law_422 rfl ⟨by decide, by decide⟩ ?_
    refine g_istore (q := 425) dL_law_423 rfl (Nat.le_of_ble_eq_true rfl) ?_
    refine g_iconst (q := 426) dL_law_425 rfl ⟨by decide, by decide⟩ ?_
    refine g_istore (q := 428) dL_law_426 rfl (Nat.le_of_ble_eq_true rfl) ?_
    exact k3
  rw [eb] at k1 hl
  refine g_iload (q := 390) dL_law_388 rfl rfl ?_
  refine g_iconst (q := 391) dL_law_390 rfl ⟨by decide, by decide⟩ ?_
  refine g_fnS (as := [zI w, zI 4]) (q := 394) (u' := 500 * n + 10) dL_law_391 rfl ck_L_125 rfl rfl (Nat.le_of_ble_eq_true rfl) ⟨Nat.le_of_ble_eq_true rfl, Nat.le_of_ble_eq_true rfl⟩ rfl (show 500 * n + 10 ≤ 100000 by omega) (s_L_low (by omega)) rfl ?_
  refine g_istore (q := 396) dL_law_394 rfl (Nat.le_of_ble_eq_true rfl) ?_
  refine g_aload_n (i := 2) (q := 397) dL_law_396 rfl rfl rfl ?_
  refine g_iload (q := 399) dL_law_397 rfl rfl ?_
  refine g_ildv (q := 400) (z := S.2.1 7 (zlow w 4)) dL_law_399 rfl ⟨by decide, rfl, rfl⟩ (by omega) (by omega) rfl ?_
  refine g_iconst (q := 401) dL_law_400 rfl ⟨by decide, by decide⟩ ?_
  refine g_icmp_ne (t := 419) (q := 404) dL_law_401 (by decide) rfl (fun h401 => ?_) (fun h401 => ?_)
  · refine g_iconst (q := 420) dL_law_419 rfl ⟨by decide, by decide⟩ ?_
    exact k1 _ (by omega)
  · refine g_aload (q := 406) dL_law_404 rfl rfl ?_
    refine g_iload (q := 408) dL_law_406 rfl rfl ?_
    refine g_ildv (q := 409) (z := S.2.1 46 f) dL_law_408 rfl ⟨by decide, rfl, rfl⟩ (by omega) (by omega) rfl ?_
    refine g_fnS (as := [zI (S.2.1 46 f)]) (q := 412) (u' := 500 * n + 10) dL_law_409 rfl ck_L_114 rfl rfl (Nat.le_of_ble_eq_true rfl) ⟨Nat.le_of_ble_eq_true rfl, Nat.le_of_ble_eq_true rfl⟩ rfl (show 500 * n + 10 ≤ 100000 by omega) (s_L_isGone (by omega)) rfl ?_
    refine g_if_ne (t := 419) (q := 415) dL_law_412 (by decide) rfl (fun h412 => ?_) (fun h412 => ?_)
    · refine g_iconst (q := 420) dL_law_419 rfl ⟨by decide, by decide⟩ ?_
      exact k1 _ (by omega)
    · refine g_iconst (q := 416) dL_law_415 rfl ⟨by decide, by decide⟩ ?_
      refine g_goto (q := 0) (t := 420) dL_law_416 (by decide) ?_
      exact k1 _ (by omega)
theorem lc_assign (hI : zInv n S) (hn : n < 150) (hi : 0 ≤ i ∧ i < 12) (hK : ∀ U, zInv (n + 1) U → z_G (mLw hh) F (500 * n + 60) 3002 [some (zR 49), some (zR 0), some (zR 7), some (zR 40), some (zR 41), some (zR 42), some (zR 43), some (zR 44), some (zR 48), some (zR 45), some (zR 46), some (zR 47), some (zI (n : Int)), some (zI v), some (zI w), none, none, none, some (zI 1), none, none, none, none, none, none, none, none, none, none, none, none, none, none, none, none, none, none, none, none, none, none, none, none, none, none, none, none, none, none, none] [] U) : z_G (mLw hh) F (500 * n + 10) 511 [some (zR 49), some (zR 0), some (zR 7), some (zR 40), some (zR 41), some (zR 42), some (zR 43), some (zR 44), some (zR 48), some (zR 45), some (zR 46), some (zR 47), some (zI (n : Int)), some (zI v), some (zI w), some (zI i), some (zI (zdg i)), some (zI f), some (zI 1), none, none, none, none, none, none, none, none, none, none, none, none, none, none, none, none, none, none, none, none, none, none, none, none, none, none, none, none, none, none, none] [] S := by
  have h := hI.1
  have h3 : S.1 3 < 572 := by have := hI.2.2; omega
  have hl := zlow_rng (v := w) (n := 2) (by omega)
  obtain ⟨t, et⟩ : ∃ z, z = zlow w 2 := ⟨_, rfl⟩
  rw [← et] at hl
  have hbk := h.hold (i / 3) (by omega) (by omega)
  have hs := h.serv i hi.1 hi.2
  have k1 : ∀ g : Int, ((g = 1 ∧ ¬ S.2.1 7 (i / 3) = -1 ∧ S.2.1 40 i = -1 ∧ S.2.1 40 (24 + i) < S.2.1 47 0) ∨ (g = 0 ∧ ¬ (¬ S.2.1 7 (i / 3) = -1 ∧ S.2.1 40 i = -1 ∧ S.2.1 40 (24 + i) < S.2.1 47 0))) → z_G (mLw hh) F (500 * n + 10) 556 [some (zR 49), some (zR 0), some (zR 7), some (zR 40), some (zR 41), some (zR 42), some (zR 43), some (zR 44), some (zR 48), some (zR 45), some (zR 46), some (zR 47), some (zI (n : Int)), some (zI v), some (zI w), some (zI i), some (zI (zdg i)), some (zI f), some (zI 1), none, none, none, some (zI t), none, none, none, none, none, none, none, none, none, none, none, none, none, none, none, none, none, none, none, none, none, none, none, none, none, none, none] [zI g] S := by
    intro g hg
    rcases hg with ⟨rfl, g1, g2, g3⟩ | ⟨rfl, g1⟩
    · have q := q_assign_ok h h3 hi (t := t) (by omega) g1 g2 g3
      have r := (rel_asg2 h hi (t := t) (by omega) (by omega) (by omega)).both (U := z_sA (z_sA (z_sA (x_note (z_sA (z_sA S 13 (zdg i) (S.2.1 8 (zdg i / 10))) 14 (zdg i) t) 0 (zdg i) (S.2.1 8 (zdg i / 10))) 40 i (S.2.1 7 (i / 3))) 40 (12 + i) t) 41 i (-1)) (zcl_w (zcl_w (zcl_w zcl.rf (by omega)) (by omega)) (by omega)) (zlw_w (zlw_w (zlw_w ⟨fun k hk => funext fun j => by
        simp only [x_note, za_sA, za_sS]
        rw [if_neg (by omega), if_neg (by omega), if_neg (by omega), if_neg (by omega), if_neg (by omega)], rfl⟩)))
      have hN : zInv (n + 1) (z_sA (z_sA (z_sA (x_note (z_sA (z_sA S 13 (zdg i) (S.2.1 8 (zdg i / 10))) 14 (zdg i) t) 0 (zdg i) (S.2.1 8 (zdg i / 10))) 40 i (S.2.1 7 (i / 3))) 40 (12 + i) t) 41 i (-1)) := hI.next r (Int.le_refl _) (by show S.1 3 + 1 ≤ S.1 3 + 1 + (S.1 2 - S.1 2); omega) rfl hI.2.2.2
      refine g_istore (q := 558) dL_law_556 rfl (Nat.le_of_ble_eq_true rfl) ?_
      refine g_aload_n (i := 1) (q := 559) dL_law_558 rfl rfl rfl ?_
      refine g_iload (q := 561) dL_law_559 rfl rfl ?_
      refine g_iload (q := 563) dL_law_561 rfl rfl ?_
      refine g_fnW (as := [zR 0, zI (zdg i), zI t]) (q := 566) (u' := 500 * n + 13) dL_law_563 rfl ck_L_187 rfl rfl (Nat.le_of_ble_eq_true rfl) ⟨Nat.le_of_ble_eq_true rfl, Nat.le_of_ble_eq_true rfl⟩ rfl (show 500 * n + 13 ≤ 100000 by omega) (q) ?_
      refine g_iload (q := 568) dL_law_566 rfl rfl ?_
      refine g_if_eq (t := 580) (q := 571) dL_law_568 (by decide) rfl (fun h568 => (False.elim (by omega))) (fun h568 => ?_)
      refine g_aload_n (i := 2) (q := 572) dL_law_571 rfl rfl rfl ?_
      refine g_iload (q := 574) dL_law_572 rfl rfl ?_
      refine g_iconst (q := 575) dL_law_574 rfl ⟨by decide, by decide⟩ ?_
      refine g_idiv (q := 576) dL_law_575 rfl (by omega) (by omega) ?_
      refine g_ildv (q := 577) (z := S.2.1 7 (i / 3)) dL_law_576 rfl ⟨by decide, rfl, rfl⟩ (by omega) (by omega) rfl ?_
      refine g_goto (q := 0) (t := 583) dL_law_577 (by decide) ?_
      refine g_icmp_ne (t := 590) (q := 586) dL_law_583 (by decide) rfl (fun h583 => (False.elim (by omega))) (fun h583 => ?_)
      refine g_iconst (q := 587) dL_law_586 rfl ⟨by decide, by decide⟩ ?_
      refine g_goto (q := 0) (t := 591) dL_law_587 (by decide) ?_
      refine g_istore (q := 593) dL_law_591 rfl (Nat.le_of_ble_eq_true rfl) ?_
      refine g_iload (q := 595) dL_law_593 rfl rfl ?_
      refine g_if_ne (t := 601) (q := 598) dL_law_595 (by decide) rfl (fun h595 => ?_) (fun h595 => (False.elim (by omega)))
      refine g_aload_n (i := 3) (q := 602) dL_law_601 rfl rfl rfl ?_
      refine g_iload (q := 604) dL_law_602 rfl rfl ?_
      refine g_aload_n (i := 2) (q := 605) dL_law_604 rfl rfl rfl ?_
      refine g_iload (q := 607) dL_law_605 rfl rfl ?_
      refine g_iconst (q := 608) dL_law_607 rfl ⟨by decide, by decide⟩ ?_
      refine g_idiv (q := 609) dL_law_608 rfl (by omega) (by omega) ?_
      refine g_ildv (q := 610) (z := S.2.1 7 (i / 3)) dL_law_609 rfl ⟨by decide, rfl, rfl⟩ (by omega) (by omega) rfl ?_
      refine g_iast (q := 611) dL_law_610 rfl ⟨by decide, rfl, rfl⟩ (by omega) (by omega) ?_
      refine g_aload_n (i := 3) (q := 612) dL_law_611 rfl rfl rfl ?_
      refine g_bipush (q := 614) dL_law_612 rfl ⟨by decide, by decide⟩ (by decide) ?_
      refine g_iload (q := 616) dL_law_614 rfl rfl ?_
      refine g_iadd (q := 617) dL_law_616 rfl (by constructor <;> omega) ?_
      refine g_iload (q := 619) dL_law_617 rfl rfl ?_
      refine g_iast (q := 620) dL_law_619 rfl ⟨by decide, rfl, rfl⟩ (by omega) (by omega) ?_
      refine g_aload (q := 622) dL_law_620 rfl rfl ?_
      refine g_iload (q := 624) dL_law_622 rfl rfl ?_
      refine g_iconst (q := 625) dL_law_624 rfl ⟨by decide, by decide⟩ ?_
      refine g_iast (q := 626) dL_law_625 rfl ⟨by decide, rfl, rfl⟩ (by omega) (by omega) ?_
      refine g_goto (q := 0) (t := 3002) dL_law_626 (by decide) ?_
      exact g_forget (z_sub_r (z_sub_r (z_sub_r (z_sub_r (z_sub_r (z_sub_r (z_sub_r (z_sub_r (z_sub_r (z_sub_r (z_sub_r (z_sub_r (z_sub_r (z_sub_r (z_sub_r (z_sub_n (z_sub_n (z_sub_n (z_sub_r (z_sub_n (z_sub_n (z_sub_n (z_sub_n (z_sub_n (z_sub_n (z_sub_n (z_sub_n (z_sub_n (z_sub_n (z_sub_n (z_sub_n (z_sub_n (z_sub_n (z_sub_n (z_sub_n (z_sub_n (z_sub_n (z_sub_n (z_sub_n (z_sub_n (z_sub_n (z_sub_n (z_sub_n (z_sub_n (z_sub_n (z_sub_n (z_sub_n (z_sub_n (z_sub_n (z_sub_n z_sub_0)))))))))))))))))))))))))))))))))))))))))))))))))) (z_G.widen (by omega) (hK _ hN))
    · have q := q_assign_ex h h3 hi (t := t) (by omega) g1
      refine g_istore (q := 558) dL_law_556 rfl (Nat.le_of_ble_eq_true rfl) ?_
      refine g_aload_n (i := 1) (q := 559) dL_law_558 rfl rfl rfl ?_
      refine g_iload (q := 561) dL_law_559 rfl rfl ?_
      refine g_iload (q := 563) dL_law_561 rfl rfl ?_
      refine g_fnW (as := [zR 0, zI (zdg i), zI t]) (q := 566) (u' := 500 * n + 13) dL_law_563 rfl ck_L_187 rfl rfl (Nat.le_of_ble_eq_true rfl) ⟨Nat.le_of_ble_eq_true rfl, Nat.le_of_ble_eq_true rfl⟩ rfl (show 500 * n + 13 ≤ 100000 by omega) (q) ?_
      refine g_iload (q := 568) dL_law_566 rfl rfl ?_
      refine g_if_eq (t := 580) (q := 571) dL_law_568 (by decide) rfl (fun h568 => ?_) (fun h568 => (False.elim (by omega)))
      refine g_sipush (q := 583) dL_law_580 rfl ⟨by decide, by decide⟩ (by decide) ?_
      refine g_icmp_ne (t := 590) (q := 586) dL_law_583 (by decide) rfl (fun h583 => (False.elim (by omega))) (fun h583 => ?_)
      refine g_iconst (q := 587) dL_law_586 rfl ⟨by decide, by decide⟩ ?_
      refine g_goto (q := 0) (t := 591) dL_law_587 (by decide) ?_
      refine g_istore (q := 593) dL_law_591 rfl (Nat.le_of_ble_eq_true rfl) ?_
      refine g_iload (q := 595) dL_law_593 rfl rfl ?_
      refine g_if_ne (t := 601) (q := 598) dL_law_595 (by decide) rfl (fun h595 => (False.elim (by omega))) (fun h595 => ?_)
      refine g_goto (q := 0) (t := 3002) dL_law_598 (by decide) ?_
      exact g_forget (z_sub_r (z_sub_r (z_sub_r (z_sub_r (z_sub_r (z_sub_r (z_sub_r (z_sub_r (z_sub_r (z_sub_r (z_sub_r (z_sub_r (z_sub_r (z_sub_r (z_sub_r (z_sub_n (z_sub_n (z_sub_n (z_sub_r (z_sub_n (z_sub_n (z_sub_n (z_sub_n (z_sub_n (z_sub_n (z_sub_n (z_sub_n (z_sub_n (z_sub_n (z_sub_n (z_sub_n (z_sub_n (z_sub_n (z_sub_n (z_sub_n (z_sub_n (z_sub_n (z_sub_n (z_sub_n (z_sub_n (z_sub_n (z_sub_n (z_sub_n (z_sub_n (z_sub_n (z_sub_n (z_sub_n (z_sub_n (z_sub_n (z_sub_n z_sub_0)))))))))))))))))))))))))))))))))))))))))))))))))) (z_G.widen (by omega) (hK _ hI.same))
  rw [et] at k1 hl
  refine g_iload (q := 513) dL_law_511 rfl rfl ?_
  refine g_iconst (q := 514) dL_law_513 rfl ⟨by decide, by decide⟩ ?_
  refine g_fnS (as := [zI w, zI 2]) (q := 517) (u' := 500 * n + 10) dL_law_514 rfl ck_L_125 rfl rfl (Nat.le_of_ble_eq_true rfl) ⟨Nat.le_of_ble_eq_true rfl, Nat.le_of_ble_eq_true rfl⟩ rfl (show 500 * n + 10 ≤ 100000 by omega) (s_L_low (by omega)) rfl ?_
  refine g_istore (q := 519) dL_law_517 rfl (Nat.le_of_ble_eq_true rfl) ?_
  refine g_aload_n (i := 2) (q := 520) dL_law_519 rfl rfl rfl ?_
  refine g_iload (q := 522) dL_law_520 rfl rfl ?_
  refine g_iconst (q := 523) dL_law_522 rfl ⟨by decide, by decide⟩ ?_
  refine g_idiv (q := 524) dL_law_523 rfl (by omega) (by omega) ?_
  refine g_ildv (q := 525) (z := S.2.1 7 (i / 3)) dL_law_524 rfl ⟨by decide, rfl, rfl⟩ (by omega) (by omega) rfl ?_
  refine g_iconst (q := 526) dL_law_525 rfl ⟨by decide, by decide⟩ ?_
  refine g_icmp_eq (t := 555) (q := 529) dL_law_526 (by decide) rfl (fun h526 => ?_) (fun h526 => ?_)
  · refine g_iconst (q := 556) dL_law_555 rfl ⟨by decide, by decide⟩ ?_
    exact k1 _ (by omega)
  · refine g_aload_n (i := 3) (q := 530) dL_law_529 rfl rfl rfl ?_
    refine g_iload (q := 532) dL_law_530 rfl rfl ?_
    refine g_ildv (q := 533) (z := S.2.1 40 i) dL_law_532 rfl ⟨by decide, rfl, rfl⟩ (by omega) (by omega) rfl ?_
    refine g_iconst (q := 534) dL_law_533 rfl ⟨by decide, by decide⟩ ?_
    refine g_icmp_ne (t := 555) (q := 537) dL_law_534 (by decide) rfl (fun h534 => ?_) (fun h534 => ?_)
    · refine g_iconst (q := 556) dL_law_555 rfl ⟨by decide, by decide⟩ ?_
      exact k1 _ (by omega)
    · refine g_aload_n (i := 3) (q := 538) dL_law_537 rfl rfl rfl ?_
      refine g_bipush (q := 540) dL_law_538 rfl ⟨by decide, by decide⟩ (by decide) ?_
      refine g_iload (q := 542) dL_law_540 rfl rfl ?_
      refine g_iadd (q := 543) dL_law_542 rfl (by constructor <;> omega) ?_
      refine g_ildv (q := 544) (z := S.2.1 40 (24 + i)) dL_law_543 rfl ⟨by decide, rfl, rfl⟩ (by omega) (by omega) rfl ?_
      refine g_aload (q := 546) dL_law_544 rfl rfl ?_
      refine g_iconst (q := 547) dL_law_546 rfl ⟨by decide, by decide⟩ ?_
      refine g_ildv (q := 548) (z := S.2.1 47 0) dL_law_547 rfl ⟨by decide, rfl, rfl⟩ (by omega) (by omega) rfl ?_
      refine g_icmp_ge (t := 555) (q := 551) dL_law_548 (by decide) rfl (fun h548 => ?_) (fun h548 => ?_)
      · refine g_iconst (q := 556) dL_law_555 rfl ⟨by decide, by decide⟩ ?_
        exact k1 _ (by omega)
      · refine g_iconst (q := 552) dL_law_551 rfl ⟨by decide, by decide⟩ ?_
        refine g_goto (q := 0) (t := 556) dL_law_552 (by decide) ?_
        exact k1 _ (by omega)
theorem lc_swap (hI : zInv n S) (hn : n < 150) (hi : 0 ≤ i ∧ i < 12) (hK : ∀ U, zInv (n + 1) U → z_G (mLw hh) F (500 * n + 60) 3002 [some (zR 49), some (zR 0), some (zR 7), some (zR 40), some (zR 41), some (zR 42), some (zR 43), some (zR 44), some (zR 48), some (zR 45), some (zR 46), some (zR 47), some (zI (n : Int)), some (zI v), some (zI w), none, none, none, some (zI 1), none, none, none, none, none, none, none, none, none, none, none, none, none, none, none, none, none, none, none, none, none, none, none, none, none, none, none, none, none, none, none] [] U) : z_G (mLw hh) F (500 * n + 10) 787 [some (zR 49), some (zR 0), some (zR 7), some (zR 40), some (zR 41), some (zR 42), some (zR 43), some (zR 44), some (zR 48), some (zR 45), some (zR 46), some (zR 47), some (zI (n : Int)), some (zI v), some (zI w), some (zI i), some (zI (zdg i)), some (zI f), some (zI 1), none, none, none, none, none, none, none, none, none, none, none, none, none, none, none, none, none, none, none, none, none, none, none, none, none, none, none, none, none, none, none] [] S := by
  have h := hI.1
  have hnow := h.now
  have hnr := h.nowr
  have hl := zlow_rng (v := zShr w 3) (n := 2) (by omega)
  have k0 : z_G (mLw hh) F (500 * n + 10) 797 [some (zR 49), some (zR 0), some (zR 7), some (zR 40), some (zR 41), some (zR 42), some (zR 43), some (zR 44), some (zR 48), some (zR 45), some (zR 46), some (zR 47), some (zI (n : Int)), some (zI v), some (zI w), some (zI i), some (zI (zdg i)), some (zI f), some (zI 1), none, none, none, none, none, none, none, none, none, none, none, none, none, none, none, none, none, none, none, none, none, none, none, none, none, none, none, none, none, none, none] [] S := by
    by_cases c : S.2.1 40 i = -1
    · have q := q_swap_ex h hi (t := zlow (zShr w 3) 2) (by omega) c
      refine g_aload_n (i := 1) (q := 798) dL_law_797 rfl rfl rfl ?_
      refine g_iload (q := 800) dL_law_798 rfl rfl ?_
      refine g_iload (q := 802) dL_law_800 rfl rfl ?_
      refine g_iconst (q := 803) dL_law_802 rfl ⟨by decide, by decide⟩ ?_
      refine g_ishrv (q := 804) (z := zShr w 3) dL_law_803 rfl (rfl) ?_
      refine g_iconst (q := 805) dL_law_804 rfl ⟨by decide, by decide⟩ ?_
      refine g_fnS (as := [zI (zShr w 3), zI 2]) (q := 808) (u' := 500 * n + 10) dL_law_805 rfl ck_L_125 rfl rfl (Nat.le_of_ble_eq_true rfl) ⟨Nat.le_of_ble_eq_true rfl, Nat.le_of_ble_eq_true rfl⟩ rfl (show 500 * n + 10 ≤ 100000 by omega) (s_L_low (by omega)) rfl ?_
      refine g_fnW (as := [zR 0, zI (zdg i), zI (zlow (zShr w 3) 2)]) (q := 811) (u' := 500 * n + 13) dL_law_808 rfl ck_L_192 rfl rfl (Nat.le_of_ble_eq_true rfl) ⟨Nat.le_of_ble_eq_true rfl, Nat.le_of_ble_eq_true rfl⟩ rfl (show 500 * n + 13 ≤ 100000 by omega) (q) ?_
      refine g_aload_n (i := 3) (q := 812) dL_law_811 rfl rfl rfl ?_
      refine g_iload (q := 814) dL_law_812 rfl rfl ?_
      refine g_ildv (q := 815) (z := S.2.1 40 i) dL_law_814 rfl ⟨by decide, rfl, rfl⟩ (by omega) (by omega) rfl ?_
      refine g_iconst (q := 816) dL_law_815 rfl ⟨by decide, by decide⟩ ?_
      refine g_icmp_ne (t := 825) (q := 819) dL_law_816 (by decide) rfl (fun h816 => (False.elim (by omega))) (fun h816 => ?_)
      refine g_sipush (q := 822) dL_law_819 rfl ⟨by decide, by decide⟩ (by decide) ?_
      refine g_goto (q := 0) (t := 832) dL_law_822 (by decide) ?_
      refine g_icmp_ne (t := 839) (q := 835) dL_law_832 (by decide) rfl (fun h832 => (False.elim (by omega))) (fun h832 => ?_)
      refine g_iconst (q := 836) dL_law_835 rfl ⟨by decide, by decide⟩ ?_
      refine g_goto (q := 0) (t := 840) dL_law_836 (by decide) ?_
      refine g_istore (q := 842) dL_law_840 rfl (Nat.le_of_ble_eq_true rfl) ?_
      refine g_aload_n (i := 3) (q := 843) dL_law_842 rfl rfl rfl ?_
      refine g_iload (q := 845) dL_law_843 rfl rfl ?_
      refine g_ildv (q := 846) (z := S.2.1 40 i) dL_law_845 rfl ⟨by decide, rfl, rfl⟩ (by omega) (by omega) rfl ?_
      refine g_iconst (q := 847) dL_law_846 rfl ⟨by decide, by decide⟩ ?_
      refine g_icmp_ne (t := 853) (q := 850) dL_law_847 (by decide) rfl (fun h847 => (False.elim (by omega))) (fun h847 => ?_)
      refine g_goto (q := 0) (t := 3002) dL_law_850 (by decide) ?_
      exact g_forget (z_sub_r (z_sub_r (z_sub_r (z_sub_r (z_sub_r (z_sub_r (z_sub_r (z_sub_r (z_sub_r (z_sub_r (z_sub_r (z_sub_r (z_sub_r (z_sub_r (z_sub_r (z_sub_n (z_sub_n (z_sub_n (z_sub_r (z_sub_n (z_sub_n (z_sub_n (z_sub_n (z_sub_n (z_sub_n (z_sub_n (z_sub_n (z_sub_n (z_sub_n (z_sub_n (z_sub_n (z_sub_n (z_sub_n (z_sub_n (z_sub_n (z_sub_n (z_sub_n (z_sub_n (z_sub_n (z_sub_n (z_sub_n (z_sub_n (z_sub_n (z_sub_n (z_sub_n (z_sub_n (z_sub_n (z_sub_n (z_sub_n (z_sub_n z_sub_0)))))))))))))))))))))))))))))))))))))))))))))))))) (z_G.widen (by omega) (hK _ hI.same))
    · have q := q_swap_ok h hi (t := zlow (zShr w 3) 2) (by omega) c
      have r1 := rel_sile (rel_secr h hi (v := zlow (zShr w 3) 2) (by omega)) hi (v := S.1 0 + 49)
      have r := r1.both (U := z_sA (z_sA (z_sA (z_sA S 14 (zdg i) (zlow (zShr w 3) 2)) 16 (zdg i) (S.1 0 + 49)) 40 (12 + i) (zlow (zShr w 3) 2)) 40 (36 + i) (S.1 0 + 49)) (zcl_w (zcl_w zcl.rf (by omega)) (by omega)) (zlw_w (zlw_w (zlw_c (zlw_c zlw.rf (by omega)) (by omega))))
      have hN : zInv (n + 1) (z_sA (z_sA (z_sA (z_sA S 14 (zdg i) (zlow (zShr w 3) 2)) 16 (zdg i) (S.1 0 + 49)) 40 (12 + i) (zlow (zShr w 3) 2)) 40 (36 + i) (S.1 0 + 49)) := hI.next r (Int.le_refl _) (by show S.1 3 ≤ S.1 3 + 1 + (S.1 2 - S.1 2); omega) rfl hI.2.2.2
      refine g_aload_n (i := 1) (q := 798) dL_law_797 rfl rfl rfl ?_
      refine g_iload (q := 800) dL_law_798 rfl rfl ?_
      refine g_iload (q := 802) dL_law_800 rfl rfl ?_
      refine g_iconst (q := 803) dL_law_802 rfl ⟨by decide, by decide⟩ ?_
      refine g_ishrv (q := 804) (z := zShr w 3) dL_law_803 rfl (rfl) ?_
      refine g_iconst (q := 805) dL_law_804 rfl ⟨by decide, by decide⟩ ?_
      refine g_fnS (as := [zI (zShr w 3), zI 2]) (q := 808) (u' := 500 * n + 10) dL_law_805 rfl ck_L_125 rfl rfl (Nat.le_of_ble_eq_true rfl) ⟨Nat.le_of_ble_eq_true rfl, Nat.le_of_ble_eq_true rfl⟩ rfl (show 500 * n + 10 ≤ 100000 by omega) (s_L_low (by omega)) rfl ?_
      refine g_fnW (as := [zR 0, zI (zdg i), zI (zlow (zShr w 3) 2)]) (q := 811) (u' := 500 * n + 13) dL_law_808 rfl ck_L_192 rfl rfl (Nat.le_of_ble_eq_true rfl) ⟨Nat.le_of_ble_eq_true rfl, Nat.le_of_ble_eq_true rfl⟩ rfl (show 500 * n + 13 ≤ 100000 by omega) (q) ?_
      refine g_aload_n (i := 3) (q := 812) dL_law_811 rfl rfl rfl ?_
      refine g_iload (q := 814) dL_law_812 rfl rfl ?_
      refine g_ildv (q := 815) (z := S.2.1 40 i) dL_law_814 rfl ⟨by decide, rfl, rfl⟩ (by omega) (by omega) rfl ?_
      refine g_iconst (q := 816) dL_law_815 rfl ⟨by decide, by decide⟩ ?_
      refine g_icmp_ne (t := 825) (q := 819) dL_law_816 (by decide) rfl (fun h816 => ?_) (fun h816 => (False.elim (by omega)))
      refine g_aload_n (i := 3) (q := 826) dL_law_825 rfl rfl rfl ?_
      refine g_bipush (q := 828) dL_law_826 rfl ⟨by decide, by decide⟩ (by decide) ?_
      refine g_iload (q := 830) dL_law_828 rfl rfl ?_
      refine g_iadd (q := 831) dL_law_830 rfl (by constructor <;> omega) ?_
      refine g_ildv (q := 832) (z := S.2.1 40 (12 + i)) dL_law_831 rfl ⟨by decide, rfl, rfl⟩ (by omega) (by omega) rfl ?_
      refine g_icmp_ne (t := 839) (q := 835) dL_law_832 (by decide) rfl (fun h832 => (False.elim (by omega))) (fun h832 => ?_)
      refine g_iconst (q := 836) dL_law_835 rfl ⟨by decide, by decide⟩ ?_
      refine g_goto (q := 0) (t := 840) dL_law_836 (by decide) ?_
      refine g_istore (q := 842) dL_law_840 rfl (Nat.le_of_ble_eq_true rfl) ?_
      refine g_aload_n (i := 3) (q := 843) dL_law_842 rfl rfl rfl ?_
      refine g_iload (q := 845) dL_law_843 rfl rfl ?_
      refine g_ildv (q := 846) (z := S.2.1 40 i) dL_law_845 rfl ⟨by decide, rfl, rfl⟩ (by omega) (by omega) rfl ?_
      refine g_iconst (q := 847) dL_law_846 rfl ⟨by decide, by decide⟩ ?_
      refine g_icmp_ne (t := 853) (q := 850) dL_law_847 (by decide) rfl (fun h847 => ?_) (fun h847 => (False.elim (by omega)))
      refine g_aload_n (i := 3) (q := 854) dL_law_853 rfl rfl rfl ?_
      refine g_bipush (q := 856) dL_law_854 rfl ⟨by decide, by decide⟩ (by decide) ?_
      refine g_iload (q := 858) dL_law_856 rfl rfl ?_
      refine g_iadd (q := 859) dL_law_858 rfl (by constructor <;> omega) ?_
      refine g_iload (q := 861) dL_law_859 rfl rfl ?_
      refine g_iconst (q := 862) dL_law_861 rfl ⟨by decide, by decide⟩ ?_
      refine g_ishrv (q := 863) (z := zShr w 3) dL_law_862 rfl (rfl) ?_
      refine g_iconst (q := 864) dL_law_863 rfl ⟨by decide, by decide⟩ ?_
      refine g_fnS (as := [zI (zShr w 3), zI 2]) (q := 867) (u' := 500 * n + 13) dL_law_864 rfl ck_L_125 rfl rfl (Nat.le_of_ble_eq_true rfl) ⟨Nat.le_of_ble_eq_true rfl, Nat.le_of_ble_eq_true rfl⟩ rfl (show 500 * n + 13 ≤ 100000 by omega) (s_L_low (by omega)) rfl ?_
      refine g_iast (q := 868) dL_law_867 rfl ⟨by decide, rfl, rfl⟩ (by omega) (by omega) ?_
      refine g_aload_n (i := 3) (q := 869) dL_law_868 rfl rfl rfl ?_
      refine g_bipush (q := 871) dL_law_869 rfl ⟨by decide, by decide⟩ (by decide) ?_
      refine g_iload (q := 873) dL_law_871 rfl rfl ?_
      refine g_iadd (q := 874) dL_law_873 rfl (by constructor <;> omega) ?_
      refine g_aload (q := 876) dL_law_874 rfl rfl ?_
      refine g_iconst (q := 877) dL_law_876 rfl ⟨by decide, by decide⟩ ?_
      refine g_ildv (q := 878) (z := S.1 0) dL_law_877 rfl ⟨by decide, rfl, rfl⟩ (by omega) (by omega) hnow ?_
      refine g_bipush (q := 880) dL_law_878 rfl ⟨by decide, by decide⟩ (by decide) ?_
      refine g_iadd (q := 881) dL_law_880 rfl (by constructor <;> omega) ?_
      refine g_iast (q := 882) dL_law_881 rfl ⟨by decide, rfl, rfl⟩ (by omega) (by omega) ?_
      refine g_goto (q := 0) (t := 3002) dL_law_882 (by decide) ?_
      exact g_forget (z_sub_r (z_sub_r (z_sub_r (z_sub_r (z_sub_r (z_sub_r (z_sub_r (z_sub_r (z_sub_r (z_sub_r (z_sub_r (z_sub_r (z_sub_r (z_sub_r (z_sub_r (z_sub_n (z_sub_n (z_sub_n (z_sub_r (z_sub_n (z_sub_n (z_sub_n (z_sub_n (z_sub_n (z_sub_n (z_sub_n (z_sub_n (z_sub_n (z_sub_n (z_sub_n (z_sub_n (z_sub_n (z_sub_n (z_sub_n (z_sub_n (z_sub_n (z_sub_n (z_sub_n (z_sub_n (z_sub_n (z_sub_n (z_sub_n (z_sub_n (z_sub_n (z_sub_n (z_sub_n (z_sub_n (z_sub_n (z_sub_n (z_sub_n z_sub_0)))))))))))))))))))))))))))))))))))))))))))))))))) (z_G.widen (by omega) (hK _ hN))
  refine g_iload (q := 789) dL_law_787 rfl rfl ?_
  refine g_iconst (q := 790) dL_law_789 rfl ⟨by decide, by decide⟩ ?_
  refine g_iandv (q := 791) (z := zAnd w 2) dL_law_790 rfl (rfl) ?_
  refine g_if_le (t := 797) (q := 794) dL_law_791 (by decide) rfl (fun h791 => ?_) (fun h791 => ?_)
  · exact k0
  · refine g_goto (q := 0) (t := 3002) dL_law_794 (by decide) ?_
    exact g_forget (z_sub_r (z_sub_r (z_sub_r (z_sub_r (z_sub_r (z_sub_r (z_sub_r (z_sub_r (z_sub_r (z_sub_r (z_sub_r (z_sub_r (z_sub_r (z_sub_r (z_sub_r (z_sub_n (z_sub_n (z_sub_n (z_sub_r (z_sub_n (z_sub_n (z_sub_n (z_sub_n (z_sub_n (z_sub_n (z_sub_n (z_sub_n (z_sub_n (z_sub_n (z_sub_n (z_sub_n (z_sub_n (z_sub_n (z_sub_n (z_sub_n (z_sub_n (z_sub_n (z_sub_n (z_sub_n (z_sub_n (z_sub_n (z_sub_n (z_sub_n (z_sub_n (z_sub_n (z_sub_n (z_sub_n (z_sub_n (z_sub_n (z_sub_n z_sub_0)))))))))))))))))))))))))))))))))))))))))))))))))) (z_G.widen (by omega) (hK _ hI.same))
theorem lc_emer (hI : zInv n S) (hn : n < 150) (hi : 0 ≤ i ∧ i < 12) (hK : ∀ U, zInv (n + 1) U → z_G (mLw hh) F (500 * n + 60) 3002 [some (zR 49), some (zR 0), some (zR 7), some (zR 40), some (zR 41), some (zR 42), some (zR 43), some (zR 44), some (zR 48), some (zR 45), some (zR 46), some (zR 47), some (zI (n : Int)), some (zI v), some (zI w), none, none, none, some (zI 1), none, none, none, none, none, none, none, none, none, none, none, none, none, none, none, none, none, none, none, none, none, none, none, none, none, none, none, none, none, none, none] [] U) : z_G (mLw hh) F (500 * n + 10) 885 [some (zR 49), some (zR 0), some (zR 7), some (zR 40), some (zR 41), some (zR 42), some (zR 43), some (zR 44), some (zR 48), some (zR 45), some (zR 46), some (zR 47), some (zI (n : Int)), some (zI v), some (zI w), some (zI i), some (zI (zdg i)), some (zI f), some (zI 1), none, none, none, none, none, none, none, none, none, none, none, none, none, none, none, none, none, none, none, none, none, none, none, none, none, none, none, none, none, none, none] [] S := by
  have h := hI.1
  have hnow := h.now
  have hnr := h.nowr
  by_cases c : S.2.1 40 i = -1
  · have q := q_emer_ex h hi c
    refine g_aload_n (i := 1) (q := 886) dL_law_885 rfl rfl rfl ?_
    refine g_iload (q := 888) dL_law_886 rfl rfl ?_
    refine g_fnW (as := [zR 0, zI (zdg i)]) (q := 891) (u' := 500 * n + 12) dL_law_888 rfl ck_L_194 rfl rfl (Nat.le_of_ble_eq_true rfl) ⟨Nat.le_of_ble_eq_true rfl, Nat.le_of_ble_eq_true rfl⟩ rfl (show 500 * n + 12 ≤ 100000 by omega) (q) ?_
    refine g_aload_n (i := 3) (q := 892) dL_law_891 rfl rfl rfl ?_
    refine g_iload (q := 894) dL_law_892 rfl rfl ?_
    refine g_ildv (q := 895) (z := S.2.1 40 i) dL_law_894 rfl ⟨by decide, rfl, rfl⟩ (by omega) (by omega) rfl ?_
    refine g_iconst (q := 896) dL_law_895 rfl ⟨by decide, by decide⟩ ?_
    refine g_icmp_ne (t := 905) (q := 899) dL_law_896 (by decide) rfl (fun h896 => (False.elim (by omega))) (fun h896 => ?_)
    refine g_sipush (q := 902) dL_law_899 rfl ⟨by decide, by decide⟩ (by decide) ?_
    refine g_goto (q := 0) (t := 912) dL_law_902 (by decide) ?_
    refine g_icmp_ne (t := 919) (q := 915) dL_law_912 (by decide) rfl (fun h912 => (False.elim (by omega))) (fun h912 => ?_)
    refine g_iconst (q := 916) dL_law_915 rfl ⟨by decide, by decide⟩ ?_
    refine g_goto (q := 0) (t := 920) dL_law_916 (by decide) ?_
    refine g_istore (q := 922) dL_law_920 rfl (Nat.le_of_ble_eq_true rfl) ?_
    refine g_aload_n (i := 3) (q := 923) dL_law_922 rfl rfl rfl ?_
    refine g_bipush (q := 925) dL_law_923 rfl ⟨by decide, by decide⟩ (by decide) ?_
    refine g_iload (q := 927) dL_law_925 rfl rfl ?_
    refine g_iadd (q := 928) dL_law_927 rfl (by constructor <;> omega) ?_
    refine g_aload_n (i := 3) (q := 929) dL_law_928 rfl rfl rfl ?_
    refine g_iload (q := 931) dL_law_929 rfl rfl ?_
    refine g_ildv (q := 932) (z := S.2.1 40 i) dL_law_931 rfl ⟨by decide, rfl, rfl⟩ (by omega) (by omega) rfl ?_
    refine g_iconst (q := 933) dL_law_932 rfl ⟨by decide, by decide⟩ ?_
    refine g_icmp_ne (t := 946) (q := 936) dL_law_933 (by decide) rfl (fun h933 => (False.elim (by omega))) (fun h933 => ?_)
    refine g_aload_n (i := 3) (q := 937) dL_law_936 rfl rfl rfl ?_
    refine g_bipush (q := 939) dL_law_937 rfl ⟨by decide, by decide⟩ (by decide) ?_
    refine g_iload (q := 941) dL_law_939 rfl rfl ?_
    refine g_iadd (q := 942) dL_law_941 rfl (by constructor <;> omega) ?_
    refine g_ildv (q := 943) (z := S.2.1 40 (48 + i)) dL_law_942 rfl ⟨by decide, rfl, rfl⟩ (by omega) (by omega) rfl ?_
    refine g_goto (q := 0) (t := 953) dL_law_943 (by decide) ?_
    refine g_iast (q := 954) dL_law_953 rfl ⟨by decide, rfl, rfl⟩ (by omega) (by omega) ?_
    refine g_goto (q := 0) (t := 3002) dL_law_954 (by decide) ?_
    rw [za_id]
    exact g_forget (z_sub_r (z_sub_r (z_sub_r (z_sub_r (z_sub_r (z_sub_r (z_sub_r (z_sub_r (z_sub_r (z_sub_r (z_sub_r (z_sub_r (z_sub_r (z_sub_r (z_sub_r (z_sub_n (z_sub_n (z_sub_n (z_sub_r (z_sub_n (z_sub_n (z_sub_n (z_sub_n (z_sub_n (z_sub_n (z_sub_n (z_sub_n (z_sub_n (z_sub_n (z_sub_n (z_sub_n (z_sub_n (z_sub_n (z_sub_n (z_sub_n (z_sub_n (z_sub_n (z_sub_n (z_sub_n (z_sub_n (z_sub_n (z_sub_n (z_sub_n (z_sub_n (z_sub_n (z_sub_n (z_sub_n (z_sub_n (z_sub_n (z_sub_n z_sub_0)))))))))))))))))))))))))))))))))))))))))))))))))) (z_G.widen (by omega) (hK _ hI.same))
  · have q := q_emer_ok h hi c
    have r1 := rel_call h hi (v := S.2.1 47 0 + 30)
    have r := r1.both (U := z_sA (z_sA S 17 (zdg i) (S.2.1 47 0 + 30)) 40 (48 + i) (S.2.1 47 0 + 30)) (zcl_w zcl.rf (by omega)) (zlw_w (zlw_c zlw.rf (by omega)))
    have hN : zInv (n + 1) (z_sA (z_sA S 17 (zdg i) (S.2.1 47 0 + 30)) 40 (48 + i) (S.2.1 47 0 + 30)) := hI.next r (Int.le_refl _) (by show S.1 3 ≤ S.1 3 + 1 + (S.1 2 - S.1 2); omega) rfl hI.2.2.2
    refine g_aload_n (i := 1) (q := 886) dL_law_885 rfl rfl rfl ?_
    refine g_iload (q := 888) dL_law_886 rfl rfl ?_
    refine g_fnW (as := [zR 0, zI (zdg i)]) (q := 891) (u' := 500 * n + 12) dL_law_888 rfl ck_L_194 rfl rfl (Nat.le_of_ble_eq_true rfl) ⟨Nat.le_of_ble_eq_true rfl, Nat.le_of_ble_eq_true rfl⟩ rfl (show 500 * n + 12 ≤ 100000 by omega) (q) ?_
    refine g_aload_n (i := 3) (q := 892) dL_law_891 rfl rfl rfl ?_
    refine g_iload (q := 894) dL_law_892 rfl rfl ?_
    refine g_ildv (q := 895) (z := S.2.1 40 i) dL_law_894 rfl ⟨by decide, rfl, rfl⟩ (by omega) (by omega) rfl ?_
    refine g_iconst (q := 896) dL_law_895 rfl ⟨by decide, by decide⟩ ?_
    refine g_icmp_ne (t := 905) (q := 899) dL_law_896 (by decide) rfl (fun h896 => ?_) (fun h896 => (False.elim (by omega)))
    refine g_aload (q := 907) dL_law_905 rfl rfl ?_
    refine g_iconst (q := 908) dL_law_907 rfl ⟨by decide, by decide⟩ ?_
    refine g_ildv (q := 909) (z := S.2.1 47 0) dL_law_908 rfl ⟨by decide, rfl, rfl⟩ (by omega) (by omega) rfl ?_
    refine g_bipush (q := 911) dL_law_909 rfl ⟨by decide, by decide⟩ (by decide) ?_
    refine g_iadd (q := 912) dL_law_911 rfl (by constructor <;> omega) ?_
    refine g_icmp_ne (t := 919) (q := 915) dL_law_912 (by decide) rfl (fun h912 => (False.elim (by omega))) (fun h912 => ?_)
    refine g_iconst (q := 916) dL_law_915 rfl ⟨by decide, by decide⟩ ?_
    refine g_goto (q := 0) (t := 920) dL_law_916 (by decide) ?_
    refine g_istore (q := 922) dL_law_920 rfl (Nat.le_of_ble_eq_true rfl) ?_
    refine g_aload_n (i := 3) (q := 923) dL_law_922 rfl rfl rfl ?_
    refine g_bipush (q := 925) dL_law_923 rfl ⟨by decide, by decide⟩ (by decide) ?_
    refine g_iload (q := 927) dL_law_925 rfl rfl ?_
    refine g_iadd (q := 928) dL_law_927 rfl (by constructor <;> omega) ?_
    refine g_aload_n (i := 3) (q := 929) dL_law_928 rfl rfl rfl ?_
    refine g_iload (q := 931) dL_law_929 rfl rfl ?_
    refine g_ildv (q := 932) (z := S.2.1 40 i) dL_law_931 rfl ⟨by decide, rfl, rfl⟩ (by omega) (by omega) rfl ?_
    refine g_iconst (q := 933) dL_law_932 rfl ⟨by decide, by decide⟩ ?_
    refine g_icmp_ne (t := 946) (q := 936) dL_law_933 (by decide) rfl (fun h933 => ?_) (fun h933 => (False.elim (by omega)))
    refine g_aload (q := 948) dL_law_946 rfl rfl ?_
    refine g_iconst (q := 949) dL_law_948 rfl ⟨by decide, by decide⟩ ?_
    refine g_ildv (q := 950) (z := S.2.1 47 0) dL_law_949 rfl ⟨by decide, rfl, rfl⟩ (by omega) (by omega) rfl ?_
    refine g_bipush (q := 952) dL_law_950 rfl ⟨by decide, by decide⟩ (by decide) ?_
    refine g_iadd (q := 953) dL_law_952 rfl (by constructor <;> omega) ?_
    refine g_iast (q := 954) dL_law_953 rfl ⟨by decide, rfl, rfl⟩ (by omega) (by omega) ?_
    refine g_goto (q := 0) (t := 3002) dL_law_954 (by decide) ?_
    exact g_forget (z_sub_r (z_sub_r (z_sub_r (z_sub_r (z_sub_r (z_sub_r (z_sub_r (z_sub_r (z_sub_r (z_sub_r (z_sub_r (z_sub_r (z_sub_r (z_sub_r (z_sub_r (z_sub_n (z_sub_n (z_sub_n (z_sub_r (z_sub_n (z_sub_n (z_sub_n (z_sub_n (z_sub_n (z_sub_n (z_sub_n (z_sub_n (z_sub_n (z_sub_n (z_sub_n (z_sub_n (z_sub_n (z_sub_n (z_sub_n (z_sub_n (z_sub_n (z_sub_n (z_sub_n (z_sub_n (z_sub_n (z_sub_n (z_sub_n (z_sub_n (z_sub_n (z_sub_n (z_sub_n (z_sub_n (z_sub_n (z_sub_n (z_sub_n z_sub_0)))))))))))))))))))))))))))))))))))))))))))))))))) (z_G.widen (by omega) (hK _ hN))
theorem lc_lag (hI : zInv n S) (hn : n < 150) (hf : 0 ≤ f ∧ f < 6) (hK : ∀ U, zInv (n + 1) U → z_G (mLw hh) F (500 * n + 60) 3002 [some (zR 49), some (zR 0), some (zR 7), some (zR 40), some (zR 41), some (zR 42), some (zR 43), some (zR 44), some (zR 48), some (zR 45), some (zR 46), some (zR 47), some (zI (n : Int)), some (zI v), some (zI w), none, none, none, some (zI 1), none, none, none, none, none, none, none, none, none, none, none, none, none, none, none, none, none, none, none, none, none, none, none, none, none, none, none, none, none, none, none] [] U) : z_G (mLw hh) F (500 * n + 10) 1352 [some (zR 49), some (zR 0), some (zR 7), some (zR 40), some (zR 41), some (zR 42), some (zR 43), some (zR 44), some (zR 48), some (zR 45), some (zR 46), some (zR 47), some (zI (n : Int)), some (zI v), some (zI w), some (zI i), some (zI (zdg i)), some (zI f), some (zI 1), none, none, none, none, none, none, none, none, none, none, none, none, none, none, none, none, none, none, none, none, none, none, none, none, none, none, none, none, none, none, none] [] S := by
  have h := hI.1
  have hb := hI.ab (by omega)
  have hw := h.word hb hf
  have hfi := h.firm f hf.1 hf.2
  have hfl := h.flag f hf.1 hf.2
  have hl := zlow_rng (v := w) (n := 51) (by omega)
  have q := q_setLag (S := S) hf (g := zlow w 51) (by omega)
  have ew : zAnd (S.2.1 46 f) (-64) = S.2.1 46 f / 64 * 64 := by
    rw [zAnd_c (c := -64) 0 6 63 1 64 (by decide) (by decide) (by decide) (by decide) (by decide) hw.1.1 hw.1.2]
    omega
  have r1 := rel_lag h hf (v := zlow w 51) (w := S.2.1 46 f / 64 * 64 + zlow w 51) (by omega) (by omega)
  have r := r1.both (U := z_sA (z_sA S 11 f (zlow w 51)) 46 f (S.2.1 46 f / 64 * 64 + zlow w 51)) (zcl_w zcl.rf (by omega)) (zlw_w (zlw_c zlw.rf (by omega)))
  have hN : zInv (n + 1) (z_sA (z_sA S 11 f (zlow w 51)) 46 f (S.2.1 46 f / 64 * 64 + zlow w 51)) := hI.next r (Int.le_refl _) (by show S.1 3 ≤ S.1 3 + 1 + (S.1 2 - S.1 2); omega) rfl hI.2.2.2
  refine g_iload (q := 1354) dL_law_1352 rfl rfl ?_
  refine g_bipush (q := 1356) dL_law_1354 rfl ⟨by decide, by decide⟩ (by decide) ?_
  refine g_fnS (as := [zI w, zI 51]) (q := 1359) (u' := 500 * n + 10) dL_law_1356 rfl ck_L_125 rfl rfl (Nat.le_of_ble_eq_true rfl) ⟨Nat.le_of_ble_eq_true rfl, Nat.le_of_ble_eq_true rfl⟩ rfl (show 500 * n + 10 ≤ 100000 by omega) (s_L_low (by omega)) rfl ?_
  refine g_istore (q := 1361) dL_law_1359 rfl (Nat.le_of_ble_eq_true rfl) ?_
  refine g_aload_n (i := 1) (q := 1362) dL_law_1361 rfl rfl rfl ?_
  refine g_iload (q := 1364) dL_law_1362 rfl rfl ?_
  refine g_iload (q := 1366) dL_law_1364 rfl rfl ?_
  refine g_fnW (as := [zR 0, zI f, zI (zlow w 51)]) (q := 1369) (u' := 500 * n + 12) dL_law_1366 rfl ck_L_202 rfl rfl (Nat.le_of_ble_eq_true rfl) ⟨Nat.le_of_ble_eq_true rfl, Nat.le_of_ble_eq_true rfl⟩ rfl (show 500 * n + 12 ≤ 100000 by omega) (q) ?_
  refine g_aload (q := 1371) dL_law_1369 rfl rfl ?_
  refine g_iload (q := 1373) dL_law_1371 rfl rfl ?_
  refine g_ildv (q := 1374) (z := S.2.1 46 f) dL_law_1373 rfl ⟨by decide, rfl, rfl⟩ (by omega) (by omega) rfl ?_
  refine g_bipush (q := 1376) dL_law_1374 rfl ⟨by decide, by decide⟩ (by decide) ?_
  refine g_iandv (q := 1377) (z := (S.2.1 46 f) % 64) dL_law_1376 rfl (zAnd_m 6 (by decide) (by decide) (by omega) (by omega)) ?_
  refine g_icmp_ne (t := 1384) (q := 1380) dL_law_1377 (by decide) rfl (fun h1377 => (False.elim (by omega))) (fun h1377 => ?_)
  refine g_iconst (q := 1381) dL_law_1380 rfl ⟨by decide, by decide⟩ ?_
  refine g_goto (q := 0) (t := 1385) dL_law_1381 (by decide) ?_
  refine g_istore (q := 1387) dL_law_1385 rfl (Nat.le_of_ble_eq_true rfl) ?_
  refine g_aload (q := 1389) dL_law_1387 rfl rfl ?_
  refine g_iload (q := 1391) dL_law_1389 rfl rfl ?_
  refine g_aload (q := 1393) dL_law_1391 rfl rfl ?_
  refine g_iload (q := 1395) dL_law_1393 rfl rfl ?_
  refine g_ildv (q := 1396) (z := S.2.1 46 f) dL_law_1395 rfl ⟨by decide, rfl, rfl⟩ (by omega) (by omega) rfl ?_
  refine g_bipush (q := 1398) dL_law_1396 rfl ⟨by decide, by decide⟩ (by decide) ?_
  refine g_iandv (q := 1399) (z := S.2.1 46 f / 64 * 64) dL_law_1398 rfl (ew) ?_
  refine g_iload (q := 1401) dL_law_1399 rfl rfl ?_
  refine g_iorv (q := 1402) (z := S.2.1 46 f / 64 * 64 + zlow w 51) dL_law_1401 rfl (zOr_p (p := 64) 6 (by decide) (by omega) (by omega) (by omega) (by omega) (by omega)) ?_
  refine g_iast (q := 1403) dL_law_1402 rfl ⟨by decide, rfl, rfl⟩ (by omega) (by omega) ?_
  refine g_goto (q := 0) (t := 3002) dL_law_1403 (by decide) ?_
  exact g_forget (z_sub_r (z_sub_r (z_sub_r (z_sub_r (z_sub_r (z_sub_r (z_sub_r (z_sub_r (z_sub_r (z_sub_r (z_sub_r (z_sub_r (z_sub_r (z_sub_r (z_sub_r (z_sub_n (z_sub_n (z_sub_n (z_sub_r (z_sub_n (z_sub_n (z_sub_n (z_sub_n (z_sub_n (z_sub_n (z_sub_n (z_sub_n (z_sub_n (z_sub_n (z_sub_n (z_sub_n (z_sub_n (z_sub_n (z_sub_n (z_sub_n (z_sub_n (z_sub_n (z_sub_n (z_sub_n (z_sub_n (z_sub_n (z_sub_n (z_sub_n (z_sub_n (z_sub_n (z_sub_n (z_sub_n (z_sub_n (z_sub_n (z_sub_n z_sub_0)))))))))))))))))))))))))))))))))))))))))))))))))) (z_G.widen (by omega) (hK _ hN))
theorem lc_down (hI : zInv n S) (hn : n < 150) (hf : 0 ≤ f ∧ f < 6) (hK : ∀ U, zInv (n + 1) U → z_G (mLw hh) F (500 * n + 60) 3002 [some (zR 49), some (zR 0), some (zR 7), some (zR 40), some (zR 41), some (zR 42), some (zR 43), some (zR 44), some (zR 48), some (zR 45), some (zR 46), some (zR 47), some (zI (n : Int)), some (zI v), some (zI w), none, none, none, some (zI 1), none, none, none, none, none, none, none, none, none, none, none, none, none, none, none, none, none, none, none, none, none, none, none, none, none, none, none, none, none, none, none] [] U) : z_G (mLw hh) F (500 * n + 10) 1406 [some (zR 49), some (zR 0), some (zR 7), some (zR 40), some (zR 41), some (zR 42), some (zR 43), some (zR 44), some (zR 48), some (zR 45), some (zR 46), some (zR 47), some (zI (n : Int)), some (zI v), some (zI w), some (zI i), some (zI (zdg i)), some (zI f), some (zI 1), none, none, none, none, none, none, none, none, none, none, none, none, none, none, none, none, none, none, none, none, none, none, none, none, none, none, none, none, none, none, none] [] S := by
  have h := hI.1
  have hb := hI.ab (by omega)
  have hw := h.word hb hf
  have hfi := h.firm f hf.1 hf.2
  have hfl := h.flag f hf.1 hf.2
  have hN : ∀ g x : Int, (g = 0 ∨ g = 1) → x = (S.2.1 12 f + 4096) * 1024 + S.2.1 9 f * 128 + g * 64 + S.2.1 11 f → zInv (n + 1) (z_sA (z_sA S 10 f g) 46 f x) := by
    intro g x hg hx
    have r := (rel_down h hf (v := g) (w := x) hg hx).both (U := z_sA (z_sA S 10 f g) 46 f x) (zcl_w zcl.rf (by omega)) (zlw_w (zlw_c zlw.rf (by omega)))
    exact hI.next r (Int.le_refl _) (by show S.1 3 ≤ S.1 3 + 1 + (S.1 2 - S.1 2); omega) rfl hI.2.2.2
  have ed : zAnd (S.2.1 46 f) (-65) = S.2.1 46 f - S.2.1 10 f * 64 := by
    rw [zAnd_c (c := -65) 6 1 64 64 128 (by decide) (by decide) (by decide) (by decide) (by decide) hw.1.1 hw.1.2]
    omega
  have eo : zOr (S.2.1 46 f) 64 = S.2.1 46 f + (1 - S.2.1 10 f) * 64 := by
    rcases hfl.2.1 with c | c
    · obtain ⟨a, ea⟩ := zb_nat hw.1.1
      have h1 : a ||| 64 = a + 64 := by
        have h2 := zf_and a 6 1
        have h3 : a &&& 64 = 0 := by
          rw [show (64 : Nat) = (2 ^ 1 - 1) * 2 ^ 6 by decide, h2]
          omega
        have h4 := Nat.and_or_distrib_left a 64 64
        apply Nat.eq_of_testBit_eq
        intro b
        rw [Nat.testBit_or]
        have e1 : a = a / 128 * 128 + a % 64 := by omega
        by_cases hb6 : b = 6
        · subst hb6
          have : (a + 64).testBit 6 = true := by
            rw [Nat.testBit_eq_decide_div_mod_eq]
            simp
            omega
          rw [this]
          simp [show Nat.testBit 64 6 = true by decide]
        · have h64 : Nat.testBit 64 b = false := by
            rw [show (64 : Nat) = 2 ^ 6 by decide, Nat.testBit_two_pow]
            simp
            omega
          rw [h64, Bool.or_false, Nat.testBit_eq_decide_div_mod_eq, Nat.testBit_eq_decide_div_mod_eq]
          congr 1
          by_cases hlt : b < 6
          · have : b = 0 ∨ b = 1 ∨ b = 2 ∨ b = 3 ∨ b = 4 ∨ b = 5 := by omega
            rcases this with rfl | rfl | rfl | rfl | rfl | rfl <;> simp <;> omega
          · have e2 : a / 128 = (a + 64) / 128 := by omega
            have e3 : ∀ y : Nat, y / 2 ^ b = y / 128 / 2 ^ (b - 7) := fun y => by
              rw [Nat.div_div_eq_div_mul, show (128 : Nat) = 2 ^ 7 by decide, ← Nat.pow_add, show 7 + (b - 7) = b by omega]
            rw [e3 a, e3 (a + 64), e2]
      rw [ea, show (64 : Int) = ((64 : Nat) : Int) by decide, zOr_n (by rw [h1]; omega), h1, c]
      omega
    · have h1 : zOr (S.2.1 46 f / 128 * 128 + 64 + S.2.1 46 f % 64) 64 = S.2.1 46 f := by
        obtain ⟨a, ea⟩ := zb_nat hw.1.1
        have h2 : a ||| 64 = a := by
          apply Nat.eq_of_testBit_eq
          intro b
          rw [Nat.testBit_or]
          by_cases hb6 : b = 6
          · subst hb6
            have : a.testBit 6 = true := by
              rw [Nat.testBit_eq_decide_div_mod_eq]
              simp
              omega
            rw [this, Bool.true_or]
          · have h64 : Nat.testBit 64 b = false := by
              rw [show (64 : Nat) = 2 ^ 6 by decide, Nat.testBit_two_pow]
              simp
              omega
            rw [h64, Bool.or_false]
        rw [show S.2.1 46 f / 128 * 128 + 64 + S.2.1 46 f % 64 = S.2.1 46 f by omega, ea, show (64 : Int) = ((64 : Nat) : Int) by decide, zOr_n (by rw [h2]; omega), h2]
      rw [show S.2.1 46 f / 128 * 128 + 64 + S.2.1 46 f % 64 = S.2.1 46 f by omega] at h1
      rw [h1, c]
      omega
  have k1 : z_G (mLw hh) F (500 * n + 10) 1419 [some (zR 49), some (zR 0), some (zR 7), some (zR 40), some (zR 41), some (zR 42), some (zR 43), some (zR 44), some (zR 48), some (zR 45), some (zR 46), some (zR 47), some (zI (n : Int)), some (zI v), some (zI w), some (zI i), some (zI (zdg i)), some (zI f), some (zI 1), none, none, none, none, none, none, none, none, none, none, none, none, none, none, none, none, none, none, none, none, none, none, none, none, none, none, none, none, none, none, none] [zI 1] S := by
    have q := q_setDown h hf (g := 1) (.inr rfl)
    have hx := hN 1 (S.2.1 46 f + (1 - S.2.1 10 f) * 64) (.inr rfl) (by omega)
    rcases hfl.2.1 with c | c
    · rw [c] at q hw hx eo
      refine g_istore (q := 1421) dL_law_1419 rfl (Nat.le_of_ble_eq_true rfl) ?_
      refine g_aload_n (i := 1) (q := 1422) dL_law_1421 rfl rfl rfl ?_
      refine g_iload (q := 1424) dL_law_1422 rfl rfl ?_
      refine g_iload (q := 1426) dL_law_1424 rfl rfl ?_
      refine g_fnW (as := [zR 0, zI f, zI 1]) (q := 1429) (u' := 500 * n + 11) dL_law_1426 rfl ck_L_204 rfl rfl (Nat.le_of_ble_eq_true rfl) ⟨Nat.le_of_ble_eq_true rfl, Nat.le_of_ble_eq_true rfl⟩ rfl (show 500 * n + 11 ≤ 100000 by omega) (q) ?_
      refine g_aload (q := 1431) dL_law_1429 rfl rfl ?_
      refine g_iload (q := 1433) dL_law_1431 rfl rfl ?_
      refine g_ildv (q := 1434) (z := S.2.1 46 f) dL_law_1433 rfl ⟨by decide, rfl, rfl⟩ (by omega) (by omega) rfl ?_
      refine g_fnS (as := [zI (S.2.1 46 f)]) (q := 1437) (u' := 500 * n + 11) dL_law_1434 rfl ck_L_104 rfl rfl (Nat.le_of_ble_eq_true rfl) ⟨Nat.le_of_ble_eq_true rfl, Nat.le_of_ble_eq_true rfl⟩ rfl (show 500 * n + 11 ≤ 100000 by omega) (s_L_isDown (by omega)) rfl ?_
      refine g_if_eq (t := 1444) (q := 1440) dL_law_1437 (by decide) rfl (fun h1437 => ?_) (fun h1437 => (False.elim (by omega)))
      refine g_iconst (q := 1445) dL_law_1444 rfl ⟨by decide, by decide⟩ ?_
      refine g_icmp_ne (t := 1452) (q := 1448) dL_law_1445 (by decide) rfl (fun h1445 => (False.elim (by omega))) (fun h1445 => ?_)
      refine g_iconst (q := 1449) dL_law_1448 rfl ⟨by decide, by decide⟩ ?_
      refine g_goto (q := 0) (t := 1453) dL_law_1449 (by decide) ?_
      refine g_istore (q := 1455) dL_law_1453 rfl (Nat.le_of_ble_eq_true rfl) ?_
      refine g_aload (q := 1457) dL_law_1455 rfl rfl ?_
      refine g_iload (q := 1459) dL_law_1457 rfl rfl ?_
      refine g_iload (q := 1461) dL_law_1459 rfl rfl ?_
      refine g_if_eq (t := 1475) (q := 1464) dL_law_1461 (by decide) rfl (fun h1461 => (False.elim (by omega))) (fun h1461 => ?_)
      refine g_aload (q := 1466) dL_law_1464 rfl rfl ?_
      refine g_iload (q := 1468) dL_law_1466 rfl rfl ?_
      refine g_ildv (q := 1469) (z := S.2.1 46 f) dL_law_1468 rfl ⟨by decide, rfl, rfl⟩ (by omega) (by omega) rfl ?_
      refine g_bipush (q := 1471) dL_law_1469 rfl ⟨by decide, by decide⟩ (by decide) ?_
      refine g_iorv (q := 1472) (z := S.2.1 46 f + (1 - 0) * 64) dL_law_1471 rfl (eo) ?_
      refine g_goto (q := 0) (t := 1483) dL_law_1472 (by decide) ?_
      refine g_iast (q := 1484) dL_law_1483 rfl ⟨by decide, rfl, rfl⟩ (by omega) (by omega) ?_
      refine g_goto (q := 0) (t := 3002) dL_law_1484 (by decide) ?_
      exact g_forget (z_sub_r (z_sub_r (z_sub_r (z_sub_r (z_sub_r (z_sub_r (z_sub_r (z_sub_r (z_sub_r (z_sub_r (z_sub_r (z_sub_r (z_sub_r (z_sub_r (z_sub_r (z_sub_n (z_sub_n (z_sub_n (z_sub_r (z_sub_n (z_sub_n (z_sub_n (z_sub_n (z_sub_n (z_sub_n (z_sub_n (z_sub_n (z_sub_n (z_sub_n (z_sub_n (z_sub_n (z_sub_n (z_sub_n (z_sub_n (z_sub_n (z_sub_n (z_sub_n (z_sub_n (z_sub_n (z_sub_n (z_sub_n (z_sub_n (z_sub_n (z_sub_n (z_sub_n (z_sub_n (z_sub_n (z_sub_n (z_sub_n (z_sub_n z_sub_0)))))))))))))))))))))))))))))))))))))))))))))))))) (z_G.widen (by omega) (hK _ hx))
    · rw [c] at q hw hx eo
      refine g_istore (q := 1421) dL_law_1419 rfl (Nat.le_of_ble_eq_true rfl) ?_
      refine g_aload_n (i := 1) (q := 1422) dL_law_1421 rfl rfl rfl ?_
      refine g_iload (q := 1424) dL_law_1422 rfl rfl ?_
      refine g_iload (q := 1426) dL_law_1424 rfl rfl ?_
      refine g_fnW (as := [zR 0, zI f, zI 1]) (q := 1429) (u' := 500 * n + 11) dL_law_1426 rfl ck_L_204 rfl rfl (Nat.le_of_ble_eq_true rfl) ⟨Nat.le_of_ble_eq_true rfl, Nat.le_of_ble_eq_true rfl⟩ rfl (show 500 * n + 11 ≤ 100000 by omega) (q) ?_
      refine g_aload (q := 1431) dL_law_1429 rfl rfl ?_
      refine g_iload (q := 1433) dL_law_1431 rfl rfl ?_
      refine g_ildv (q := 1434) (z := S.2.1 46 f) dL_law_1433 rfl ⟨by decide, rfl, rfl⟩ (by omega) (by omega) rfl ?_
      refine g_fnS (as := [zI (S.2.1 46 f)]) (q := 1437) (u' := 500 * n + 11) dL_law_1434 rfl ck_L_104 rfl rfl (Nat.le_of_ble_eq_true rfl) ⟨Nat.le_of_ble_eq_true rfl, Nat.le_of_ble_eq_true rfl⟩ rfl (show 500 * n + 11 ≤ 100000 by omega) (s_L_isDown (by omega)) rfl ?_
      refine g_if_eq (t := 1444) (q := 1440) dL_law_1437 (by decide) rfl (fun h1437 => (False.elim (by omega))) (fun h1437 => ?_)
      refine g_iconst (q := 1441) dL_law_1440 rfl ⟨by decide, by decide⟩ ?_
      refine g_goto (q := 0) (t := 1445) dL_law_1441 (by decide) ?_
      refine g_icmp_ne (t := 1452) (q := 1448) dL_law_1445 (by decide) rfl (fun h1445 => (False.elim (by omega))) (fun h1445 => ?_)
      refine g_iconst (q := 1449) dL_law_1448 rfl ⟨by decide, by decide⟩ ?_
      refine g_goto (q := 0) (t := 1453) dL_law_1449 (by decide) ?_
      refine g_istore (q := 1455) dL_law_1453 rfl (Nat.le_of_ble_eq_true rfl) ?_
      refine g_aload (q := 1457) dL_law_1455 rfl rfl ?_
      refine g_iload (q := 1459) dL_law_1457 rfl rfl ?_
      refine g_iload (q := 1461) dL_law_1459 rfl rfl ?_
      refine g_if_eq (t := 1475) (q := 1464) dL_law_1461 (by decide) rfl (fun h1461 => (False.elim (by omega))) (fun h1461 => ?_)
      refine g_aload (q := 1466) dL_law_1464 rfl rfl ?_
      refine g_iload (q := 1468) dL_law_1466 rfl rfl ?_
      refine g_ildv (q := 1469) (z := S.2.1 46 f) dL_law_1468 rfl ⟨by decide, rfl, rfl⟩ (by omega) (by omega) rfl ?_
      refine g_bipush (q := 1471) dL_law_1469 rfl ⟨by decide, by decide⟩ (by decide) ?_
      refine g_iorv (q := 1472) (z := S.2.1 46 f + (1 - 1) * 64) dL_law_1471 rfl (eo) ?_
      refine g_goto (q := 0) (t := 1483) dL_law_1472 (by decide) ?_
      refine g_iast (q := 1484) dL_law_1483 rfl ⟨by decide, rfl, rfl⟩ (by omega) (by omega) ?_
      refine g_goto (q := 0) (t := 3002) dL_law_1484 (by decide) ?_
      exact g_forget (z_sub_r (z_sub_r (z_sub_r (z_sub_r (z_sub_r (z_sub_r (z_sub_r (z_sub_r (z_sub_r (z_sub_r (z_sub_r (z_sub_r (z_sub_r (z_sub_r (z_sub_r (z_sub_n (z_sub_n (z_sub_n (z_sub_r (z_sub_n (z_sub_n (z_sub_n (z_sub_n (z_sub_n (z_sub_n (z_sub_n (z_sub_n (z_sub_n (z_sub_n (z_sub_n (z_sub_n (z_sub_n (z_sub_n (z_sub_n (z_sub_n (z_sub_n (z_sub_n (z_sub_n (z_sub_n (z_sub_n (z_sub_n (z_sub_n (z_sub_n (z_sub_n (z_sub_n (z_sub_n (z_sub_n (z_sub_n (z_sub_n (z_sub_n z_sub_0)))))))))))))))))))))))))))))))))))))))))))))))))) (z_G.widen (by omega) (hK _ hx))
  have k0 : z_G (mLw hh) F (500 * n + 10) 1419 [some (zR 49), some (zR 0), some (zR 7), some (zR 40), some (zR 41), some (zR 42), some (zR 43), some (zR 44), some (zR 48), some (zR 45), some (zR 46), some (zR 47), some (zI (n : Int)), some (zI v), some (zI w), some (zI i), some (zI (zdg i)), some (zI f), some (zI 1), none, none, none, none, none, none, none, none, none, none, none, none, none, none, none, none, none, none, none, none, none, none, none, none, none, none, none, none, none, none, none] [zI 0] S := by
    have q := q_setDown h hf (g := 0) (.inl rfl)
    have hx := hN 0 (S.2.1 46 f - S.2.1 10 f * 64) (.inl rfl) (by omega)
    rcases hfl.2.1 with c | c
    · rw [c] at q hw hx ed
      refine g_istore (q := 1421) dL_law_1419 rfl (Nat.le_of_ble_eq_true rfl) ?_
      refine g_aload_n (i := 1) (q := 1422) dL_law_1421 rfl rfl rfl ?_
      refine g_iload (q := 1424) dL_law_1422 rfl rfl ?_
      refine g_iload (q := 1426) dL_law_1424 rfl rfl ?_
      refine g_fnW (as := [zR 0, zI f, zI 0]) (q := 1429) (u' := 500 * n + 11) dL_law_1426 rfl ck_L_204 rfl rfl (Nat.le_of_ble_eq_true rfl) ⟨Nat.le_of_ble_eq_true rfl, Nat.le_of_ble_eq_true rfl⟩ rfl (show 500 * n + 11 ≤ 100000 by omega) (q) ?_
      refine g_aload (q := 1431) dL_law_1429 rfl rfl ?_
      refine g_iload (q := 1433) dL_law_1431 rfl rfl ?_
      refine g_ildv (q := 1434) (z := S.2.1 46 f) dL_law_1433 rfl ⟨by decide, rfl, rfl⟩ (by omega) (by omega) rfl ?_
      refine g_fnS (as := [zI (S.2.1 46 f)]) (q := 1437) (u' := 500 * n + 11) dL_law_1434 rfl ck_L_104 rfl rfl (Nat.le_of_ble_eq_true rfl) ⟨Nat.le_of_ble_eq_true rfl, Nat.le_of_ble_eq_true rfl⟩ rfl (show 500 * n + 11 ≤ 100000 by omega) (s_L_isDown (by omega)) rfl ?_
      refine g_if_eq (t := 1444) (q := 1440) dL_law_1437 (by decide) rfl (fun h1437 => ?_) (fun h1437 => (False.elim (by omega)))
      refine g_iconst (q := 1445) dL_law_1444 rfl ⟨by decide, by decide⟩ ?_
      refine g_icmp_ne (t := 1452) (q := 1448) dL_law_1445 (by decide) rfl (fun h1445 => (False.elim (by omega))) (fun h1445 => ?_)
      refine g_iconst (q := 1449) dL_law_1448 rfl ⟨by decide, by decide⟩ ?_
      refine g_goto (q := 0) (t := 1453) dL_law_1449 (by decide) ?_
      refine g_istore (q := 1455) dL_law_1453 rfl (Nat.le_of_ble_eq_true rfl) ?_
      refine g_aload (q := 1457) dL_law_1455 rfl rfl ?_
      refine g_iload (q := 1459) dL_law_1457 rfl rfl ?_
      refine g_iload (q := 1461) dL_law_1459 rfl rfl ?_
      refine g_if_eq (t := 1475) (q := 1464) dL_law_1461 (by decide) rfl (fun h1461 => ?_) (fun h1461 => (False.elim (by omega)))
      refine g_aload (q := 1477) dL_law_1475 rfl rfl ?_
      refine g_iload (q := 1479) dL_law_1477 rfl rfl ?_
      refine g_ildv (q := 1480) (z := S.2.1 46 f) dL_law_1479 rfl ⟨by decide, rfl, rfl⟩ (by omega) (by omega) rfl ?_
      refine g_bipush (q := 1482) dL_law_1480 rfl ⟨by decide, by decide⟩ (by decide) ?_
      refine g_iandv (q := 1483) (z := S.2.1 46 f - 0 * 64) dL_law_1482 rfl (ed) ?_
      refine g_iast (q := 1484) dL_law_1483 rfl ⟨by decide, rfl, rfl⟩ (by omega) (by omega) ?_
      refine g_goto (q := 0) (t := 3002) dL_law_1484 (by decide) ?_
      exact g_forget (z_sub_r (z_sub_r (z_sub_r (z_sub_r (z_sub_r (z_sub_r (z_sub_r (z_sub_r (z_sub_r (z_sub_r (z_sub_r (z_sub_r (z_sub_r (z_sub_r (z_sub_r (z_sub_n (z_sub_n (z_sub_n (z_sub_r (z_sub_n (z_sub_n (z_sub_n (z_sub_n (z_sub_n (z_sub_n (z_sub_n (z_sub_n (z_sub_n (z_sub_n (z_sub_n (z_sub_n (z_sub_n (z_sub_n (z_sub_n (z_sub_n (z_sub_n (z_sub_n (z_sub_n (z_sub_n (z_sub_n (z_sub_n (z_sub_n (z_sub_n (z_sub_n (z_sub_n (z_sub_n (z_sub_n (z_sub_n (z_sub_n (z_sub_n z_sub_0)))))))))))))))))))))))))))))))))))))))))))))))))) (z_G.widen (by omega) (hK _ hx))
    · rw [c] at q hw hx ed
      refine g_istore (q := 1421) dL_law_1419 rfl (Nat.le_of_ble_eq_true rfl) ?_
      refine g_aload_n (i := 1) (q := 1422) dL_law_1421 rfl rfl rfl ?_
      refine g_iload (q := 1424) dL_law_1422 rfl rfl ?_
      refine g_iload (q := 1426) dL_law_1424 rfl rfl ?_
      refine g_fnW (as := [zR 0, zI f, zI 0]) (q := 1429) (u' := 500 * n + 11) dL_law_1426 rfl ck_L_204 rfl rfl (Nat.le_of_ble_eq_true rfl) ⟨Nat.le_of_ble_eq_true rfl, Nat.le_of_ble_eq_true rfl⟩ rfl (show 500 * n + 11 ≤ 100000 by omega) (q) ?_
      refine g_aload (q := 1431) dL_law_1429 rfl rfl ?_
      refine g_iload (q := 1433) dL_law_1431 rfl rfl ?_
      refine g_ildv (q := 1434) (z := S.2.1 46 f) dL_law_1433 rfl ⟨by decide, rfl, rfl⟩ (by omega) (by omega) rfl ?_
      refine g_fnS (as := [zI (S.2.1 46 f)]) (q := 1437) (u' := 500 * n + 11) dL_law_1434 rfl ck_L_104 rfl rfl (Nat.le_of_ble_eq_true rfl) ⟨Nat.le_of_ble_eq_true rfl, Nat.le_of_ble_eq_true rfl⟩ rfl (show 500 * n + 11 ≤ 100000 by omega) (s_L_isDown (by omega)) rfl ?_
      refine g_if_eq (t := 1444) (q := 1440) dL_law_1437 (by decide) rfl (fun h1437 => (False.elim (by omega))) (fun h1437 => ?_)
      refine g_iconst (q := 1441) dL_law_1440 rfl ⟨by decide, by decide⟩ ?_
      refine g_goto (q := 0) (t := 1445) dL_law_1441 (by decide) ?_
      refine g_icmp_ne (t := 1452) (q := 1448) dL_law_1445 (by decide) rfl (fun h1445 => (False.elim (by omega))) (fun h1445 => ?_)
      refine g_iconst (q := 1449) dL_law_1448 rfl ⟨by decide, by decide⟩ ?_
      refine g_goto (q := 0) (t := 1453) dL_law_1449 (by decide) ?_
      refine g_istore (q := 1455) dL_law_1453 rfl (Nat.le_of_ble_eq_true rfl) ?_
      refine g_aload (q := 1457) dL_law_1455 rfl rfl ?_
      refine g_iload (q := 1459) dL_law_1457 rfl rfl ?_
      refine g_iload (q := 1461) dL_law_1459 rfl rfl ?_
      refine g_if_eq (t := 1475) (q := 1464) dL_law_1461 (by decide) rfl (fun h1461 => ?_) (fun h1461 => (False.elim (by omega)))
      refine g_aload (q := 1477) dL_law_1475 rfl rfl ?_
      refine g_iload (q := 1479) dL_law_1477 rfl rfl ?_
      refine g_ildv (q := 1480) (z := S.2.1 46 f) dL_law_1479 rfl ⟨by decide, rfl, rfl⟩ (by omega) (by omega) rfl ?_
      refine g_bipush (q := 1482) dL_law_1480 rfl ⟨by decide, by decide⟩ (by decide) ?_
      refine g_iandv (q := 1483) (z := S.2.1 46 f - 1 * 64) dL_law_1482 rfl (ed) ?_
      refine g_iast (q := 1484) dL_law_1483 rfl ⟨by decide, rfl, rfl⟩ (by omega) (by omega) ?_
      refine g_goto (q := 0) (t := 3002) dL_law_1484 (by decide) ?_
      exact g_forget (z_sub_r (z_sub_r (z_sub_r (z_sub_r (z_sub_r (z_sub_r (z_sub_r (z_sub_r (z_sub_r (z_sub_r (z_sub_r (z_sub_r (z_sub_r (z_sub_r (z_sub_r (z_sub_n (z_sub_n (z_sub_n (z_sub_r (z_sub_n (z_sub_n (z_sub_n (z_sub_n (z_sub_n (z_sub_n (z_sub_n (z_sub_n (z_sub_n (z_sub_n (z_sub_n (z_sub_n (z_sub_n (z_sub_n (z_sub_n (z_sub_n (z_sub_n (z_sub_n (z_sub_n (z_sub_n (z_sub_n (z_sub_n (z_sub_n (z_sub_n (z_sub_n (z_sub_n (z_sub_n (z_sub_n (z_sub_n (z_sub_n (z_sub_n z_sub_0)))))))))))))))))))))))))))))))))))))))))))))))))) (z_G.widen (by omega) (hK _ hx))
  refine g_iload (q := 1408) dL_law_1406 rfl rfl ?_
  refine g_bipush (q := 1410) dL_law_1408 rfl ⟨by decide, by decide⟩ (by decide) ?_
  refine g_iandv (q := 1411) (z := zAnd w 6) dL_law_1410 rfl (rfl) ?_
  refine g_if_ne (t := 1418) (q := 1414) dL_law_1411 (by decide) rfl (fun h1411 => ?_) (fun h1411 => ?_)
  · refine g_iconst (q := 1419) dL_law_1418 rfl ⟨by decide, by decide⟩ ?_
    first | exact k1 | exact k0
  · refine g_iconst (q := 1415) dL_law_1414 rfl ⟨by decide, by decide⟩ ?_
    refine g_goto (q := 0) (t := 1419) dL_law_1415 (by decide) ?_
    first | exact k1 | exact k0
end
