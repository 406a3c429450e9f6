/-! ===== the law's loop ===== -/
theorem zInv.rt {n : Nat} {S U : zS} (h : zInv n S) (g : zRt S U) : zInv n U := by
  refine ⟨h.1.rt g, fun f a b => ?_, ?_, ?_⟩
  · rw [g.2.1 12 (by omega), g.1 2 (by omega)]
    exact h.2.1 f a b
  · rw [g.1 2 (by omega), g.1 3 (by omega)]
    exact h.2.2.1
  · rw [g.1 2 (by omega)]
    exact h.2.2.2
section
variable {hh : List (Nat × Nat × Nat × Nat)} {F : zF}
theorem lc_told {n : Nat} {S : zS} {v w : Int} (hn : n < 150) (hI : zInv (n + 1) S) (hK : ∀ U, zInv (n + 1) U → z_G (mLw hh) F (500 * (n + 1)) 194 [some (zR 49), some (zR 0), some (zR 7), some (zR 40), some (zR 41), some (zR 42), some (zR 43), some (zR 44), some (zR 48), some (zR 45), some (zR 46), some (zR 47), some (zI ((n + 1 : Nat) : Int)), none, none, none, none, none, none, none, none, none, none, none, none, none, none, none, none, none, none, none, none, none, none, none, none, none, none, none, none, none, none, none, none, none, none, none, none, none] [] U) : z_G (mLw hh) F (500 * n + 60) 3002 [some (zR 49), some (zR 0), some (zR 7), some (zR 40), some (zR 41), some (zR 42), some (zR 43), some (zR 44), some (zR 48), some (zR 45), some (zR 46), some (zR 47), some (zI (n : Int)), some (zI v), some (zI w), none, none, none, some (zI 1), none, none, none, none, none, none, none, none, none, none, none, none, none, none, none, none, none, none, none, none, none, none, none, none, none, none, none, none, none, none, none] [] S := by
  have h := hI.1
  have hb := hI.ab (by omega)
  have h3 := hI.2.2.1
  have h2 := hI.2.2.2
  have kT : ∀ x : Int, z_G (mLw hh) F (500 * n + 60) 3027 [some (zR 49), some (zR 0), some (zR 7), some (zR 40), some (zR 41), some (zR 42), some (zR 43), some (zR 44), some (zR 48), some (zR 45), some (zR 46), some (zR 47), some (zI (n : Int)), some (zI v), some (zI w), none, none, none, some (zI 1), none, none, none, none, none, none, none, none, none, none, none, none, none, none, none, none, none, none, none, none, none, none, none, none, none, none, none, none, none, none, none] [zR 47, zR 46, zR 45, zR 48, zR 42, zR 40, zR 7, zI x, zR 0] S := by
    intro x
    refine g_callS (q := 3030) (as := [zR 0, zI x, zR 7, zR 40, zR 42, zR 48, zR 45, zR 46, zR 47]) (st := []) dL_law_3027 rfl ck_L_227 rfl rfl (Nat.le_of_ble_eq_true rfl) ⟨Nat.le_of_ble_eq_true rfl, Nat.le_of_ble_eq_true rfl⟩ (show 500 * n + 60 + 400 ≤ 100000 by omega) (s_L_isTold h hb (by omega) (by omega)) (fun X U q => ?_) (fun r U q => ?_)
    · cases q.1
    · obtain ⟨q1, q2⟩ := q
      have e : r = some (zI 1) := Except.ok.inj q1
      subst e
      have hnx := hK U (hI.rt q2)
      rw [show (((n + 1 : Nat) : Int)) = (n : Int) + 1 by omega] at hnx
      refine z_G.widen (show 500 * n + 60 + 400 ≤ 500 * n + 470 by omega) ?_
      show z_G (mLw hh) F (500 * n + 470) 3030 [some (zR 49), some (zR 0), some (zR 7), some (zR 40), some (zR 41), some (zR 42), some (zR 43), some (zR 44), some (zR 48), some (zR 45), some (zR 46), some (zR 47), some (zI (n : Int)), some (zI v), some (zI w), none, none, none, some (zI 1), none, none, none, none, none, none, none, none, none, none, none, none, none, none, none, none, none, none, none, none, none, none, none, none, none, none, none, none, none, none, none] [zI 1] U
      refine g_if_ne (t := 3035) (q := 3033) dL_law_3030 (by decide) rfl (fun h3030 => ?_) (fun h3030 => (False.elim (by omega)))
      refine g_iinc (q := 3038) (i := 12) (n := 1) dL_law_3035 rfl rfl (by constructor <;> omega) ?_
      refine g_goto (q := 0) (t := 194) dL_law_3038 (by decide) ?_
      exact g_forget (z_sub_r (z_sub_r (z_sub_r (z_sub_r (z_sub_r (z_sub_r (z_sub_r (z_sub_r (z_sub_r (z_sub_r (z_sub_r (z_sub_r (z_sub_r (z_sub_n (z_sub_n (z_sub_n (z_sub_n (z_sub_n (z_sub_n (z_sub_n (z_sub_n (z_sub_n (z_sub_n (z_sub_n (z_sub_n (z_sub_n (z_sub_n (z_sub_n (z_sub_n (z_sub_n (z_sub_n (z_sub_n (z_sub_n (z_sub_n (z_sub_n (z_sub_n (z_sub_n (z_sub_n (z_sub_n (z_sub_n (z_sub_n (z_sub_n (z_sub_n (z_sub_n (z_sub_n (z_sub_n (z_sub_n (z_sub_n (z_sub_n (z_sub_n z_sub_0)))))))))))))))))))))))))))))))))))))))))))))))))) (z_G.widen (by omega) hnx)
  refine g_iload (q := 3004) dL_law_3002 rfl rfl ?_
  refine g_if_eq (t := 3033) (q := 3007) dL_law_3004 (by decide) rfl (fun h3004 => (False.elim (by omega))) (fun h3004 => ?_)
  refine g_aload_n (i := 1) (q := 3008) dL_law_3007 rfl rfl rfl ?_
  refine g_iload (q := 3010) dL_law_3008 rfl rfl ?_
  refine g_iload (q := 3012) dL_law_3010 rfl rfl ?_
  refine g_iconst (q := 3013) dL_law_3012 rfl ⟨by decide, by decide⟩ ?_
  refine g_ishrv (q := 3014) (z := zShr v 3) dL_law_3013 rfl (rfl) ?_
  refine g_ixorv (q := 3015) (z := zXor w (zShr v 3)) dL_law_3014 rfl (rfl) ?_
  refine g_aload_n (i := 2) (q := 3016) dL_law_3015 rfl rfl rfl ?_
  refine g_aload_n (i := 3) (q := 3017) dL_law_3016 rfl rfl rfl ?_
  refine g_aload (q := 3019) dL_law_3017 rfl rfl ?_
  refine g_aload (q := 3021) dL_law_3019 rfl rfl ?_
  refine g_aload (q := 3023) dL_law_3021 rfl rfl ?_
  refine g_aload (q := 3025) dL_law_3023 rfl rfl ?_
  refine g_aload (q := 3027) dL_law_3025 rfl rfl ?_
  exact kT _
theorem lc_turn {n : Nat} {S : zS} {v w i f t : Int} (hI : zInv n S) (hg : S.1 2 < 46) (hn : n < 150) (hi : 0 ≤ i ∧ i < 12) (hf : 0 ≤ f ∧ f < 6) (ht : 0 ≤ t ∧ t < 22) (hK : ∀ U, zInv (n + 1) U → z_G (mLw hh) F (500 * n + 60) 3002 [some (zR 49), some (zR 0), some (zR 7), some (zR 40), some (zR 41), some (zR 42), some (zR 43), some (zR 44), some (zR 48), some (zR 45), some (zR 46), some (zR 47), some (zI (n : Int)), some (zI v), some (zI w), none, none, none, some (zI 1), none, none, none, none, none, none, none, none, none, none, none, none, none, none, none, none, none, none, none, none, none, none, none, none, none, none, none, none, none, none, none] [] U) : z_G (mLw hh) F (500 * n + 10) 294 [some (zR 49), some (zR 0), some (zR 7), some (zR 40), some (zR 41), some (zR 42), some (zR 43), some (zR 44), some (zR 48), some (zR 45), some (zR 46), some (zR 47), some (zI (n : Int)), some (zI v), some (zI w), some (zI i), some (zI (zdg i)), some (zI f), some (zI 1), none, none, none, none, none, none, none, none, none, none, none, none, none, none, none, none, none, none, none, none, none, none, none, none, none, none, none, none, none, none, none] [zI t] S := by
  have hw : t = 0 ∨ t = 1 ∨ t = 2 ∨ t = 3 ∨ t = 4 ∨ t = 5 ∨ t = 6 ∨ t = 7 ∨ t = 8 ∨ t = 9 ∨ t = 10 ∨ t = 11 ∨ t = 12 ∨ t = 13 ∨ t = 14 ∨ t = 15 ∨ t = 16 ∨ t = 17 ∨ t = 18 ∨ t = 19 ∨ 19 < t := by omega
  rcases hw with rfl | rfl | rfl | rfl | rfl | rfl | rfl | rfl | rfl | rfl | rfl | rfl | rfl | rfl | rfl | rfl | rfl | rfl | rfl | rfl | hw
  · exact g_swIn (q := 0) (t := 388) dL_law_294 (by decide) (by decide) rfl (by decide) (lc_give hI hn hf hK)
  · exact g_swIn (q := 0) (t := 511) dL_law_294 (by decide) (by decide) rfl (by decide) (lc_assign hI hn hi hK)
  · exact g_swIn (q := 0) (t := 511) dL_law_294 (by decide) (by decide) rfl (by decide) (lc_assign hI hn hi hK)
  · exact g_swIn (q := 0) (t := 511) dL_law_294 (by decide) (by decide) rfl (by decide) (lc_assign hI hn hi hK)
  · exact g_swIn (q := 0) (t := 629) dL_law_294 (by decide) (by decide) rfl (by decide) (lc_end hI hg hn hi hK)
  · exact g_swIn (q := 0) (t := 787) dL_law_294 (by decide) (by decide) rfl (by decide) (lc_swap hI hn hi hK)
  · exact g_swIn (q := 0) (t := 885) dL_law_294 (by decide) (by decide) rfl (by decide) (lc_emer hI hn hi hK)
  · exact g_swIn (q := 0) (t := 957) dL_law_294 (by decide) (by decide) rfl (by decide) (lc_endf hI hg hn hf hK)
  · exact g_swIn (q := 0) (t := 1352) dL_law_294 (by decide) (by decide) rfl (by decide) (lc_lag hI hn hf hK)
  · exact g_swIn (q := 0) (t := 1406) dL_law_294 (by decide) (by decide) rfl (by decide) (lc_down hI hn hf hK)
  · exact g_swIn (q := 0) (t := 1487) dL_law_294 (by decide) (by decide) rfl (by decide) (lc_corr hI hg hn hf hK)
  · exact g_swIn (q := 0) (t := 1530) dL_law_294 (by decide) (by decide) rfl (by decide) (lc_order hI hg hn hi hf hK)
  · exact g_swIn (q := 0) (t := 1530) dL_law_294 (by decide) (by decide) rfl (by decide) (lc_order hI hg hn hi hf hK)
  · exact g_swIn (q := 0) (t := 1530) dL_law_294 (by decide) (by decide) rfl (by decide) (lc_order hI hg hn hi hf hK)
  · exact g_swIn (q := 0) (t := 1530) dL_law_294 (by decide) (by decide) rfl (by decide) (lc_order hI hg hn hi hf hK)
  · exact g_swIn (q := 0) (t := 1530) dL_law_294 (by decide) (by decide) rfl (by decide) (lc_order hI hg hn hi hf hK)
  · exact g_swIn (q := 0) (t := 1876) dL_law_294 (by decide) (by decide) rfl (by decide) (lc_cancel hI hn hK)
  · exact g_swIn (q := 0) (t := 2023) dL_law_294 (by decide) (by decide) rfl (by decide) (lc_rev hI hg hn hK)
  · exact g_swIn (q := 0) (t := 2266) dL_law_294 (by decide) (by decide) rfl (by decide) (lc_back hI hn hK)
  · exact g_swIn (q := 0) (t := 2395) dL_law_294 (by decide) (by decide) rfl (by decide) (lc_dial hI hn hi hK)
  · exact g_swOut (q := 0) (t := 2582) dL_law_294 (by omega) (by decide) (lc_pass hI hg hn hK)
theorem lc_exit {n : Nat} {S : zS} (hI : zInv n S) (hn : n ≤ 150) (hE : ∀ (u : Nat) (al : List (Option zV)) (S : zS), u ≤ 100000 → z_G (mLw hh) F u 3073 al [zI 1] S) : z_G (mLw hh) F (500 * n + 10) 3041 [some (zR 49), some (zR 0), some (zR 7), some (zR 40), some (zR 41), some (zR 42), some (zR 43), some (zR 44), some (zR 48), some (zR 45), some (zR 46), some (zR 47), some (zI (n : Int)), none, none, none, none, none, none, none, none, none, none, none, none, none, none, none, none, none, none, none, none, none, none, none, none, none, none, none, none, none, none, none, none, none, none, none, none, none] [] S := by
  have h3 := hI.2.2.1
  have h2 := hI.2.2.2
  have q1 := q_assign_ix hI.1 (by omega)
  have q2 := q_setLag_x (S := S)
  refine g_aload_n (i := 1) (q := 3042) dL_law_3041 rfl rfl rfl ?_
  refine g_sipush (q := 3045) dL_law_3042 rfl ⟨by decide, by decide⟩ (by decide) ?_
  refine g_iconst (q := 3046) dL_law_3045 rfl ⟨by decide, by decide⟩ ?_
  refine g_fnW (as := [zR 0, zI 200, zI 0]) (q := 3049) (u' := 500 * n + 13) dL_law_3046 rfl ck_L_187 rfl rfl (Nat.le_of_ble_eq_true rfl) ⟨Nat.le_of_ble_eq_true rfl, Nat.le_of_ble_eq_true rfl⟩ rfl (show 500 * n + 13 ≤ 100000 by omega) (q1) ?_
  refine g_sipush (q := 3052) dL_law_3049 rfl ⟨by decide, by decide⟩ (by decide) ?_
  refine g_icmp_ne (t := 3072) (q := 3055) dL_law_3052 (by decide) rfl (fun h3052 => (False.elim (by omega))) (fun h3052 => ?_)
  refine g_aload_n (i := 1) (q := 3056) dL_law_3055 rfl rfl rfl ?_
  refine g_iconst (q := 3057) dL_law_3056 rfl ⟨by decide, by decide⟩ ?_
  refine g_bipush (q := 3059) dL_law_3057 rfl ⟨by decide, by decide⟩ (by decide) ?_
  refine g_fnW (as := [zR 0, zI 0, zI 51]) (q := 3062) (u' := 500 * n + 15) dL_law_3059 rfl ck_L_202 rfl rfl (Nat.le_of_ble_eq_true rfl) ⟨Nat.le_of_ble_eq_true rfl, Nat.le_of_ble_eq_true rfl⟩ rfl (show 500 * n + 15 ≤ 100000 by omega) (q2) ?_
  refine g_sipush (q := 3065) dL_law_3062 rfl ⟨by decide, by decide⟩ (by decide) ?_
  refine g_icmp_ne (t := 3072) (q := 3068) dL_law_3065 (by decide) rfl (fun h3065 => (False.elim (by omega))) (fun h3065 => ?_)
  refine g_iconst (q := 3069) dL_law_3068 rfl ⟨by decide, by decide⟩ ?_
  refine g_goto (q := 0) (t := 3073) dL_law_3069 (by decide) ?_
  exact hE _ _ _ (by omega)
theorem lc_loop (hE : ∀ (u : Nat) (al : List (Option zV)) (S : zS), u ≤ 100000 → z_G (mLw hh) F u 3073 al [zI 1] S) : ∀ (k n : Nat) (S : zS), n + k = 150 → zInv n S → z_G (mLw hh) F (500 * n) 194 [some (zR 49), some (zR 0), some (zR 7), some (zR 40), some (zR 41), some (zR 42), some (zR 43), some (zR 44), some (zR 48), some (zR 45), some (zR 46), some (zR 47), some (zI (n : Int)), none, none, none, none, none, none, none, none, none, none, none, none, none, none, none, none, none, none, none, none, none, none, none, none, none, none, none, none, none, none, none, none, none, none, none, none, none] [] S := by
  intro k
  induction k with
  | zero =>
    intro n S hn hI
    have hx := lc_exit hI (by omega) hE
    refine g_iload (q := 196) dL_law_194 rfl rfl ?_
    refine g_sipush (q := 199) dL_law_196 rfl ⟨by decide, by decide⟩ (by decide) ?_
    refine g_icmp_ge (t := 3041) (q := 202) dL_law_199 (by decide) rfl (fun h199 => ?_) (fun h199 => (False.elim (by omega)))
    exact z_G.widen (by omega) hx
  | succ k ih =>
    intro n S hn hI
    have hx := lc_exit hI (by omega) hE
    have hch := hI.1.chg
    have hK1 := ih (n + 1)
    by_cases hg : 46 ≤ S.2.1 47 2
    · clear hK1 ih
      refine g_iload (q := 196) dL_law_194 rfl rfl ?_
      refine g_sipush (q := 199) dL_law_196 rfl ⟨by decide, by decide⟩ (by decide) ?_
      refine g_icmp_ge (t := 3041) (q := 202) dL_law_199 (by decide) rfl (fun h199 => (False.elim (by omega))) (fun h199 => ?_)
      refine g_aload (q := 204) dL_law_202 rfl rfl ?_
      refine g_iconst (q := 205) dL_law_204 rfl ⟨by decide, by decide⟩ ?_
      refine g_ildv (q := 206) (z := S.2.1 47 2) dL_law_205 rfl ⟨by decide, rfl, rfl⟩ (by omega) (by omega) rfl ?_
      refine g_bipush (q := 208) dL_law_206 rfl ⟨by decide, by decide⟩ (by decide) ?_
      refine g_icmp_ge (t := 3041) (q := 211) dL_law_208 (by decide) rfl (fun h208 => ?_) (fun h208 => (False.elim (by omega)))
      exact z_G.widen (by omega) hx
    · have k94 : ∀ v w i f t : Int, (0 ≤ i ∧ i < 12) → (0 ≤ f ∧ f < 6) → (0 ≤ t ∧ t < 22) → z_G (mLw hh) F (500 * n + 10) 294 [some (zR 49), some (zR 0), some (zR 7), some (zR 40), some (zR 41), some (zR 42), some (zR 43), some (zR 44), some (zR 48), some (zR 45), some (zR 46), some (zR 47), some (zI (n : Int)), some (zI v), some (zI w), some (zI i), some (zI (zdg i)), some (zI f), some (zI 1), none, none, none, none, none, none, none, none, none, none, none, none, none, none, none, none, none, none, none, none, none, none, none, none, none, none, none, none, none, none, none] [zI t] S := fun v w i f t hi hf ht => lc_turn hI (by omega) (by omega) hi hf ht (fun U hU => lc_told (by omega) hU (fun U2 hU2 => hK1 U2 (by omega) hU2))
      have k31 : ∀ v w : Int, z_G (mLw hh) F (500 * n + 10) 231 [some (zR 49), some (zR 0), some (zR 7), some (zR 40), some (zR 41), some (zR 42), some (zR 43), some (zR 44), some (zR 48), some (zR 45), some (zR 46), some (zR 47), some (zI (n : Int)), some (zI v), none, none, none, none, none, none, none, none, none, none, none, none, none, none, none, none, none, none, none, none, none, none, none, none, none, none, none, none, none, none, none, none, none, none, none, none] [zI w] S := by
        intro v w
        have hi := zlow_rng (v := zShr v 5) (n := 12) (by omega)
        have hf := zlow_rng (v := zShr v 10) (n := 6) (by omega)
        have ht := zlow_rng (v := v) (n := 22) (by omega)
        clear ih hK1 hx
        refine g_istore (q := 233) dL_law_231 rfl (Nat.le_of_ble_eq_true rfl) ?_
        refine g_iload (q := 235) dL_law_233 rfl rfl ?_
        refine g_iconst (q := 236) dL_law_235 rfl ⟨by decide, by decide⟩ ?_
        refine g_ishrv (q := 237) (z := zShr v 5) dL_law_236 rfl (rfl) ?_
        refine g_bipush (q := 239) dL_law_237 rfl ⟨by decide, by decide⟩ (by decide) ?_
        refine g_fnS (as := [zI (zShr v 5), zI 12]) (q := 242) (u' := 500 * n + 10) dL_law_239 rfl ck_L_125 rfl rfl (Nat.le_of_ble_eq_true rfl) ⟨Nat.le_of_ble_eq_true rfl, Nat.le_of_ble_eq_true rfl⟩ rfl (show 500 * n + 10 ≤ 100000 by omega) (s_L_low (by omega)) rfl ?_
        refine g_istore (q := 244) dL_law_242 rfl (Nat.le_of_ble_eq_true rfl) ?_
        refine g_iload (q := 246) dL_law_244 rfl rfl ?_
        refine g_fnS (as := [zI (zlow (zShr v 5) 12)]) (q := 249) (u' := 500 * n + 10) dL_law_246 rfl ck_L_128 rfl rfl (Nat.le_of_ble_eq_true rfl) ⟨Nat.le_of_ble_eq_true rfl, Nat.le_of_ble_eq_true rfl⟩ rfl (show 500 * n + 10 ≤ 100000 by omega) (s_L_digits (by omega)) rfl ?_
        refine g_istore (q := 251) dL_law_249 rfl (Nat.le_of_ble_eq_true rfl) ?_
        refine g_iload (q := 253) dL_law_251 rfl rfl ?_
        refine g_bipush (q := 255) dL_law_253 rfl ⟨by decide, by decide⟩ (by decide) ?_
        refine g_ishrv (q := 256) (z := zShr v 10) dL_law_255 rfl (rfl) ?_
        refine g_bipush (q := 258) dL_law_256 rfl ⟨by decide, by decide⟩ (by decide) ?_
        refine g_fnS (as := [zI (zShr v 10), zI 6]) (q := 261) (u' := 500 * n + 10) dL_law_258 rfl ck_L_125 rfl rfl (Nat.le_of_ble_eq_true rfl) ⟨Nat.le_of_ble_eq_true rfl, Nat.le_of_ble_eq_true rfl⟩ rfl (show 500 * n + 10 ≤ 100000 by omega) (s_L_low (by omega)) rfl ?_
        refine g_istore (q := 263) dL_law_261 rfl (Nat.le_of_ble_eq_true rfl) ?_
        refine g_iconst (q := 264) dL_law_263 rfl ⟨by decide, by decide⟩ ?_
        refine g_istore (q := 266) dL_law_264 rfl (Nat.le_of_ble_eq_true rfl) ?_
        refine g_iload (q := 268) dL_law_266 rfl rfl ?_
        refine g_iconst (q := 269) dL_law_268 rfl ⟨by decide, by decide⟩ ?_
        refine g_icmp_ge (t := 276) (q := 272) dL_law_269 (by decide) rfl (fun h269 => ?_) (fun h269 => ?_)
        · refine g_iload (q := 278) dL_law_276 rfl rfl ?_
          refine g_bipush (q := 280) dL_law_278 rfl ⟨by decide, by decide⟩ (by decide) ?_
          refine g_icmp_ge (t := 287) (q := 283) dL_law_280 (by decide) rfl (fun h280 => ?_) (fun h280 => ?_)
          · refine g_iload (q := 289) dL_law_287 rfl rfl ?_
            refine g_bipush (q := 291) dL_law_289 rfl ⟨by decide, by decide⟩ (by decide) ?_
            refine g_fnS (as := [zI v, zI 22]) (q := 294) (u' := 500 * n + 10) dL_law_291 rfl ck_L_125 rfl rfl (Nat.le_of_ble_eq_true rfl) ⟨Nat.le_of_ble_eq_true rfl, Nat.le_of_ble_eq_true rfl⟩ rfl (show 500 * n + 10 ≤ 100000 by omega) (s_L_low (by omega)) rfl ?_
            exact k94 _ _ _ _ _ hi hf (by omega)
          · refine g_iconst (q := 284) dL_law_283 rfl ⟨by decide, by decide⟩ ?_
            refine g_goto (q := 0) (t := 294) dL_law_284 (by decide) ?_
            exact k94 _ _ _ _ _ hi hf (by omega)
        · refine g_iconst (q := 273) dL_law_272 rfl ⟨by decide, by decide⟩ ?_
          refine g_goto (q := 0) (t := 294) dL_law_273 (by decide) ?_
          exact k94 _ _ _ _ _ hi hf (by omega)
      have k19 : ∀ v : Int, z_G (mLw hh) F (500 * n + 5) 219 [some (zR 49), some (zR 0), some (zR 7), some (zR 40), some (zR 41), some (zR 42), some (zR 43), some (zR 44), some (zR 48), some (zR 45), some (zR 46), some (zR 47), some (zI (n : Int)), none, none, none, none, none, none, none, none, none, none, none, none, none, none, none, none, none, none, none, none, none, none, none, none, none, none, none, none, none, none, none, none, none, none, none, none, none] [zI v] S := by
        intro v
        have k28 : z_G (mLw hh) F (500 * n + 5) 228 [some (zR 49), some (zR 0), some (zR 7), some (zR 40), some (zR 41), some (zR 42), some (zR 43), some (zR 44), some (zR 48), some (zR 45), some (zR 46), some (zR 47), some (zI (n : Int)), some (zI v), none, none, none, none, none, none, none, none, none, none, none, none, none, none, none, none, none, none, none, none, none, none, none, none, none, none, none, none, none, none, none, none, none, none, none, none] [zI (2 * (n : Int) + 1), zR 49] S := by
          refine g_callS (q := 231) (as := [zR 49, zI (2 * (n : Int) + 1)]) (st := []) dL_law_228 rfl ck_L_181 rfl rfl (Nat.le_of_ble_eq_true rfl) ⟨Nat.le_of_ble_eq_true rfl, Nat.le_of_ble_eq_true rfl⟩ (show 500 * n + 5 + 0 ≤ 100000 by omega) (s_L_cell (by omega)) (fun X U q => ?_) (fun r U q => ?_)
          · obtain ⟨⟨y, q1, _⟩, _⟩ := q
            cases q1
          · obtain ⟨⟨y, q1, hy⟩, q2⟩ := q
            have e : r = some (zI y) := Except.ok.inj q1
            subst e
            subst q2
            exact z_G.widen (show 500 * n + 5 + 0 ≤ 500 * n + 10 by omega) (k31 v y)
        clear k94 k31 ih hK1 hx
        refine g_istore (q := 221) dL_law_219 rfl (Nat.le_of_ble_eq_true rfl) ?_
        refine g_aload_n (i := 0) (q := 222) dL_law_221 rfl rfl rfl ?_
        refine g_iconst (q := 223) dL_law_222 rfl ⟨by decide, by decide⟩ ?_
        refine g_iload (q := 225) dL_law_223 rfl rfl ?_
        refine g_imul (q := 226) dL_law_225 rfl (by constructor <;> omega) ?_
        refine g_iconst (q := 227) dL_law_226 rfl ⟨by decide, by decide⟩ ?_
        refine g_iadd (q := 228) dL_law_227 rfl (by constructor <;> omega) ?_
        exact k28
      have k16 : z_G (mLw hh) F (500 * n + 0) 216 [some (zR 49), some (zR 0), some (zR 7), some (zR 40), some (zR 41), some (zR 42), some (zR 43), some (zR 44), some (zR 48), some (zR 45), some (zR 46), some (zR 47), some (zI (n : Int)), none, none, none, none, none, none, none, none, none, none, none, none, none, none, none, none, none, none, none, none, none, none, none, none, none, none, none, none, none, none, none, none, none, none, none, none, none] [zI (2 * (n : Int)), zR 49] S := by
        refine g_callS (q := 219) (as := [zR 49, zI (2 * (n : Int))]) (st := []) dL_law_216 rfl ck_L_181 rfl rfl (Nat.le_of_ble_eq_true rfl) ⟨Nat.le_of_ble_eq_true rfl, Nat.le_of_ble_eq_true rfl⟩ (show 500 * n + 0 + 0 ≤ 100000 by omega) (s_L_cell (by omega)) (fun X U q => ?_) (fun r U q => ?_)
        · obtain ⟨⟨y, q1, _⟩, _⟩ := q
          cases q1
        · obtain ⟨⟨y, q1, hy⟩, q2⟩ := q
          have e : r = some (zI y) := Except.ok.inj q1
          subst e
          subst q2
          exact z_G.widen (show 500 * n + 0 + 0 ≤ 500 * n + 5 by omega) (k19 y)
      clear k94 k31 k19 ih hK1 hx
      refine g_iload (q := 196) dL_law_194 rfl rfl ?_
      refine g_sipush (q := 199) dL_law_196 rfl ⟨by decide, by decide⟩ (by decide) ?_
      refine g_icmp_ge (t := 3041) (q := 202) dL_law_199 (by decide) rfl (fun h199 => (False.elim (by omega))) (fun h199 => ?_)
      refine g_aload (q := 204) dL_law_202 rfl rfl ?_
      refine g_iconst (q := 205) dL_law_204 rfl ⟨by decide, by decide⟩ ?_
      refine g_ildv (q := 206) (z := S.2.1 47 2) dL_law_205 rfl ⟨by decide, rfl, rfl⟩ (by omega) (by omega) rfl ?_
      refine g_bipush (q := 208) dL_law_206 rfl ⟨by decide, by decide⟩ (by decide) ?_
      refine g_icmp_ge (t := 3041) (q := 211) dL_law_208 (by decide) rfl (fun h208 => (False.elim (by omega))) (fun h208 => ?_)
      refine g_aload_n (i := 0) (q := 212) dL_law_211 rfl rfl rfl ?_
      refine g_iconst (q := 213) dL_law_212 rfl ⟨by decide, by decide⟩ ?_
      refine g_iload (q := 215) dL_law_213 rfl rfl ?_
      refine g_imul (q := 216) dL_law_215 rfl (by constructor <;> omega) ?_
      exact k16
end
