/-! ===== a call along the law's rows ===== -/
/-- hops, by four bits each -/
def zenc (h : Int → Int) : Nat → Int
  | 0 => 0
  | k + 1 => zenc h k * 16 + (h k + 1)
theorem zenc_cong {h h' : Int → Int} : ∀ m : Nat, (∀ j : Int, 0 ≤ j → j < m → h j = h' j) → zenc h m = zenc h' m
  | 0, _ => rfl
  | m + 1, e => by rw [zenc, zenc, zenc_cong m (fun j x y => e j x (by omega)), e m (by omega) (by omega)]
theorem zenc_rng {h : Int → Int} : ∀ m : Nat, (∀ j : Int, 0 ≤ j → j < m → 0 ≤ h j ∧ h j < 6) → 0 ≤ zenc h m ∧ zenc h m < ((16 ^ m : Nat) : Int)
  | 0, _ => by rw [zenc]; exact ⟨Int.le_refl _, by decide⟩
  | m + 1, e => by
    have h1 := zenc_rng (h := h) m (fun j x y => e j x (by omega))
    have h2 := e m (by omega) (by omega)
    rw [zenc, Nat.pow_succ]
    omega
theorem zenc_7 {h : Int → Int} {m : Nat} (hm : m ≤ 7) (e : ∀ j : Int, 0 ≤ j → j < m → 0 ≤ h j ∧ h j < 6) : 0 ≤ zenc h m ∧ zenc h m < 268435456 := by
  have h1 := zenc_rng (h := h) m e
  have h2 : 16 ^ m ≤ 16 ^ 7 := Nat.pow_le_pow_right (by omega) hm
  omega
def zrow (p : zS × Int) : Int := zenc (p.1.2.1 39) (p.1.1 4).toNat * 8 + p.2
theorem zrow_of {p : zS × Int} {S : zS} {e : Int} {m : Nat} (hp : p = (S, e)) (hm : S.1 4 = m) : zrow p = zenc (S.2.1 39) m * 8 + e := by
  subst hp
  unfold zrow
  rw [show (S.1 4).toNat = m by omega]
theorem zenc_ha {S : zS} {x : Int} {m : Nat} (hm : S.1 4 = m) : zenc ((x_ha S x).2.1 39) (m + 1) = zenc (S.2.1 39) m * 16 + (x + 1) := by
  rw [zenc, zenc_cong m (h' := S.2.1 39) (fun j a b => ?_)]
  · unfold x_ha
    rw [za_sS, ← hm, za_eq]
  · unfold x_ha
    rw [za_sS, za_ni (by omega)]
theorem x_has_iff {S : zS} {f : Int} : ∀ (k i : Nat), x_has S f i k = true ↔ ∃ j : Nat, i ≤ j ∧ j < i + k ∧ S.2.1 39 j = f
  | 0, i => by
    rw [x_has]
    constructor
    · intro h; cases h
    · rintro ⟨j, a, b, -⟩; omega
  | k + 1, i => by
    rw [x_has, Bool.or_eq_true, decide_eq_true_eq, x_has_iff k (i + 1)]
    constructor
    · rintro (h | ⟨j, a, b, c⟩)
      · exact ⟨i, by omega, by omega, h⟩
      · exact ⟨j, by omega, by omega, c⟩
    · rintro ⟨j, a, b, c⟩
      by_cases e : j = i
      · subst e; exact .inl c
      · exact .inr ⟨j, by omega, by omega, c⟩
theorem Rel.xR2' {S T : zS} (h : Rel S T) : xR2 S := by
  refine ⟨fun b x y => ?_, fun f k a b x y => h.tabr f k a b x y, fun f a b => (h.flag f a b).1⟩
  by_cases c : b < 4
  · exact (h.hold b x c).2
  · have := h.holdo b (by omega) y
    omega
theorem Rel.pbt {S T : zS} (h : Rel S T) {f i : Int} (hf : 0 ≤ f ∧ f < 6) (hi : 0 ≤ i ∧ i < 12) : x_pbt S f (zdg i) = y_iw T f i := by
  have hd := zdg_rng hi
  have hb := h.hold (i / 3) (by omega) (by omega)
  unfold x_pbt y_iw
  rw [hd.2.2, h.tab f i hf.1 hf.2 hi.1 hi.2, hb.1]
  by_cases c : S.2.1 8 (i / 3) = -1 ∨ zdig (T.2.2 f) i = 6
  · rw [if_pos c, if_pos (by omega)]
  · rw [if_neg c, if_neg (by omega)]
theorem Rel.yT' {S T : zS} (h : Rel S T) : yT T := fun f a b => h.trng f a b
/-- the accounts' bound -/
def zAb (S : zS) : Prop := ∀ f : Int, 0 ≤ f → f < 6 → -4000 ≤ S.2.1 12 f ∧ S.2.1 12 f ≤ 4000
theorem Rel.word {S T : zS} (h : Rel S T) (hb : zAb S) {f : Int} (hf : 0 ≤ f ∧ f < 6) : (0 ≤ T.2.1 46 f ∧ T.2.1 46 f < 2147483648) ∧ T.2.1 46 f / 128 % 2 = S.2.1 9 f ∧ T.2.1 46 f / 64 % 2 = S.2.1 10 f ∧ T.2.1 46 f % 64 = S.2.1 11 f ∧ T.2.1 46 f / 1024 - 4096 = S.2.1 12 f := by
  have h1 := h.firm f hf.1 hf.2
  have h2 := h.flag f hf.1 hf.2
  have h3 := hb f hf.1 hf.2
  omega
section
variable {Q : zQ} {S0 T : zS} {f i w n h : Int}
theorem l_L_goes (hR : Rel S0 T) (hb : zAb S0) (hf : 0 ≤ f ∧ f < 6) (hi : 0 ≤ i ∧ i < 12) (hw : 0 ≤ w ∧ w ≤ 2) (hn : n = zdg i) : ∀ (k m : Nat) (S : zS) (s : Nat) (row : Int), m + k = 7 → xT S n h m → S.2.1 13 = S0.2.1 13 → S.2.1 9 = S0.2.1 9 → (∀ g : Int, 0 ≤ g → g < 6 → x_pbt S g n = y_iw T g i) → S.2.1 39 0 = f → row = zenc (S.2.1 39) m → s < 64 → zpop s = m → (∀ g : Nat, g < 6 → (s / 2 ^ g % 2 = 1 ↔ ∃ j : Nat, j < m ∧ S.2.1 39 j = g)) →
    Q (.ok (some (zL (zrow (x_ft S n w h m k))))) T → ∀ v13 v14 v15, z_G mL_goes (z_F mL_goes Q) 0 73 [some (zI f), some (zI i), some (zI w), some (zR 7), some (zR 40), some (zR 48), some (zR 46), some (zI h), some (zL row), none, some (zI (s : Int)), some (zI (S.2.1 39 ((m : Int) - 1))), some (zI ((m : Int) - 1)), v13, v14, v15] [] T := by
  have hT := hR.yT'
  intro k
  induction k with
  | zero =>
    intro m S s row hm X e13 e9 ep e0 er hs hp hh hQ v13 v14 v15
    have := zpop6 s hs
    omega
  | succ k ih =>
    intro m S s row hm X e13 e9 ep e0 er hs hp hh hQ v13 v14 v15
    obtain ⟨t1, t2, t3, t4, t5, t6, t7⟩ := id X
    have hat := t7 ((m : Int) - 1) (by omega) (by omega)
    obtain ⟨at0, ea⟩ : ∃ a, a = S.2.1 39 ((m : Int) - 1) := ⟨_, rfl⟩
    have hrd := x_rd_rng (w := w) X
    have hnx := x_nx_rng (w := w) X
    have hrow := zenc_7 (h := S.2.1 39) (m := m) (by omega) t7
    rw [← er] at hrow
    have hsv := hR.serv i hi.1 hi.2
    have hwd := hR.word hb (f := at0) (by omega)
    rw [← e13, ← hn] at hsv
    rw [← e9] at hwd
    rw [x_ft] at hQ
    rw [← ea] at hat hQ ⊢
    have kC : at0 ≠ S.2.1 13 n → S.2.1 9 at0 = 0 → ∀ v14 bk, ((bk = 1 ∧ w = 2 ∧ m = 2 ∧ at0 = h) ∨ (bk = 0 ∧ ¬ (w = 2 ∧ m = 2 ∧ at0 = h))) → z_G mL_goes (z_F mL_goes Q) 0 192 [some (zI f), some (zI i), some (zI w), some (zR 7), some (zR 40), some (zR 48), some (zR 46), some (zI h), some (zL row), none, some (zI (s : Int)), some (zI at0), some (zI ((m : Int) - 1)), some (zI (x_nx S n w h m)), v14, some (zI bk)] [] T := by
      intro g1 g2 v14 bk hbk
      rw [if_neg g1, if_neg (fun q => q g2)] at hQ
      have ird : x_rd S w h m = if bk = 1 then f else at0 := by
        unfold x_rd
        rw [← ea, e0]
        by_cases c : w = 2 ∧ m = 2 ∧ at0 = h
        · rw [if_pos c, if_pos (by omega)]
        · rw [if_neg c, if_neg (by omega)]
      obtain ⟨xn, hxn⟩ := zb_nat hnx.1
      have hx6 : xn < 6 := by omega
      by_cases c1 : x_nx S n w h m = at0 ∨ x_nx S n w h m = x_rd S w h m
      · rw [if_pos c1, zrow_of (m := m) rfl t1, ← er] at hQ
        have c2 : x_nx S n w h m = at0 ∨ (bk = 1 ∧ x_nx S n w h m = f) := by
          rw [ird] at c1
          rcases hbk with hbk | hbk
          · rw [if_pos hbk.1] at c1; omega
          · rw [if_neg (by omega)] at c1; omega
        refine g_iload (q := 194) dL_goes_192 rfl rfl ?_
        refine g_iload (q := 196) dL_goes_194 rfl rfl ?_
        refine g_icmp_eq (t := 210) (q := 199) dL_goes_196 (by decide) rfl (fun h196 => ?_) (fun h196 => ?_)
        · refine g_lload (q := 212) dL_goes_210 rfl rfl ?_
          refine g_iconst (q := 213) dL_goes_212 rfl ⟨by decide, by decide⟩ ?_
          refine g_lshlv (q := 214) (z := row * 8) dL_goes_213 rfl (zLshl_p (p := 8) 3 (by decide) (by decide) (by omega) (by omega)) ?_
          refine g_ldc2 (z := 4) (q := 217) dL_goes_214 rfl (z_big_of (by decide +kernel) rfl) (by constructor <;> decide) ?_
          refine g_lorv (q := 218) (z := row * 8 + 4) dL_goes_217 rfl (zLor_p (p := 8) 3 (by decide) (by omega) (by omega) (by omega) (by omega) (by omega)) ?_
          exact g_retL dL_goes_218 rfl (by decide) hQ
        · refine g_iload (q := 201) dL_goes_199 rfl rfl ?_
          refine g_if_eq (t := 219) (q := 204) dL_goes_201 (by decide) rfl (fun h201 => ?_) (fun h201 => ?_)
          · exact False.elim (by omega)
          · refine g_iload (q := 206) dL_goes_204 rfl rfl ?_
            refine g_iload_n (i := 0) (q := 207) dL_goes_206 rfl rfl rfl ?_
            refine g_icmp_ne (t := 219) (q := 210) dL_goes_207 (by decide) rfl (fun h207 => ?_) (fun h207 => ?_)
            · exact False.elim (by omega)
            · refine g_lload (q := 212) dL_goes_210 rfl rfl ?_
              refine g_iconst (q := 213) dL_goes_212 rfl ⟨by decide, by decide⟩ ?_
              refine g_lshlv (q := 214) (z := row * 8) dL_goes_213 rfl (zLshl_p (p := 8) 3 (by decide) (by decide) (by omega) (by omega)) ?_
              refine g_ldc2 (z := 4) (q := 217) dL_goes_214 rfl (z_big_of (by decide +kernel) rfl) (by constructor <;> decide) ?_
              refine g_lorv (q := 218) (z := row * 8 + 4) dL_goes_217 rfl (zLor_p (p := 8) 3 (by decide) (by omega) (by omega) (by omega) (by omega) (by omega)) ?_
              exact g_retL dL_goes_218 rfl (by decide) hQ
      · rw [if_neg c1] at hQ
        have c2 : ¬ x_nx S n w h m = at0 ∧ ¬ (bk = 1 ∧ x_nx S n w h m = f) := by
          rw [ird] at c1
          rcases hbk with hbk | hbk
          · rw [if_pos hbk.1] at c1; omega
          · rw [if_neg (by omega)] at c1; omega
        have hz := zseen s hs xn hx6
        have hhx := hh xn hx6
        have hhas := x_has_iff (S := S) (f := x_nx S n w h m) m 0
        rw [hxn] at hQ c2 hhas ⊢
        have k3 : z_G mL_goes (z_F mL_goes Q) 0 219 [some (zI f), some (zI i), some (zI w), some (zR 7), some (zR 40), some (zR 48), some (zR 46), some (zI h), some (zL row), none, some (zI (s : Int)), some (zI at0), some (zI ((m : Int) - 1)), some (zI (xn : Int)), v14, some (zI bk)] [] T := by
          by_cases c3 : x_has S (xn : Int) 0 m = true
          · rw [if_pos c3] at hQ
            have c4 : s / 2 ^ xn % 2 = 1 := hhx.mpr (by
              obtain ⟨j, -, b, c⟩ := hhas.mp c3
              exact ⟨j, by omega, c⟩)
            have X1 := xT_ha X (by omega) (x := (xn : Int)) (by omega)
            rw [zrow_of (m := m + 1) rfl X1.1, zenc_ha t1, ← er] at hQ
            refine g_lload (q := 221) dL_goes_219 rfl rfl ?_
            refine g_iconst (q := 222) dL_goes_221 rfl ⟨by decide, by decide⟩ ?_
            refine g_lshlv (q := 223) (z := row * 16) dL_goes_222 rfl (zLshl_p (p := 16) 4 (by decide) (by decide) (by omega) (by omega)) ?_
            refine g_iload (q := 225) dL_goes_223 rfl rfl ?_
            refine g_i2l (q := 226) dL_goes_225 rfl ?_
            refine g_lconst (q := 227) (z := 1) dL_goes_226 rfl ⟨by decide, by decide⟩ rfl ?_
            refine g_laddv (q := 228) (z := (xn : Int) + 1) dL_goes_227 rfl rfl (by constructor <;> omega) ?_
            refine g_lorv (q := 229) (z := row * 16 + ((xn : Int) + 1)) dL_goes_228 rfl (zLor_p (p := 16) 4 (by decide) (by omega) (by omega) (by omega) (by omega) (by omega)) ?_
            refine g_lstore (q := 231) dL_goes_229 rfl (Nat.le_of_ble_eq_true rfl) (by decide) ?_
            refine g_iload (q := 233) dL_goes_231 rfl rfl ?_
            refine g_iload (q := 235) dL_goes_233 rfl rfl ?_
            refine g_ishrv (q := 236) (z := zShr (s : Int) (xn : Int)) dL_goes_235 rfl (rfl) ?_
            refine g_iconst (q := 237) dL_goes_236 rfl ⟨by decide, by decide⟩ ?_
            refine g_iandv (q := 238) (z := 1) dL_goes_237 rfl ((by rw [hz.2, c4]; rfl)) ?_
            refine g_iconst (q := 239) dL_goes_238 rfl ⟨by decide, by decide⟩ ?_
            refine g_icmp_ne (t := 251) (q := 242) dL_goes_239 (by decide) rfl (fun h239 => (False.elim (by omega))) (fun h239 => ?_)
            refine g_lload (q := 244) dL_goes_242 rfl rfl ?_
            refine g_iconst (q := 245) dL_goes_244 rfl ⟨by decide, by decide⟩ ?_
            refine g_lshlv (q := 246) (z := (row * 16 + ((xn : Int) + 1)) * 8) dL_goes_245 rfl (zLshl_p (p := 8) 3 (by decide) (by decide) (by omega) (by omega)) ?_
            refine g_ldc2 (z := 3) (q := 249) dL_goes_246 rfl (z_big_of (by decide +kernel) rfl) (by constructor <;> decide) ?_
            refine g_lorv (q := 250) (z := (row * 16 + ((xn : Int) + 1)) * 8 + 3) dL_goes_249 rfl (zLor_p (p := 8) 3 (by decide) (by omega) (by omega) (by omega) (by omega) (by omega)) ?_
            exact g_retL dL_goes_250 rfl (by decide) hQ
          · rw [if_neg c3] at hQ
            have c4 : s / 2 ^ xn % 2 = 0 := by
              have : ¬ s / 2 ^ xn % 2 = 1 := fun q => c3 (hhas.mpr (by
                obtain ⟨j, b, c⟩ := hhx.mp q
                exact ⟨j, by omega, by omega, c⟩))
              omega
            have X1 := xT_ha X (by omega) (x := (xn : Int)) (by omega)
            obtain ⟨⟨z1, z2, z3⟩, z4⟩ := zseen2 s hs xn hx6 c4
            have e39 : ∀ j : Int, (x_ha S (xn : Int)).2.1 39 j = if j = m then (xn : Int) else S.2.1 39 j := by
              intro j
              unfold x_ha
              rw [za_sS, za_sA, t1]
              by_cases c : j = m
              · rw [if_pos ⟨rfl, c⟩, if_pos c]
              · rw [if_neg (fun q => c q.2), if_neg c]
            have hnx2 := ih (m + 1) (x_ha S (xn : Int)) (s + 2 ^ xn) (row * 16 + ((xn : Int) + 1)) (by omega) X1 e13 e9 (fun g a b => by
              have q := ep g a b
              unfold x_pbt at q ⊢
              rw [show (x_ha S (xn : Int)).2.1 8 = S.2.1 8 from rfl, show (x_ha S (xn : Int)).2.1 (30 + g.toNat) n = S.2.1 (30 + g.toNat) n by unfold x_ha; rw [za_sS, za_ne (by omega)]]
              exact q) (by rw [e39, if_neg (by omega)]; exact e0) (by rw [zenc_ha t1, ← er]) z2 (by omega) (fun g hg => by
              rw [z4 g hg]
              by_cases c : g = xn
              · subst c
                rw [if_pos rfl]
                exact ⟨fun _ => ⟨m, by omega, by rw [e39, if_pos rfl]⟩, fun _ => rfl⟩
              · rw [if_neg c, hh g hg]
                constructor
                · rintro ⟨j, a, b⟩
                  exact ⟨j, by omega, by rw [e39, if_neg (by omega)]; exact b⟩
                · rintro ⟨j, a, b⟩
                  rw [e39] at b
                  by_cases cj : (j : Int) = m
                  · rw [if_pos cj] at b
                    omega
                  · rw [if_neg cj] at b
                    exact ⟨j, by omega, b⟩) hQ
            rw [show (((m + 1 : Nat) : Int) - 1) = (m : Int) by omega, e39, if_pos rfl] at hnx2
            refine g_lload (q := 221) dL_goes_219 rfl rfl ?_
            refine g_iconst (q := 222) dL_goes_221 rfl ⟨by decide, by decide⟩ ?_
            refine g_lshlv (q := 223) (z := row * 16) dL_goes_222 rfl (zLshl_p (p := 16) 4 (by decide) (by decide) (by omega) (by omega)) ?_
            refine g_iload (q := 225) dL_goes_223 rfl rfl ?_
            refine g_i2l (q := 226) dL_goes_225 rfl ?_
            refine g_lconst (q := 227) (z := 1) dL_goes_226 rfl ⟨by decide, by decide⟩ rfl ?_
            refine g_laddv (q := 228) (z := (xn : Int) + 1) dL_goes_227 rfl rfl (by constructor <;> omega) ?_
            refine g_lorv (q := 229) (z := row * 16 + ((xn : Int) + 1)) dL_goes_228 rfl (zLor_p (p := 16) 4 (by decide) (by omega) (by omega) (by omega) (by omega) (by omega)) ?_
            refine g_lstore (q := 231) dL_goes_229 rfl (Nat.le_of_ble_eq_true rfl) (by decide) ?_
            refine g_iload (q := 233) dL_goes_231 rfl rfl ?_
            refine g_iload (q := 235) dL_goes_233 rfl rfl ?_
            refine g_ishrv (q := 236) (z := zShr (s : Int) (xn : Int)) dL_goes_235 rfl (rfl) ?_
            refine g_iconst (q := 237) dL_goes_236 rfl ⟨by decide, by decide⟩ ?_
            refine g_iandv (q := 238) (z := 0) dL_goes_237 rfl ((by rw [hz.2, c4]; rfl)) ?_
            refine g_iconst (q := 239) dL_goes_238 rfl ⟨by decide, by decide⟩ ?_
            refine g_icmp_ne (t := 251) (q := 242) dL_goes_239 (by decide) rfl (fun h239 => ?_) (fun h239 => (False.elim (by omega)))
            refine g_iload (q := 253) dL_goes_251 rfl rfl ?_
            refine g_iconst (q := 254) dL_goes_253 rfl ⟨by decide, by decide⟩ ?_
            refine g_iload (q := 256) dL_goes_254 rfl rfl ?_
            refine g_ishlv (q := 257) (z := zShl 1 (xn : Int)) dL_goes_256 rfl (rfl) ?_
            refine g_iorv (q := 258) (z := ((s + 2 ^ xn : Nat) : Int)) dL_goes_257 rfl (z1) ?_
            refine g_istore (q := 260) dL_goes_258 rfl (Nat.le_of_ble_eq_true rfl) ?_
            refine g_iload (q := 262) dL_goes_260 rfl rfl ?_
            refine g_istore (q := 264) dL_goes_262 rfl (Nat.le_of_ble_eq_true rfl) ?_
            refine g_iinc (q := 267) (i := 12) (n := 1) dL_goes_264 rfl rfl (by constructor <;> omega) ?_
            refine g_goto (q := 0) (t := 73) dL_goes_267 (by decide) ?_
            rw [show (m : Int) - 1 + 1 = (m : Int) by omega]
            exact hnx2 _ _ _
        refine g_iload (q := 194) dL_goes_192 rfl rfl ?_
        refine g_iload (q := 196) dL_goes_194 rfl rfl ?_
        refine g_icmp_eq (t := 210) (q := 199) dL_goes_196 (by decide) rfl (fun h196 => ?_) (fun h196 => ?_)
        · exact False.elim (by clear hh hhx hhas hz; omega)
        · refine g_iload (q := 201) dL_goes_199 rfl rfl ?_
          refine g_if_eq (t := 219) (q := 204) dL_goes_201 (by decide) rfl (fun h201 => ?_) (fun h201 => ?_)
          · exact k3
          · refine g_iload (q := 206) dL_goes_204 rfl rfl ?_
            refine g_iload_n (i := 0) (q := 207) dL_goes_206 rfl rfl rfl ?_
            refine g_icmp_ne (t := 219) (q := 210) dL_goes_207 (by decide) rfl (fun h207 => ?_) (fun h207 => ?_)
            · exact k3
            · exact False.elim (by clear hh hhx hhas hz; omega)
    have kB : at0 ≠ S.2.1 13 n → S.2.1 9 at0 = 0 → ∀ fi bk, ((fi = 1 ∧ (¬ w = 0 ∧ m = 1 ∧ ¬ at0 = h)) ∨ (fi = 0 ∧ ¬ (¬ w = 0 ∧ m = 1 ∧ ¬ at0 = h))) → ((bk = 1 ∧ w = 2 ∧ m = 2 ∧ at0 = h) ∨ (bk = 0 ∧ ¬ (w = 2 ∧ m = 2 ∧ at0 = h))) → z_G mL_goes (z_F mL_goes Q) 0 168 [some (zI f), some (zI i), some (zI w), some (zR 7), some (zR 40), some (zR 48), some (zR 46), some (zI h), some (zL row), none, some (zI (s : Int)), some (zI at0), some (zI ((m : Int) - 1)), some (zI (y_iw T at0 i)), some (zI fi), some (zI bk)] [] T := by
      intro g1 g2 fi bk hfi hbk
      have kc := kC g1 g2
      have enx : x_nx S n w h m = if fi = 1 then h else if bk = 1 then y_iw T f i else y_iw T at0 i := by
        unfold x_nx x_rd
        rw [← ea, e0]
        by_cases c : ¬ w = 0 ∧ m = 1 ∧ ¬ at0 = h
        · rw [if_pos c, if_pos (show fi = 1 by omega)]
        · rw [if_neg c, if_neg (show ¬ fi = 1 by omega)]
          by_cases c2 : w = 2 ∧ m = 2 ∧ at0 = h
          · rw [if_pos c2, if_pos (show bk = 1 by omega), ep f hf.1 hf.2]
          · rw [if_neg c2, if_neg (show ¬ bk = 1 by omega), ep at0 hat.1 hat.2]
      rcases hfi with ⟨rfl, hfi⟩ | ⟨rfl, hfi⟩
      · rw [if_pos rfl] at enx
        rw [enx] at kc
        have hb0 : bk = 0 := by omega
        subst hb0
        refine g_iload (q := 170) dL_goes_168 rfl rfl ?_
        refine g_if_eq (t := 177) (q := 173) dL_goes_170 (by decide) rfl (fun h170 => (False.elim (by omega))) (fun h170 => ?_)
        refine g_iload (q := 175) dL_goes_173 rfl rfl ?_
        refine g_istore (q := 177) dL_goes_175 rfl (Nat.le_of_ble_eq_true rfl) ?_
        refine g_iload (q := 179) dL_goes_177 rfl rfl ?_
        refine g_if_eq (t := 192) (q := 182) dL_goes_179 (by decide) rfl (fun h179 => ?_) (fun h179 => (False.elim (by omega)))
        exact kc _ _ hbk
      · rw [if_neg (by decide)] at enx
        rcases hbk with ⟨rfl, hbk⟩ | ⟨rfl, hbk⟩
        · rw [if_pos rfl] at enx
          rw [enx] at kc
          refine g_iload (q := 170) dL_goes_168 rfl rfl ?_
          refine g_if_eq (t := 177) (q := 173) dL_goes_170 (by decide) rfl (fun h170 => ?_) (fun h170 => (False.elim (by omega)))
          refine g_iload (q := 179) dL_goes_177 rfl rfl ?_
          refine g_if_eq (t := 192) (q := 182) dL_goes_179 (by decide) rfl (fun h179 => (False.elim (by omega))) (fun h179 => ?_)
          refine g_iload_n (i := 0) (q := 183) dL_goes_182 rfl rfl rfl ?_
          refine g_iload_n (i := 1) (q := 184) dL_goes_183 rfl rfl rfl ?_
          refine g_aload_n (i := 3) (q := 185) dL_goes_184 rfl rfl rfl ?_
          refine g_aload (q := 187) dL_goes_185 rfl rfl ?_
          refine g_fnS (as := [zI f, zI i, zR 7, zR 48]) (q := 190) (u' := 0) dL_goes_187 rfl ck_L_119 rfl rfl (Nat.le_of_ble_eq_true rfl) ⟨Nat.le_of_ble_eq_true rfl, Nat.le_of_ble_eq_true rfl⟩ rfl (by decide) (s_L_isWith (by omega) (by omega) hT) rfl ?_
          refine g_istore (q := 192) dL_goes_190 rfl (Nat.le_of_ble_eq_true rfl) ?_
          exact kc _ _ (.inl ⟨rfl, hbk⟩)
        · rw [if_neg (by decide)] at enx
          rw [enx] at kc
          refine g_iload (q := 170) dL_goes_168 rfl rfl ?_
          refine g_if_eq (t := 177) (q := 173) dL_goes_170 (by decide) rfl (fun h170 => ?_) (fun h170 => (False.elim (by omega)))
          refine g_iload (q := 179) dL_goes_177 rfl rfl ?_
          refine g_if_eq (t := 192) (q := 182) dL_goes_179 (by decide) rfl (fun h179 => ?_) (fun h179 => (False.elim (by omega)))
          exact kc _ _ (.inr ⟨rfl, hbk⟩)
    have kA : at0 ≠ S.2.1 13 n → S.2.1 9 at0 = 0 → ∀ fi v15, ((fi = 1 ∧ (¬ w = 0 ∧ m = 1 ∧ ¬ at0 = h)) ∨ (fi = 0 ∧ ¬ (¬ w = 0 ∧ m = 1 ∧ ¬ at0 = h))) → z_G mL_goes (z_F mL_goes Q) 0 143 [some (zI f), some (zI i), some (zI w), some (zR 7), some (zR 40), some (zR 48), some (zR 46), some (zI h), some (zL row), none, some (zI (s : Int)), some (zI at0), some (zI ((m : Int) - 1)), some (zI (y_iw T at0 i)), some (zI fi), v15] [] T := by
      intro g1 g2 fi v15 hfi
      have kb := kB g1 g2 fi
      refine g_iload (q := 145) dL_goes_143 rfl rfl ?_
      refine g_iconst (q := 146) dL_goes_145 rfl ⟨by decide, by decide⟩ ?_
      refine g_icmp_ne (t := 165) (q := 149) dL_goes_146 (by decide) rfl (fun h146 => ?_) (fun h146 => ?_)
      · refine g_iconst (q := 166) dL_goes_165 rfl ⟨by decide, by decide⟩ ?_
        refine g_istore (q := 168) dL_goes_166 rfl (Nat.le_of_ble_eq_true rfl) ?_
        exact kb _ hfi (by omega)
      · refine g_iload (q := 151) dL_goes_149 rfl rfl ?_
        refine g_iload (q := 153) dL_goes_151 rfl rfl ?_
        refine g_icmp_ne (t := 165) (q := 156) dL_goes_153 (by decide) rfl (fun h153 => ?_) (fun h153 => ?_)
        · refine g_iconst (q := 166) dL_goes_165 rfl ⟨by decide, by decide⟩ ?_
          refine g_istore (q := 168) dL_goes_166 rfl (Nat.le_of_ble_eq_true rfl) ?_
          exact kb _ hfi (by omega)
        · refine g_iload_n (i := 2) (q := 157) dL_goes_156 rfl rfl rfl ?_
          refine g_iconst (q := 158) dL_goes_157 rfl ⟨by decide, by decide⟩ ?_
          refine g_icmp_ne (t := 165) (q := 161) dL_goes_158 (by decide) rfl (fun h158 => ?_) (fun h158 => ?_)
          · refine g_iconst (q := 166) dL_goes_165 rfl ⟨by decide, by decide⟩ ?_
            refine g_istore (q := 168) dL_goes_166 rfl (Nat.le_of_ble_eq_true rfl) ?_
            exact kb _ hfi (by omega)
          · refine g_iconst (q := 162) dL_goes_161 rfl ⟨by decide, by decide⟩ ?_
            refine g_goto (q := 0) (t := 166) dL_goes_162 (by decide) ?_
            refine g_istore (q := 168) dL_goes_166 rfl (Nat.le_of_ble_eq_true rfl) ?_
            exact kb _ hfi (by omega)
    have hg01 := (hR.flag at0 hat.1 hat.2).1
    rw [← e9] at hg01
    by_cases g1 : at0 = S.2.1 13 n
    · rw [if_pos g1, zrow_of (m := m) rfl t1, ← er] at hQ
      refine g_aload (q := 75) dL_goes_73 rfl rfl ?_
      refine g_iload_n (i := 1) (q := 76) dL_goes_75 rfl rfl rfl ?_
      refine g_ildv (q := 77) (z := T.2.1 40 i) dL_goes_76 rfl ⟨by decide, rfl, rfl⟩ (by omega) (by omega) rfl ?_
      refine g_iload (q := 79) dL_goes_77 rfl rfl ?_
      refine g_icmp_ne (t := 89) (q := 82) dL_goes_79 (by decide) rfl (fun h79 => (False.elim (by omega))) (fun h79 => ?_)
      refine g_lload (q := 84) dL_goes_82 rfl rfl ?_
      refine g_iconst (q := 85) dL_goes_84 rfl ⟨by decide, by decide⟩ ?_
      refine g_lshlv (q := 86) (z := row * 8) dL_goes_85 rfl (zLshl_p (p := 8) 3 (by decide) (by decide) (by omega) (by omega)) ?_
      refine g_lconst (q := 87) (z := 0) dL_goes_86 rfl ⟨by decide, by decide⟩ rfl ?_
      refine g_lorv (q := 88) (z := row * 8 + 0) dL_goes_87 rfl (zLor_p (p := 8) 3 (by decide) (by omega) (by omega) (by omega) (by omega) (by omega)) ?_
      exact g_retL dL_goes_88 rfl (by decide) hQ
    · by_cases g2 : S.2.1 9 at0 = 0
      · have ka := kA g1 g2
        refine g_aload (q := 75) dL_goes_73 rfl rfl ?_
        refine g_iload_n (i := 1) (q := 76) dL_goes_75 rfl rfl rfl ?_
        refine g_ildv (q := 77) (z := T.2.1 40 i) dL_goes_76 rfl ⟨by decide, rfl, rfl⟩ (by omega) (by omega) rfl ?_
        refine g_iload (q := 79) dL_goes_77 rfl rfl ?_
        refine g_icmp_ne (t := 89) (q := 82) dL_goes_79 (by decide) rfl (fun h79 => ?_) (fun h79 => (False.elim (by omega)))
        refine g_aload (q := 91) dL_goes_89 rfl rfl ?_
        refine g_iload (q := 93) dL_goes_91 rfl rfl ?_
        refine g_ildv (q := 94) (z := T.2.1 46 at0) dL_goes_93 rfl ⟨by decide, rfl, rfl⟩ (by omega) (by omega) rfl ?_
        refine g_fnS (as := [zI (T.2.1 46 at0)]) (q := 97) (u' := 0) dL_goes_94 rfl ck_L_114 rfl rfl (Nat.le_of_ble_eq_true rfl) ⟨Nat.le_of_ble_eq_true rfl, Nat.le_of_ble_eq_true rfl⟩ rfl (by decide) (s_L_isGone (by omega)) rfl ?_
        refine g_if_eq (t := 109) (q := 100) dL_goes_97 (by decide) rfl (fun h97 => ?_) (fun h97 => (False.elim (by omega)))
        refine g_iload (q := 111) dL_goes_109 rfl rfl ?_
        refine g_iload_n (i := 1) (q := 112) dL_goes_111 rfl rfl rfl ?_
        refine g_aload_n (i := 3) (q := 113) dL_goes_112 rfl rfl rfl ?_
        refine g_aload (q := 115) dL_goes_113 rfl rfl ?_
        refine g_fnS (as := [zI at0, zI i, zR 7, zR 48]) (q := 118) (u' := 0) dL_goes_115 rfl ck_L_119 rfl rfl (Nat.le_of_ble_eq_true rfl) ⟨Nat.le_of_ble_eq_true rfl, Nat.le_of_ble_eq_true rfl⟩ rfl (by decide) (s_L_isWith (by omega) (by omega) hT) rfl ?_
        refine g_istore (q := 120) dL_goes_118 rfl (Nat.le_of_ble_eq_true rfl) ?_
        refine g_iload (q := 122) dL_goes_120 rfl rfl ?_
        refine g_if_ne (t := 140) (q := 125) dL_goes_122 (by decide) rfl (fun h122 => ?_) (fun h122 => ?_)
        · refine g_iconst (q := 141) dL_goes_140 rfl ⟨by decide, by decide⟩ ?_
          refine g_istore (q := 143) dL_goes_141 rfl (Nat.le_of_ble_eq_true rfl) ?_
          exact ka _ _ (by omega)
        · refine g_iload (q := 127) dL_goes_125 rfl rfl ?_
          refine g_iload (q := 129) dL_goes_127 rfl rfl ?_
          refine g_icmp_eq (t := 140) (q := 132) dL_goes_129 (by decide) rfl (fun h129 => ?_) (fun h129 => ?_)
          · refine g_iconst (q := 141) dL_goes_140 rfl ⟨by decide, by decide⟩ ?_
            refine g_istore (q := 143) dL_goes_141 rfl (Nat.le_of_ble_eq_true rfl) ?_
            exact ka _ _ (by omega)
          · refine g_iload_n (i := 2) (q := 133) dL_goes_132 rfl rfl rfl ?_
            refine g_if_eq (t := 140) (q := 136) dL_goes_133 (by decide) rfl (fun h133 => ?_) (fun h133 => ?_)
            · refine g_iconst (q := 141) dL_goes_140 rfl ⟨by decide, by decide⟩ ?_
              refine g_istore (q := 143) dL_goes_141 rfl (Nat.le_of_ble_eq_true rfl) ?_
              exact ka _ _ (by omega)
            · refine g_iconst (q := 137) dL_goes_136 rfl ⟨by decide, by decide⟩ ?_
              refine g_goto (q := 0) (t := 141) dL_goes_137 (by decide) ?_
              refine g_istore (q := 143) dL_goes_141 rfl (Nat.le_of_ble_eq_true rfl) ?_
              exact ka _ _ (by omega)
      · rw [if_neg g1, if_pos g2, zrow_of (m := m) rfl t1, ← er] at hQ
        refine g_aload (q := 75) dL_goes_73 rfl rfl ?_
        refine g_iload_n (i := 1) (q := 76) dL_goes_75 rfl rfl rfl ?_
        refine g_ildv (q := 77) (z := T.2.1 40 i) dL_goes_76 rfl ⟨by decide, rfl, rfl⟩ (by omega) (by omega) rfl ?_
        refine g_iload (q := 79) dL_goes_77 rfl rfl ?_
        refine g_icmp_ne (t := 89) (q := 82) dL_goes_79 (by decide) rfl (fun h79 => ?_) (fun h79 => (False.elim (by omega)))
        refine g_aload (q := 91) dL_goes_89 rfl rfl ?_
        refine g_iload (q := 93) dL_goes_91 rfl rfl ?_
        refine g_ildv (q := 94) (z := T.2.1 46 at0) dL_goes_93 rfl ⟨by decide, rfl, rfl⟩ (by omega) (by omega) rfl ?_
        refine g_fnS (as := [zI (T.2.1 46 at0)]) (q := 97) (u' := 0) dL_goes_94 rfl ck_L_114 rfl rfl (Nat.le_of_ble_eq_true rfl) ⟨Nat.le_of_ble_eq_true rfl, Nat.le_of_ble_eq_true rfl⟩ rfl (by decide) (s_L_isGone (by omega)) rfl ?_
        refine g_if_eq (t := 109) (q := 100) dL_goes_97 (by decide) rfl (fun h97 => (False.elim (by omega))) (fun h97 => ?_)
        refine g_lload (q := 102) dL_goes_100 rfl rfl ?_
        refine g_iconst (q := 103) dL_goes_102 rfl ⟨by decide, by decide⟩ ?_
        refine g_lshlv (q := 104) (z := row * 8) dL_goes_103 rfl (zLshl_p (p := 8) 3 (by decide) (by decide) (by omega) (by omega)) ?_
        refine g_ldc2 (z := 4) (q := 107) dL_goes_104 rfl (z_big_of (by decide +kernel) rfl) (by constructor <;> decide) ?_
        refine g_lorv (q := 108) (z := row * 8 + 4) dL_goes_107 rfl (zLor_p (p := 8) 3 (by decide) (by omega) (by omega) (by omega) (by omega) (by omega)) ?_
        exact g_retL dL_goes_108 rfl (by decide) hQ
end
theorem s_L_goes {S T : zS} {f i w : Int} (hR : Rel S T) (hb : zAb S) (hf : 0 ≤ f ∧ f < 6) (hi : 0 ≤ i ∧ i < 12) (hw : 0 ≤ w ∧ w ≤ 2) : z_Fn mL_goes [zI f, zI i, zI w, zR 7, zR 40, zR 48, zR 46] T (some (zL (zrow (x_tc S f (zdg i) w)))) T := by
  have hd := zdg_rng hi
  have hh := hR.hold (i / 3) (by omega) (by omega)
  have hs := hR.serv i hi.1 hi.2
  obtain ⟨hm, eh⟩ : ∃ a, a = T.2.1 7 (i / 3) := ⟨_, rfl⟩
  have e0 : zenc ((x_hb S f).2.1 39) 1 = f + 1 := by
    rw [zenc, zenc]
    unfold x_hb
    rw [za_sS]
    show 0 * 16 + ((z_sA S 39 0 f).2.1 39 0 + 1) = _
    rw [za_eq]
    omega
  unfold x_tc
  rw [hd.2.2, ← hh.1, ← hs.1]
  refine z_enter (by decide +kernel) rfl (z_n1 trivial (z_n1 trivial (z_n1 trivial (z_n1 trivial (z_n1 trivial (z_n1 trivial (z_n1 trivial z_n0))))))) (Nat.le_of_ble_eq_true rfl) ?_
  by_cases c1 : T.2.1 7 (i / 3) = -1
  · rw [if_pos c1, zrow_of (m := 1) rfl rfl, e0]
    refine g_aload_n (i := 3) (q := 1) dL_goes_0 rfl rfl rfl ?_
    refine g_iload_n (i := 1) (q := 2) dL_goes_1 rfl rfl rfl ?_
    refine g_iconst (q := 3) dL_goes_2 rfl ⟨by decide, by decide⟩ ?_
    refine g_idiv (q := 4) dL_goes_3 rfl (by omega) (by omega) ?_
    refine g_ildv (q := 5) (z := T.2.1 7 (i / 3)) dL_goes_4 rfl ⟨by decide, rfl, rfl⟩ (by omega) (by omega) rfl ?_
    refine g_istore (q := 7) dL_goes_5 rfl (Nat.le_of_ble_eq_true rfl) ?_
    refine g_iload_n (i := 0) (q := 8) dL_goes_7 rfl rfl rfl ?_
    refine g_i2l (q := 9) dL_goes_8 rfl ?_
    refine g_lconst (q := 10) (z := 1) dL_goes_9 rfl ⟨by decide, by decide⟩ rfl ?_
    refine g_laddv (q := 11) (z := f + 1) dL_goes_10 rfl rfl (by constructor <;> omega) ?_
    refine g_lstore (q := 13) dL_goes_11 rfl (Nat.le_of_ble_eq_true rfl) (by decide) ?_
    refine g_iload (q := 15) dL_goes_13 rfl rfl ?_
    refine g_iconst (q := 16) dL_goes_15 rfl ⟨by decide, by decide⟩ ?_
    refine g_icmp_ne (t := 26) (q := 19) dL_goes_16 (by decide) rfl (fun h16 => (False.elim (by omega))) (fun h16 => ?_)
    refine g_lload (q := 21) dL_goes_19 rfl rfl ?_
    refine g_iconst (q := 22) dL_goes_21 rfl ⟨by decide, by decide⟩ ?_
    refine g_lshlv (q := 23) (z := (f + 1) * 8) dL_goes_22 rfl (zLshl_p (p := 8) 3 (by decide) (by decide) (by omega) (by omega)) ?_
    refine g_lconst (q := 24) (z := 1) dL_goes_23 rfl ⟨by decide, by decide⟩ rfl ?_
    refine g_lorv (q := 25) (z := (f + 1) * 8 + 1) dL_goes_24 rfl (zLor_p (p := 8) 3 (by decide) (by omega) (by omega) (by omega) (by omega) (by omega)) ?_
    exact g_retL dL_goes_25 rfl (by decide) (by first | exact ⟨rfl, rfl⟩ | (exfalso; omega))
  · rw [if_neg c1]
    by_cases c2 : T.2.1 40 i = -1
    · rw [if_pos c2]
      by_cases c3 : T.2.1 7 (i / 3) = f
      · rw [if_pos c3, zrow_of (m := 1) rfl rfl, e0]
        refine g_aload_n (i := 3) (q := 1) dL_goes_0 rfl rfl rfl ?_
        refine g_iload_n (i := 1) (q := 2) dL_goes_1 rfl rfl rfl ?_
        refine g_iconst (q := 3) dL_goes_2 rfl ⟨by decide, by decide⟩ ?_
        refine g_idiv (q := 4) dL_goes_3 rfl (by omega) (by omega) ?_
        refine g_ildv (q := 5) (z := T.2.1 7 (i / 3)) dL_goes_4 rfl ⟨by decide, rfl, rfl⟩ (by omega) (by omega) rfl ?_
        refine g_istore (q := 7) dL_goes_5 rfl (Nat.le_of_ble_eq_true rfl) ?_
        refine g_iload_n (i := 0) (q := 8) dL_goes_7 rfl rfl rfl ?_
        refine g_i2l (q := 9) dL_goes_8 rfl ?_
        refine g_lconst (q := 10) (z := 1) dL_goes_9 rfl ⟨by decide, by decide⟩ rfl ?_
        refine g_laddv (q := 11) (z := f + 1) dL_goes_10 rfl rfl (by constructor <;> omega) ?_
        refine g_lstore (q := 13) dL_goes_11 rfl (Nat.le_of_ble_eq_true rfl) (by decide) ?_
        refine g_iload (q := 15) dL_goes_13 rfl rfl ?_
        refine g_iconst (q := 16) dL_goes_15 rfl ⟨by decide, by decide⟩ ?_
        refine g_icmp_ne (t := 26) (q := 19) dL_goes_16 (by decide) rfl (fun h16 => ?_) (fun h16 => (False.elim (by omega)))
        refine g_aload (q := 28) dL_goes_26 rfl rfl ?_
        refine g_iload_n (i := 1) (q := 29) dL_goes_28 rfl rfl rfl ?_
        refine g_ildv (q := 30) (z := T.2.1 40 i) dL_goes_29 rfl ⟨by decide, rfl, rfl⟩ (by omega) (by omega) rfl ?_
        refine g_iconst (q := 31) dL_goes_30 rfl ⟨by decide, by decide⟩ ?_
        refine g_icmp_ne (t := 62) (q := 34) dL_goes_31 (by decide) rfl (fun h31 => (False.elim (by omega))) (fun h31 => ?_)
        refine g_iload (q := 36) dL_goes_34 rfl rfl ?_
        refine g_iload_n (i := 0) (q := 37) dL_goes_36 rfl rfl rfl ?_
        refine g_icmp_ne (t := 45) (q := 40) dL_goes_37 (by decide) rfl (fun h37 => (False.elim (by omega))) (fun h37 => ?_)
        refine g_lload (q := 42) dL_goes_40 rfl rfl ?_
        refine g_goto (q := 0) (t := 55) dL_goes_42 (by decide) ?_
        refine g_iconst (q := 56) dL_goes_55 rfl ⟨by decide, by decide⟩ ?_
        refine g_lshlv (q := 57) (z := (f + 1) * 8) dL_goes_56 rfl (zLshl_p (p := 8) 3 (by decide) (by decide) (by omega) (by omega)) ?_
        refine g_ldc2 (z := 2) (q := 60) dL_goes_57 rfl (z_big_of (by decide +kernel) rfl) (by constructor <;> decide) ?_
        refine g_lorv (q := 61) (z := (f + 1) * 8 + 2) dL_goes_60 rfl (zLor_p (p := 8) 3 (by decide) (by omega) (by omega) (by omega) (by omega) (by omega)) ?_
        exact g_retL dL_goes_61 rfl (by decide) (by first | exact ⟨rfl, rfl⟩ | (exfalso; omega))
      · rw [if_neg c3, zrow_of (m := 2) rfl rfl, zenc_ha (m := 1) rfl, e0]
        refine g_aload_n (i := 3) (q := 1) dL_goes_0 rfl rfl rfl ?_
        refine g_iload_n (i := 1) (q := 2) dL_goes_1 rfl rfl rfl ?_
        refine g_iconst (q := 3) dL_goes_2 rfl ⟨by decide, by decide⟩ ?_
        refine g_idiv (q := 4) dL_goes_3 rfl (by omega) (by omega) ?_
        refine g_ildv (q := 5) (z := T.2.1 7 (i / 3)) dL_goes_4 rfl ⟨by decide, rfl, rfl⟩ (by omega) (by omega) rfl ?_
        refine g_istore (q := 7) dL_goes_5 rfl (Nat.le_of_ble_eq_true rfl) ?_
        refine g_iload_n (i := 0) (q := 8) dL_goes_7 rfl rfl rfl ?_
        refine g_i2l (q := 9) dL_goes_8 rfl ?_
        refine g_lconst (q := 10) (z := 1) dL_goes_9 rfl ⟨by decide, by decide⟩ rfl ?_
        refine g_laddv (q := 11) (z := f + 1) dL_goes_10 rfl rfl (by constructor <;> omega) ?_
        refine g_lstore (q := 13) dL_goes_11 rfl (Nat.le_of_ble_eq_true rfl) (by decide) ?_
        refine g_iload (q := 15) dL_goes_13 rfl rfl ?_
        refine g_iconst (q := 16) dL_goes_15 rfl ⟨by decide, by decide⟩ ?_
        refine g_icmp_ne (t := 26) (q := 19) dL_goes_16 (by decide) rfl (fun h16 => ?_) (fun h16 => (False.elim (by omega)))
        refine g_aload (q := 28) dL_goes_26 rfl rfl ?_
        refine g_iload_n (i := 1) (q := 29) dL_goes_28 rfl rfl rfl ?_
        refine g_ildv (q := 30) (z := T.2.1 40 i) dL_goes_29 rfl ⟨by decide, rfl, rfl⟩ (by omega) (by omega) rfl ?_
        refine g_iconst (q := 31) dL_goes_30 rfl ⟨by decide, by decide⟩ ?_
        refine g_icmp_ne (t := 62) (q := 34) dL_goes_31 (by decide) rfl (fun h31 => (False.elim (by omega))) (fun h31 => ?_)
        refine g_iload (q := 36) dL_goes_34 rfl rfl ?_
        refine g_iload_n (i := 0) (q := 37) dL_goes_36 rfl rfl rfl ?_
        refine g_icmp_ne (t := 45) (q := 40) dL_goes_37 (by decide) rfl (fun h37 => ?_) (fun h37 => (False.elim (by omega)))
        refine g_lload (q := 47) dL_goes_45 rfl rfl ?_
        refine g_iconst (q := 48) dL_goes_47 rfl ⟨by decide, by decide⟩ ?_
        refine g_lshlv (q := 49) (z := (f + 1) * 16) dL_goes_48 rfl (zLshl_p (p := 16) 4 (by decide) (by decide) (by omega) (by omega)) ?_
        refine g_iload (q := 51) dL_goes_49 rfl rfl ?_
        refine g_i2l (q := 52) dL_goes_51 rfl ?_
        refine g_lconst (q := 53) (z := 1) dL_goes_52 rfl ⟨by decide, by decide⟩ rfl ?_
        refine g_laddv (q := 54) (z := (T.2.1 7 (i / 3)) + 1) dL_goes_53 rfl rfl (by constructor <;> omega) ?_
        refine g_lorv (q := 55) (z := (f + 1) * 16 + (T.2.1 7 (i / 3) + 1)) dL_goes_54 rfl (zLor_p (p := 16) 4 (by decide) (by omega) (by omega) (by omega) (by omega) (by omega)) ?_
        refine g_iconst (q := 56) dL_goes_55 rfl ⟨by decide, by decide⟩ ?_
        refine g_lshlv (q := 57) (z := ((f + 1) * 16 + (T.2.1 7 (i / 3) + 1)) * 8) dL_goes_56 rfl (zLshl_p (p := 8) 3 (by decide) (by decide) (by omega) (by omega)) ?_
        refine g_ldc2 (z := 2) (q := 60) dL_goes_57 rfl (z_big_of (by decide +kernel) rfl) (by constructor <;> decide) ?_
        refine g_lorv (q := 61) (z := ((f + 1) * 16 + (T.2.1 7 (i / 3) + 1)) * 8 + 2) dL_goes_60 rfl (zLor_p (p := 8) 3 (by decide) (by omega) (by omega) (by omega) (by omega) (by omega)) ?_
        exact g_retL dL_goes_61 rfl (by decide) (by first | exact ⟨rfl, rfl⟩ | (exfalso; omega))
    · rw [if_neg c2]
      obtain ⟨fn, hfn⟩ := zb_nat hf.1
      obtain ⟨y1, y2, y3, y4⟩ := zseen1 fn (by omega)
      have X := xT_hb hf ⟨hd.1, hd.2.1⟩ (by rw [hd.2.2]; omega) (fun g a b => hR.tabr g (zdg i) a b hd.1 hd.2.1)
      rw [hd.2.2, ← hh.1] at X
      have e39 : (x_hb S f).2.1 39 0 = f := by
        unfold x_hb
        rw [za_sS, za_eq]
      have hl := l_L_goes (Q := fun x U => x = .ok (some (zL (zrow (x_ft (x_hb S f) (zdg i) w (T.2.1 7 (i / 3)) 1 6)))) ∧ U = T) hR hb hf hi hw rfl 6 1 (x_hb S f) (2 ^ fn) (f + 1) (by omega) X rfl rfl (fun g a b => by
        rw [← hR.pbt ⟨a, b⟩ hi]
        unfold x_pbt
        rw [show (x_hb S f).2.1 8 = S.2.1 8 from rfl, show (x_hb S f).2.1 (30 + g.toNat) (zdg i) = S.2.1 (30 + g.toNat) (zdg i) by unfold x_hb; rw [za_sS, za_ne (by omega)]]) e39 e0.symm y2 y3 (fun g hg => by
        rw [y4 g hg]
        by_cases c : g = fn
        · subst c
          rw [if_pos rfl]
          exact ⟨fun _ => ⟨0, by omega, by rw [show ((0 : Nat) : Int) = 0 from rfl, e39]; exact hfn⟩, fun _ => rfl⟩
        · rw [if_neg c]
          constructor
          · intro q; omega
          · rintro ⟨j, a, b⟩
            rw [show (j : Int) = 0 by omega, e39] at b
            omega) ⟨rfl, rfl⟩ none none none
      rw [show ((1 : Nat) : Int) - 1 = 0 from rfl, e39] at hl
      refine g_aload_n (i := 3) (q := 1) dL_goes_0 rfl rfl rfl ?_
      refine g_iload_n (i := 1) (q := 2) dL_goes_1 rfl rfl rfl ?_
      refine g_iconst (q := 3) dL_goes_2 rfl ⟨by decide, by decide⟩ ?_
      refine g_idiv (q := 4) dL_goes_3 rfl (by omega) (by omega) ?_
      refine g_ildv (q := 5) (z := T.2.1 7 (i / 3)) dL_goes_4 rfl ⟨by decide, rfl, rfl⟩ (by omega) (by omega) rfl ?_
      refine g_istore (q := 7) dL_goes_5 rfl (Nat.le_of_ble_eq_true rfl) ?_
      refine g_iload_n (i := 0) (q := 8) dL_goes_7 rfl rfl rfl ?_
      refine g_i2l (q := 9) dL_goes_8 rfl ?_
      refine g_lconst (q := 10) (z := 1) dL_goes_9 rfl ⟨by decide, by decide⟩ rfl ?_
      refine g_laddv (q := 11) (z := f + 1) dL_goes_10 rfl rfl (by constructor <;> omega) ?_
      refine g_lstore (q := 13) dL_goes_11 rfl (Nat.le_of_ble_eq_true rfl) (by decide) ?_
      refine g_iload (q := 15) dL_goes_13 rfl rfl ?_
      refine g_iconst (q := 16) dL_goes_15 rfl ⟨by decide, by decide⟩ ?_
      refine g_icmp_ne (t := 26) (q := 19) dL_goes_16 (by decide) rfl (fun h16 => ?_) (fun h16 => (False.elim (by omega)))
      refine g_aload (q := 28) dL_goes_26 rfl rfl ?_
      refine g_iload_n (i := 1) (q := 29) dL_goes_28 rfl rfl rfl ?_
      refine g_ildv (q := 30) (z := T.2.1 40 i) dL_goes_29 rfl ⟨by decide, rfl, rfl⟩ (by omega) (by omega) rfl ?_
      refine g_iconst (q := 31) dL_goes_30 rfl ⟨by decide, by decide⟩ ?_
      refine g_icmp_ne (t := 62) (q := 34) dL_goes_31 (by decide) rfl (fun h31 => ?_) (fun h31 => (False.elim (by omega)))
      refine g_iconst (q := 63) dL_goes_62 rfl ⟨by decide, by decide⟩ ?_
      refine g_iload_n (i := 0) (q := 64) dL_goes_63 rfl rfl rfl ?_
      refine g_ishlv (q := 65) (z := ((2 ^ fn : Nat) : Int)) dL_goes_64 rfl ((by rw [hfn]; exact y1)) ?_
      refine g_istore (q := 67) dL_goes_65 rfl (Nat.le_of_ble_eq_true rfl) ?_
      refine g_iload_n (i := 0) (q := 68) dL_goes_67 rfl rfl rfl ?_
      refine g_istore (q := 70) dL_goes_68 rfl (Nat.le_of_ble_eq_true rfl) ?_
      refine g_iconst (q := 71) dL_goes_70 rfl ⟨by decide, by decide⟩ ?_
      refine g_istore (q := 73) dL_goes_71 rfl (Nat.le_of_ble_eq_true rfl) ?_
      exact hl
