/-! ===== what is made: the reference ===== -/
theorem np_7_2 (qa : Nat) : n_fp 7 2 (.ref qa) := ⟨RX7, TX7, 28, tyX7, tyX7 2, rfl, tyX7_ok, nmX7, tyX7_ok 2 (by decide), rfl, rfl⟩
theorem np_7_3 (qa : Nat) : n_fp 7 3 (.ref qa) := ⟨RX7, TX7, 28, tyX7, tyX7 3, rfl, tyX7_ok, nmX7, tyX7_ok 3 (by decide), rfl, rfl⟩
theorem np_7_4 (qa : Nat) : n_fp 7 4 (.ref qa) := ⟨RX7, TX7, 28, tyX7, tyX7 4, rfl, tyX7_ok, nmX7, tyX7_ok 4 (by decide), rfl, rfl⟩
theorem np_7_5 (qa : Nat) : n_fp 7 5 (.ref qa) := ⟨RX7, TX7, 28, tyX7, tyX7 5, rfl, tyX7_ok, nmX7, tyX7_ok 5 (by decide), rfl, rfl⟩
theorem np_7_6 (qa : Nat) : n_fp 7 6 (.ref qa) := ⟨RX7, TX7, 28, tyX7, tyX7 6, rfl, tyX7_ok, nmX7, tyX7_ok 6 (by decide), rfl, rfl⟩
theorem np_7_7 (qa : Nat) : n_fp 7 7 (.ref qa) := ⟨RX7, TX7, 28, tyX7, tyX7 7, rfl, tyX7_ok, nmX7, tyX7_ok 7 (by decide), rfl, rfl⟩
theorem np_7_8 (qa : Nat) : n_fp 7 8 (.ref qa) := ⟨RX7, TX7, 28, tyX7, tyX7 8, rfl, tyX7_ok, nmX7, tyX7_ok 8 (by decide), rfl, rfl⟩
theorem np_7_9 (qa : Nat) : n_fp 7 9 (.ref qa) := ⟨RX7, TX7, 28, tyX7, tyX7 9, rfl, tyX7_ok, nmX7, tyX7_ok 9 (by decide), rfl, rfl⟩
theorem np_7_11 (qa : Nat) : n_fp 7 11 (.ref qa) := ⟨RX7, TX7, 28, tyX7, tyX7 11, rfl, tyX7_ok, nmX7, tyX7_ok 11 (by decide), rfl, rfl⟩
theorem np_7_12 (qa : Nat) : n_fp 7 12 (.ref qa) := ⟨RX7, TX7, 28, tyX7, tyX7 12, rfl, tyX7_ok, nmX7, tyX7_ok 12 (by decide), rfl, rfl⟩
theorem np_7_13 (qa : Nat) : n_fp 7 13 (.ref qa) := ⟨RX7, TX7, 28, tyX7, tyX7 13, rfl, tyX7_ok, nmX7, tyX7_ok 13 (by decide), rfl, rfl⟩
theorem np_7_14 (qa : Nat) : n_fp 7 14 (.ref qa) := ⟨RX7, TX7, 28, tyX7, tyX7 14, rfl, tyX7_ok, nmX7, tyX7_ok 14 (by decide), rfl, rfl⟩
theorem np_7_15 (qa : Nat) : n_fp 7 15 (.ref qa) := ⟨RX7, TX7, 28, tyX7, tyX7 15, rfl, tyX7_ok, nmX7, tyX7_ok 15 (by decide), rfl, rfl⟩
theorem np_7_16 (qa : Nat) : n_fp 7 16 (.ref qa) := ⟨RX7, TX7, 28, tyX7, tyX7 16, rfl, tyX7_ok, nmX7, tyX7_ok 16 (by decide), rfl, rfl⟩
theorem np_7_17 (qa : Nat) : n_fp 7 17 (.ref qa) := ⟨RX7, TX7, 28, tyX7, tyX7 17, rfl, tyX7_ok, nmX7, tyX7_ok 17 (by decide), rfl, rfl⟩
theorem np_7_19 (qa : Nat) : n_fp 7 19 (.ref qa) := ⟨RX7, TX7, 28, tyX7, tyX7 19, rfl, tyX7_ok, nmX7, tyX7_ok 19 (by decide), rfl, rfl⟩
theorem np_7_20 (qa : Nat) : n_fp 7 20 (.ref qa) := ⟨RX7, TX7, 28, tyX7, tyX7 20, rfl, tyX7_ok, nmX7, tyX7_ok 20 (by decide), rfl, rfl⟩
theorem np_7_21 (qa : Nat) : n_fp 7 21 (.ref qa) := ⟨RX7, TX7, 28, tyX7, tyX7 21, rfl, tyX7_ok, nmX7, tyX7_ok 21 (by decide), rfl, rfl⟩
theorem np_7_22 (qa : Nat) : n_fp 7 22 (.ref qa) := ⟨RX7, TX7, 28, tyX7, tyX7 22, rfl, tyX7_ok, nmX7, tyX7_ok 22 (by decide), rfl, rfl⟩
theorem np_7_23 (qa : Nat) : n_fp 7 23 (.ref qa) := ⟨RX7, TX7, 28, tyX7, tyX7 23, rfl, tyX7_ok, nmX7, tyX7_ok 23 (by decide), rfl, rfl⟩
theorem np_7_24 (qa : Nat) : n_fp 7 24 (.ref qa) := ⟨RX7, TX7, 28, tyX7, tyX7 24, rfl, tyX7_ok, nmX7, tyX7_ok 24 (by decide), rfl, rfl⟩
theorem np_7_25 (qa : Nat) : n_fp 7 25 (.ref qa) := ⟨RX7, TX7, 28, tyX7, tyX7 25, rfl, tyX7_ok, nmX7, tyX7_ok 25 (by decide), rfl, rfl⟩
theorem np_7_27 (qa : Nat) : n_fp 7 27 (.ref qa) := ⟨RX7, TX7, 28, tyX7, tyX7 27, rfl, tyX7_ok, nmX7, tyX7_ok 27 (by decide), rfl, rfl⟩
abbrev mX7_init : zM := (yX7_init, cX7_init, 2, none, [], 1, 23, 0)
abbrev d_X7 : List Value := [.int 0, .int 0, .null, .null, .null, .null, .null, .null, .null, .null, .int 0, .null, .null, .null, .null, .null, .null, .null, .int 0, .null, .null, .null, .null, .null, .null, .null, .int 0, .null]
abbrev f_X7 (r : Nat → Nat) : List Value := [.int 0, .int 0, .ref (r 0), .ref (r 1), .ref (r 2), .ref (r 3), .ref (r 4), .ref (r 5), .ref (r 6), .ref (r 7), .int 0, .ref (r 8), .ref (r 9), .ref (r 10), .ref (r 11), .ref (r 12), .ref (r 13), .ref (r 14), .int 0, .ref (r 15), .ref (r 16), .ref (r 17), .ref (r 18), .ref (r 19), .ref (r 20), .ref (r 21), .int 0, .ref (r 22)]
abbrev w_X7 (E : zE) (r : Nat → Nat) (g0 g1 g2 g3 g4 g5 : Nat → Int32) : va_W := [(r 0, .inl (e_cy E 0, 20, .inl g0)), (r 1, n_ba E 6), (r 2, .inl (e_cy E 0, 200, .inl g1)), (r 3, n_ia E 200), (r 4, .inl (e_cy E 0, 200, .inl g3)), (r 5, .inl (e_cy E 0, 200, .inl g4)), (r 6, .inl (e_cy E 0, 200, .inl g5)), (r 7, .inl (e_cy E 0, 200, .inl g2)), (r 8, n_ia E 60), (r 9, n_ia E 60), (r 10, n_ia E 60), (r 11, n_ia E 60), (r 12, n_ia E 60), (r 13, n_ia E 60), (r 14, n_ia E 60), (r 15, n_ia E 4000), (r 16, n_ia E 4000), (r 17, n_ia E 4000), (r 18, n_ia E 6), (r 19, n_ia E 6), (r 20, n_ba E 6), (r 21, n_ia E 6), (r 22, n_ia E 8)]
abbrev e_X7 (E : zE) (r : Nat → Nat) : va_W := w_X7 E r (fun _ => Int32.ofInt (-1)) (fun _ => Int32.ofInt (-1)) (fun _ => Int32.ofInt (-1)) (fun _ => Int32.ofInt (-1000)) (fun _ => Int32.ofInt (-1000)) (fun _ => Int32.ofInt (-1000))
theorem n_norm {E : zE} {M : zM} {Q : State → Prop} {p : Program} {l : Launch} {e : Env} {R : Room} {s : State} {m : MethodId} {args : Array Value} {below : List Frame} {meth : Method} {c : Code} {cells slots pc : Nat} {al : List (Nat × Value)} {st : List Value} {ws new new' : va_W} {q0 h0 ci : Nat} {fs fs' : List Value} (hf : fs = fs') (hn : new = new') (k : n_G E M Q p l e R s m args below meth c cells slots pc al st (ws.set q0 (h0, .inr (ci, fs')) ++ new')) : n_G E M Q p l e R s m args below meth c cells slots pc al st (ws.set q0 (h0, .inr (ci, fs)) ++ new) := by
  rw [hf, hn]
  exact k
theorem n_upd {g : Nat → Int32} {i : Nat} {v : Int} (h : ∀ j, j < i → g j = Int32.ofInt v) : ∀ j, j < i + 1 → upd g ((i : Nat) : Int).toNat (Int32.ofInt v) j = Int32.ofInt v := by
  intro j hj
  show (if j = ((i : Nat) : Int).toNat then Int32.ofInt v else g j) = Int32.ofInt v
  by_cases hji : j = i
  · rw [if_pos (by omega)]
  · rw [if_neg (by omega)]
    exact h j (by omega)
section
variable {E : zE} {Q : State → Prop} {p : Program} {l : Launch} {e : Env} {R : Room} {s : State} {m : MethodId} {args : Array Value} {below : List Frame} {meth : Method} {c : Code} {cells slots : Nat} {ws : va_W}
set_option maxRecDepth 20000 in
theorem n_loop1 (C : n_Cx E mX7_init p R s m args meth c) {q0 h0 : Nat} {x : Nat × va_E} {r : Nat → Nat} {g1 g2 g3 g4 g5 : Nat → Int32} (h9 : ws[q0]? = some x) (kk : n_G E mX7_init Q p l e R s m args below meth c cells slots 218 [(0, .ref h0)] [] (ws.set q0 (h0, .inr (7, f_X7 r)) ++ w_X7 E r (fun _ => Int32.ofInt (-1)) g1 g2 g3 g4 g5)) : ∀ (k i : Nat) (g : Nat → Int32), i + k = 20 → (∀ j, j < i → g j = Int32.ofInt (-1)) →
    n_G E mX7_init Q p l e R s m args below meth c cells slots 199 [(1, .int (Int32.ofInt (i : Int))), (0, .ref h0)] [] (ws.set q0 (h0, .inr (7, f_X7 r)) ++ w_X7 E r g g1 g2 g3 g4 g5) := by
  intro k
  induction k with
  | zero =>
    intro i g hi hg
    refine n_iload C (i := 1) (q := 200) dX7_init_199 rfl rfl 0 rfl ?_
    refine n_int C (z := 20) (q := 202) (.inl ⟨dX7_init_200, rfl, rfl⟩) ?_
    refine n_icmp_ge C (t := 218) (q := 205) dX7_init_202 (by decide) rfl ⟨by omega, by omega⟩ ⟨by omega, by omega⟩ (fun h => ?_) (fun h => absurd h (by omega))
    refine n_conv (q0 := ws.length + 0) (a := r 0) (n := 20) (cA := e_cy E 0) (f := g) (g := fun _ => Int32.ofInt (-1)) (n_nat.trans rfl) (fun j hj => hg j (by omega)) ?_
    rw [n_nset]
    exact n_sub [1] rfl kk
  | succ k ih =>
    intro i g hi hg
    refine n_iload C (i := 1) (q := 200) dX7_init_199 rfl rfl 0 rfl ?_
    refine n_int C (z := 20) (q := 202) (.inl ⟨dX7_init_200, rfl, rfl⟩) ?_
    refine n_icmp_ge C (t := 218) (q := 205) dX7_init_202 (by decide) rfl ⟨by omega, by omega⟩ ⟨by omega, by omega⟩ (fun h => absurd h (by omega)) (fun h => ?_)
    refine n_aload C (i := 0) (q := 206) dX7_init_205 rfl rfl 1 rfl ?_
    refine n_get C (q := 209) dX7_init_206 rfl fk_X7_7 (n_at h9) rfl ?_
    refine n_iload C (i := 1) (q := 210) dX7_init_209 rfl rfl 0 rfl ?_
    refine n_int C (z := -1) (q := 211) (.inr (.inr ⟨dX7_init_210, rfl⟩)) ?_
    refine n_iast C (q := 212) (q0 := ws.length + 0) (n := 20) (g := g) dX7_init_211 rfl (n_nat.trans rfl) ⟨by omega, by omega⟩ (by omega) (by omega) ?_
    rw [n_nset]
    refine n_iinc C (q := 215) (i := 1) dX7_init_212 rfl 0 rfl (by decide) rfl ?_
    refine n_goto C (q := 199) dX7_init_215 (by decide) ?_
    exact ih (i + 1) (upd g ((i : Nat) : Int).toNat (Int32.ofInt (-1))) (by omega) (n_upd hg)
set_option maxRecDepth 20000 in
theorem n_loop2 (C : n_Cx E mX7_init p R s m args meth c) {q0 h0 : Nat} {x : Nat × va_E} {r : Nat → Nat} {g0 : Nat → Int32} (h9 : ws[q0]? = some x) (kk : n_G E mX7_init Q p l e R s m args below meth c cells slots 274 [(0, .ref h0)] [] (ws.set q0 (h0, .inr (7, f_X7 r)) ++ w_X7 E r g0 (fun _ => Int32.ofInt (-1)) (fun _ => Int32.ofInt (-1)) (fun _ => Int32.ofInt (-1000)) (fun _ => Int32.ofInt (-1000)) (fun _ => Int32.ofInt (-1000)))) : ∀ (k i : Nat) (g1 g2 g3 g4 g5 : Nat → Int32), i + k = 200 → (∀ j, j < i → g1 j = Int32.ofInt (-1)) → (∀ j, j < i → g2 j = Int32.ofInt (-1)) → (∀ j, j < i → g3 j = Int32.ofInt (-1000)) → (∀ j, j < i → g4 j = Int32.ofInt (-1000)) → (∀ j, j < i → g5 j = Int32.ofInt (-1000)) →
    n_G E mX7_init Q p l e R s m args below meth c cells slots 220 [(1, .int (Int32.ofInt (i : Int))), (0, .ref h0)] [] (ws.set q0 (h0, .inr (7, f_X7 r)) ++ w_X7 E r g0 g1 g2 g3 g4 g5) := by
  intro k
  induction k with
  | zero =>
    intro i g1 g2 g3 g4 g5 hi e1 e2 e3 e4 e5
    refine n_iload C (i := 1) (q := 221) dX7_init_220 rfl rfl 0 rfl ?_
    refine n_int C (z := 200) (q := 224) (.inr (.inl ⟨dX7_init_221, rfl, rfl⟩)) ?_
    refine n_icmp_ge C (t := 274) (q := 227) dX7_init_224 (by decide) rfl ⟨by omega, by omega⟩ ⟨by omega, by omega⟩ (fun h => ?_) (fun h => absurd h (by omega))
    refine n_conv (q0 := ws.length + 2) (a := r 2) (n := 200) (cA := e_cy E 0) (f := g1) (g := fun _ => Int32.ofInt (-1)) (n_nat.trans rfl) (fun j hj => e1 j (by omega)) ?_
    rw [n_nset]
    refine n_conv (q0 := ws.length + 7) (a := r 7) (n := 200) (cA := e_cy E 0) (f := g2) (g := fun _ => Int32.ofInt (-1)) (n_nat.trans rfl) (fun j hj => e2 j (by omega)) ?_
    rw [n_nset]
    refine n_conv (q0 := ws.length + 4) (a := r 4) (n := 200) (cA := e_cy E 0) (f := g3) (g := fun _ => Int32.ofInt (-1000)) (n_nat.trans rfl) (fun j hj => e3 j (by omega)) ?_
    rw [n_nset]
    refine n_conv (q0 := ws.length + 5) (a := r 5) (n := 200) (cA := e_cy E 0) (f := g4) (g := fun _ => Int32.ofInt (-1000)) (n_nat.trans rfl) (fun j hj => e4 j (by omega)) ?_
    rw [n_nset]
    refine n_conv (q0 := ws.length + 6) (a := r 6) (n := 200) (cA := e_cy E 0) (f := g5) (g := fun _ => Int32.ofInt (-1000)) (n_nat.trans rfl) (fun j hj => e5 j (by omega)) ?_
    rw [n_nset]
    exact n_sub [1] rfl kk
  | succ k ih =>
    intro i g1 g2 g3 g4 g5 hi e1 e2 e3 e4 e5
    refine n_iload C (i := 1) (q := 221) dX7_init_220 rfl rfl 0 rfl ?_
    refine n_int C (z := 200) (q := 224) (.inr (.inl ⟨dX7_init_221, rfl, rfl⟩)) ?_
    refine n_icmp_ge C (t := 274) (q := 227) dX7_init_224 (by decide) rfl ⟨by omega, by omega⟩ ⟨by omega, by omega⟩ (fun h => absurd h (by omega)) (fun h => ?_)
    refine n_aload C (i := 0) (q := 228) dX7_init_227 rfl rfl 1 rfl ?_
    refine n_get C (q := 231) dX7_init_228 rfl fk_X7_17 (n_at h9) rfl ?_
    refine n_iload C (i := 1) (q := 232) dX7_init_231 rfl rfl 0 rfl ?_
    refine n_int C (z := -1) (q := 233) (.inr (.inr ⟨dX7_init_232, rfl⟩)) ?_
    refine n_iast C (q := 234) (q0 := ws.length + 2) (n := 200) (g := g1) dX7_init_233 rfl (n_nat.trans rfl) ⟨by omega, by omega⟩ (by omega) (by omega) ?_
    rw [n_nset]
    refine n_aload C (i := 0) (q := 235) dX7_init_234 rfl rfl 1 rfl ?_
    refine n_get C (q := 238) dX7_init_235 rfl fk_X7_32 (n_at h9) rfl ?_
    refine n_iload C (i := 1) (q := 239) dX7_init_238 rfl rfl 0 rfl ?_
    refine n_int C (z := -1) (q := 240) (.inr (.inr ⟨dX7_init_239, rfl⟩)) ?_
    refine n_iast C (q := 241) (q0 := ws.length + 7) (n := 200) (g := g2) dX7_init_240 rfl (n_nat.trans rfl) ⟨by omega, by omega⟩ (by omega) (by omega) ?_
    rw [n_nset]
    refine n_aload C (i := 0) (q := 242) dX7_init_241 rfl rfl 1 rfl ?_
    refine n_get C (q := 245) dX7_init_242 rfl fk_X7_23 (n_at h9) rfl ?_
    refine n_iload C (i := 1) (q := 246) dX7_init_245 rfl rfl 0 rfl ?_
    refine n_int C (z := -1000) (q := 249) (.inr (.inl ⟨dX7_init_246, rfl, rfl⟩)) ?_
    refine n_iast C (q := 250) (q0 := ws.length + 4) (n := 200) (g := g3) dX7_init_249 rfl (n_nat.trans rfl) ⟨by omega, by omega⟩ (by omega) (by omega) ?_
    rw [n_nset]
    refine n_aload C (i := 0) (q := 251) dX7_init_250 rfl rfl 1 rfl ?_
    refine n_get C (q := 254) dX7_init_251 rfl fk_X7_26 (n_at h9) rfl ?_
    refine n_iload C (i := 1) (q := 255) dX7_init_254 rfl rfl 0 rfl ?_
    refine n_int C (z := -1000) (q := 258) (.inr (.inl ⟨dX7_init_255, rfl, rfl⟩)) ?_
    refine n_iast C (q := 259) (q0 := ws.length + 5) (n := 200) (g := g4) dX7_init_258 rfl (n_nat.trans rfl) ⟨by omega, by omega⟩ (by omega) (by omega) ?_
    rw [n_nset]
    refine n_aload C (i := 0) (q := 260) dX7_init_259 rfl rfl 1 rfl ?_
    refine n_get C (q := 263) dX7_init_260 rfl fk_X7_29 (n_at h9) rfl ?_
    refine n_iload C (i := 1) (q := 264) dX7_init_263 rfl rfl 0 rfl ?_
    refine n_int C (z := -1000) (q := 267) (.inr (.inl ⟨dX7_init_264, rfl, rfl⟩)) ?_
    refine n_iast C (q := 268) (q0 := ws.length + 6) (n := 200) (g := g5) dX7_init_267 rfl (n_nat.trans rfl) ⟨by omega, by omega⟩ (by omega) (by omega) ?_
    rw [n_nset]
    refine n_iinc C (q := 271) (i := 1) dX7_init_268 rfl 0 rfl (by decide) rfl ?_
    refine n_goto C (q := 220) dX7_init_271 (by decide) ?_
    exact ih (i + 1) (upd g1 ((i : Nat) : Int).toNat (Int32.ofInt (-1))) (upd g2 ((i : Nat) : Int).toNat (Int32.ofInt (-1))) (upd g3 ((i : Nat) : Int).toNat (Int32.ofInt (-1000))) (upd g4 ((i : Nat) : Int).toNat (Int32.ofInt (-1000))) (upd g5 ((i : Nat) : Int).toNat (Int32.ofInt (-1000))) (by omega) (n_upd e1) (n_upd e2) (n_upd e3) (n_upd e4) (n_upd e5)
end
set_option maxHeartbeats 4000000 in
set_option maxRecDepth 20000 in
theorem k_X7 {E : zE} {ws : va_W} {q0 h0 : Nat} (h9 : ws[q0]? = some (h0, .inr (7, d_X7))) : n_Sp E mX7_init [.ref h0] ws (fun ws' => ∃ r : Nat → Nat, ws' = ws.set q0 (h0, .inr (7, f_X7 r)) ++ e_X7 E r) 23 13678 := by
  refine n_enter (by decide +kernel) (Nat.le_of_ble_eq_true rfl) (fun p l e s m below meth c C => ?_)
  refine n_aload C (i := 0) (q := 1) dX7_init_0 rfl rfl 0 rfl ?_
  refine n_objinit C (q := 4) dX7_init_1 rfl (z_big_of (by decide +kernel) rfl) (Nat.le_of_ble_eq_true rfl) (Nat.le_of_ble_eq_true rfl) n_obj2 ?_
  refine n_start h9 ?_
  refine n_arrI C (z := 20) (N := 20) (q := 12) h9 dX7_init_4 (.inl ⟨dX7_init_5, rfl, rfl⟩) dX7_init_7 dX7_init_9 rfl (k9 := 0) rfl (by decide) (by decide) (Nat.le_of_ble_eq_true rfl) (Nat.le_of_ble_eq_true rfl) (Nat.le_of_ble_eq_true rfl) fk_X7_7 np_7_2 rfl (fun r h => by cases h; rfl) (Nat.le_of_ble_eq_true rfl) (fun u0 => ?_)
  refine n_norm (fs' := [.int 0, .int 0, .ref u0, .null, .null, .null, .null, .null, .null, .null, .int 0, .null, .null, .null, .null, .null, .null, .null, .int 0, .null, .null, .null, .null, .null, .null, .null, .int 0, .null]) (new' := [(u0, n_ia E 20)]) rfl rfl ?_
  refine n_arrZ C (z := 6) (N := 6) (q := 20) h9 dX7_init_12 (.inl ⟨dX7_init_13, rfl, rfl⟩) dX7_init_15 dX7_init_17 rfl (k9 := 0) rfl (by decide) (by decide) (Nat.le_of_ble_eq_true rfl) (Nat.le_of_ble_eq_true rfl) (Nat.le_of_ble_eq_true rfl) fk_X7_13 np_7_3 rfl (fun r h => by cases h; rfl) (Nat.le_of_ble_eq_true rfl) (fun u1 => ?_)
  refine n_norm (fs' := [.int 0, .int 0, .ref u0, .ref u1, .null, .null, .null, .null, .null, .null, .int 0, .null, .null, .null, .null, .null, .null, .null, .int 0, .null, .null, .null, .null, .null, .null, .null, .int 0, .null]) (new' := [(u0, n_ia E 20), (u1, n_ba E 6)]) rfl rfl ?_
  refine n_arrI C (z := 200) (N := 200) (q := 29) h9 dX7_init_20 (.inr (.inl ⟨dX7_init_21, rfl, rfl⟩)) dX7_init_24 dX7_init_26 rfl (k9 := 0) rfl (by decide) (by decide) (Nat.le_of_ble_eq_true rfl) (Nat.le_of_ble_eq_true rfl) (Nat.le_of_ble_eq_true rfl) fk_X7_17 np_7_4 rfl (fun r h => by cases h; rfl) (Nat.le_of_ble_eq_true rfl) (fun u2 => ?_)
  refine n_norm (fs' := [.int 0, .int 0, .ref u0, .ref u1, .ref u2, .null, .null, .null, .null, .null, .int 0, .null, .null, .null, .null, .null, .null, .null, .int 0, .null, .null, .null, .null, .null, .null, .null, .int 0, .null]) (new' := [(u0, n_ia E 20), (u1, n_ba E 6), (u2, n_ia E 200)]) rfl rfl ?_
  refine n_arrI C (z := 200) (N := 200) (q := 38) h9 dX7_init_29 (.inr (.inl ⟨dX7_init_30, rfl, rfl⟩)) dX7_init_33 dX7_init_35 rfl (k9 := 0) rfl (by decide) (by decide) (Nat.le_of_ble_eq_true rfl) (Nat.le_of_ble_eq_true rfl) (Nat.le_of_ble_eq_true rfl) fk_X7_20 np_7_5 rfl (fun r h => by cases h; rfl) (Nat.le_of_ble_eq_true rfl) (fun u3 => ?_)
  refine n_norm (fs' := [.int 0, .int 0, .ref u0, .ref u1, .ref u2, .ref u3, .null, .null, .null, .null, .int 0, .null, .null, .null, .null, .null, .null, .null, .int 0, .null, .null, .null, .null, .null, .null, .null, .int 0, .null]) (new' := [(u0, n_ia E 20), (u1, n_ba E 6), (u2, n_ia E 200), (u3, n_ia E 200)]) rfl rfl ?_
  refine n_arrI C (z := 200) (N := 200) (q := 47) h9 dX7_init_38 (.inr (.inl ⟨dX7_init_39, rfl, rfl⟩)) dX7_init_42 dX7_init_44 rfl (k9 := 0) rfl (by decide) (by decide) (Nat.le_of_ble_eq_true rfl) (Nat.le_of_ble_eq_true rfl) (Nat.le_of_ble_eq_true rfl) fk_X7_23 np_7_6 rfl (fun r h => by cases h; rfl) (Nat.le_of_ble_eq_true rfl) (fun u4 => ?_)
  refine n_norm (fs' := [.int 0, .int 0, .ref u0, .ref u1, .ref u2, .ref u3, .ref u4, .null, .null, .null, .int 0, .null, .null, .null, .null, .null, .null, .null, .int 0, .null, .null, .null, .null, .null, .null, .null, .int 0, .null]) (new' := [(u0, n_ia E 20), (u1, n_ba E 6), (u2, n_ia E 200), (u3, n_ia E 200), (u4, n_ia E 200)]) rfl rfl ?_
  refine n_arrI C (z := 200) (N := 200) (q := 56) h9 dX7_init_47 (.inr (.inl ⟨dX7_init_48, rfl, rfl⟩)) dX7_init_51 dX7_init_53 rfl (k9 := 0) rfl (by decide) (by decide) (Nat.le_of_ble_eq_true rfl) (Nat.le_of_ble_eq_true rfl) (Nat.le_of_ble_eq_true rfl) fk_X7_26 np_7_7 rfl (fun r h => by cases h; rfl) (Nat.le_of_ble_eq_true rfl) (fun u5 => ?_)
  refine n_norm (fs' := [.int 0, .int 0, .ref u0, .ref u1, .ref u2, .ref u3, .ref u4, .ref u5, .null, .null, .int 0, .null, .null, .null, .null, .null, .null, .null, .int 0, .null, .null, .null, .null, .null, .null, .null, .int 0, .null]) (new' := [(u0, n_ia E 20), (u1, n_ba E 6), (u2, n_ia E 200), (u3, n_ia E 200), (u4, n_ia E 200), (u5, n_ia E 200)]) rfl rfl ?_
  refine n_arrI C (z := 200) (N := 200) (q := 65) h9 dX7_init_56 (.inr (.inl ⟨dX7_init_57, rfl, rfl⟩)) dX7_init_60 dX7_init_62 rfl (k9 := 0) rfl (by decide) (by decide) (Nat.le_of_ble_eq_true rfl) (Nat.le_of_ble_eq_true rfl) (Nat.le_of_ble_eq_true rfl) fk_X7_29 np_7_8 rfl (fun r h => by cases h; rfl) (Nat.le_of_ble_eq_true rfl) (fun u6 => ?_)
  refine n_norm (fs' := [.int 0, .int 0, .ref u0, .ref u1, .ref u2, .ref u3, .ref u4, .ref u5, .ref u6, .null, .int 0, .null, .null, .null, .null, .null, .null, .null, .int 0, .null, .null, .null, .null, .null, .null, .null, .int 0, .null]) (new' := [(u0, n_ia E 20), (u1, n_ba E 6), (u2, n_ia E 200), (u3, n_ia E 200), (u4, n_ia E 200), (u5, n_ia E 200), (u6, n_ia E 200)]) rfl rfl ?_
  refine n_arrI C (z := 200) (N := 200) (q := 74) h9 dX7_init_65 (.inr (.inl ⟨dX7_init_66, rfl, rfl⟩)) dX7_init_69 dX7_init_71 rfl (k9 := 0) rfl (by decide) (by decide) (Nat.le_of_ble_eq_true rfl) (Nat.le_of_ble_eq_true rfl) (Nat.le_of_ble_eq_true rfl) fk_X7_32 np_7_9 rfl (fun r h => by cases h; rfl) (Nat.le_of_ble_eq_true rfl) (fun u7 => ?_)
  refine n_norm (fs' := [.int 0, .int 0, .ref u0, .ref u1, .ref u2, .ref u3, .ref u4, .ref u5, .ref u6, .ref u7, .int 0, .null, .null, .null, .null, .null, .null, .null, .int 0, .null, .null, .null, .null, .null, .null, .null, .int 0, .null]) (new' := [(u0, n_ia E 20), (u1, n_ba E 6), (u2, n_ia E 200), (u3, n_ia E 200), (u4, n_ia E 200), (u5, n_ia E 200), (u6, n_ia E 200), (u7, n_ia E 200)]) rfl rfl ?_
  refine n_arrI C (z := 60) (N := 60) (q := 82) h9 dX7_init_74 (.inl ⟨dX7_init_75, rfl, rfl⟩) dX7_init_77 dX7_init_79 rfl (k9 := 0) rfl (by decide) (by decide) (Nat.le_of_ble_eq_true rfl) (Nat.le_of_ble_eq_true rfl) (Nat.le_of_ble_eq_true rfl) fk_X7_35 np_7_11 rfl (fun r h => by cases h; rfl) (Nat.le_of_ble_eq_true rfl) (fun u8 => ?_)
  refine n_norm (fs' := [.int 0, .int 0, .ref u0, .ref u1, .ref u2, .ref u3, .ref u4, .ref u5, .ref u6, .ref u7, .int 0, .ref u8, .null, .null, .null, .null, .null, .null, .int 0, .null, .null, .null, .null, .null, .null, .null, .int 0, .null]) (new' := [(u0, n_ia E 20), (u1, n_ba E 6), (u2, n_ia E 200), (u3, n_ia E 200), (u4, n_ia E 200), (u5, n_ia E 200), (u6, n_ia E 200), (u7, n_ia E 200), (u8, n_ia E 60)]) rfl rfl ?_
  refine n_arrI C (z := 60) (N := 60) (q := 90) h9 dX7_init_82 (.inl ⟨dX7_init_83, rfl, rfl⟩) dX7_init_85 dX7_init_87 rfl (k9 := 0) rfl (by decide) (by decide) (Nat.le_of_ble_eq_true rfl) (Nat.le_of_ble_eq_true rfl) (Nat.le_of_ble_eq_true rfl) fk_X7_38 np_7_12 rfl (fun r h => by cases h; rfl) (Nat.le_of_ble_eq_true rfl) (fun u9 => ?_)
  refine n_norm (fs' := [.int 0, .int 0, .ref u0, .ref u1, .ref u2, .ref u3, .ref u4, .ref u5, .ref u6, .ref u7, .int 0, .ref u8, .ref u9, .null, .null, .null, .null, .null, .int 0, .null, .null, .null, .null, .null, .null, .null, .int 0, .null]) (new' := [(u0, n_ia E 20), (u1, n_ba E 6), (u2, n_ia E 200), (u3, n_ia E 200), (u4, n_ia E 200), (u5, n_ia E 200), (u6, n_ia E 200), (u7, n_ia E 200), (u8, n_ia E 60), (u9, n_ia E 60)]) rfl rfl ?_
  refine n_arrI C (z := 60) (N := 60) (q := 98) h9 dX7_init_90 (.inl ⟨dX7_init_91, rfl, rfl⟩) dX7_init_93 dX7_init_95 rfl (k9 := 0) rfl (by decide) (by decide) (Nat.le_of_ble_eq_true rfl) (Nat.le_of_ble_eq_true rfl) (Nat.le_of_ble_eq_true rfl) fk_X7_41 np_7_13 rfl (fun r h => by cases h; rfl) (Nat.le_of_ble_eq_true rfl) (fun u10 => ?_)
  refine n_norm (fs' := [.int 0, .int 0, .ref u0, .ref u1, .ref u2, .ref u3, .ref u4, .ref u5, .ref u6, .ref u7, .int 0, .ref u8, .ref u9, .ref u10, .null, .null, .null, .null, .int 0, .null, .null, .null, .null, .null, .null, .null, .int 0, .null]) (new' := [(u0, n_ia E 20), (u1, n_ba E 6), (u2, n_ia E 200), (u3, n_ia E 200), (u4, n_ia E 200), (u5, n_ia E 200), (u6, n_ia E 200), (u7, n_ia E 200), (u8, n_ia E 60), (u9, n_ia E 60), (u10, n_ia E 60)]) rfl rfl ?_
  refine n_arrI C (z := 60) (N := 60) (q := 106) h9 dX7_init_98 (.inl ⟨dX7_init_99, rfl, rfl⟩) dX7_init_101 dX7_init_103 rfl (k9 := 0) rfl (by decide) (by decide) (Nat.le_of_ble_eq_true rfl) (Nat.le_of_ble_eq_true rfl) (Nat.le_of_ble_eq_true rfl) fk_X7_44 np_7_14 rfl (fun r h => by cases h; rfl) (Nat.le_of_ble_eq_true rfl) (fun u11 => ?_)
  refine n_norm (fs' := [.int 0, .int 0, .ref u0, .ref u1, .ref u2, .ref u3, .ref u4, .ref u5, .ref u6, .ref u7, .int 0, .ref u8, .ref u9, .ref u10, .ref u11, .null, .null, .null, .int 0, .null, .null, .null, .null, .null, .null, .null, .int 0, .null]) (new' := [(u0, n_ia E 20), (u1, n_ba E 6), (u2, n_ia E 200), (u3, n_ia E 200), (u4, n_ia E 200), (u5, n_ia E 200), (u6, n_ia E 200), (u7, n_ia E 200), (u8, n_ia E 60), (u9, n_ia E 60), (u10, n_ia E 60), (u11, n_ia E 60)]) rfl rfl ?_
  refine n_arrI C (z := 60) (N := 60) (q := 114) h9 dX7_init_106 (.inl ⟨dX7_init_107, rfl, rfl⟩) dX7_init_109 dX7_init_111 rfl (k9 := 0) rfl (by decide) (by decide) (Nat.le_of_ble_eq_true rfl) (Nat.le_of_ble_eq_true rfl) (Nat.le_of_ble_eq_true rfl) fk_X7_47 np_7_15 rfl (fun r h => by cases h; rfl) (Nat.le_of_ble_eq_true rfl) (fun u12 => ?_)
  refine n_norm (fs' := [.int 0, .int 0, .ref u0, .ref u1, .ref u2, .ref u3, .ref u4, .ref u5, .ref u6, .ref u7, .int 0, .ref u8, .ref u9, .ref u10, .ref u11, .ref u12, .null, .null, .int 0, .null, .null, .null, .null, .null, .null, .null, .int 0, .null]) (new' := [(u0, n_ia E 20), (u1, n_ba E 6), (u2, n_ia E 200), (u3, n_ia E 200), (u4, n_ia E 200), (u5, n_ia E 200), (u6, n_ia E 200), (u7, n_ia E 200), (u8, n_ia E 60), (u9, n_ia E 60), (u10, n_ia E 60), (u11, n_ia E 60), (u12, n_ia E 60)]) rfl rfl ?_
  refine n_arrI C (z := 60) (N := 60) (q := 122) h9 dX7_init_114 (.inl ⟨dX7_init_115, rfl, rfl⟩) dX7_init_117 dX7_init_119 rfl (k9 := 0) rfl (by decide) (by decide) (Nat.le_of_ble_eq_true rfl) (Nat.le_of_ble_eq_true rfl) (Nat.le_of_ble_eq_true rfl) fk_X7_50 np_7_16 rfl (fun r h => by cases h; rfl) (Nat.le_of_ble_eq_true rfl) (fun u13 => ?_)
  refine n_norm (fs' := [.int 0, .int 0, .ref u0, .ref u1, .ref u2, .ref u3, .ref u4, .ref u5, .ref u6, .ref u7, .int 0, .ref u8, .ref u9, .ref u10, .ref u11, .ref u12, .ref u13, .null, .int 0, .null, .null, .null, .null, .null, .null, .null, .int 0, .null]) (new' := [(u0, n_ia E 20), (u1, n_ba E 6), (u2, n_ia E 200), (u3, n_ia E 200), (u4, n_ia E 200), (u5, n_ia E 200), (u6, n_ia E 200), (u7, n_ia E 200), (u8, n_ia E 60), (u9, n_ia E 60), (u10, n_ia E 60), (u11, n_ia E 60), (u12, n_ia E 60), (u13, n_ia E 60)]) rfl rfl ?_
  refine n_arrI C (z := 60) (N := 60) (q := 130) h9 dX7_init_122 (.inl ⟨dX7_init_123, rfl, rfl⟩) dX7_init_125 dX7_init_127 rfl (k9 := 0) rfl (by decide) (by decide) (Nat.le_of_ble_eq_true rfl) (Nat.le_of_ble_eq_true rfl) (Nat.le_of_ble_eq_true rfl) fk_X7_53 np_7_17 rfl (fun r h => by cases h; rfl) (Nat.le_of_ble_eq_true rfl) (fun u14 => ?_)
  refine n_norm (fs' := [.int 0, .int 0, .ref u0, .ref u1, .ref u2, .ref u3, .ref u4, .ref u5, .ref u6, .ref u7, .int 0, .ref u8, .ref u9, .ref u10, .ref u11, .ref u12, .ref u13, .ref u14, .int 0, .null, .null, .null, .null, .null, .null, .null, .int 0, .null]) (new' := [(u0, n_ia E 20), (u1, n_ba E 6), (u2, n_ia E 200), (u3, n_ia E 200), (u4, n_ia E 200), (u5, n_ia E 200), (u6, n_ia E 200), (u7, n_ia E 200), (u8, n_ia E 60), (u9, n_ia E 60), (u10, n_ia E 60), (u11, n_ia E 60), (u12, n_ia E 60), (u13, n_ia E 60), (u14, n_ia E 60)]) rfl rfl ?_
  refine n_arrI C (z := 4000) (N := 4000) (q := 139) h9 dX7_init_130 (.inr (.inl ⟨dX7_init_131, rfl, rfl⟩)) dX7_init_134 dX7_init_136 rfl (k9 := 0) rfl (by decide) (by decide) (Nat.le_of_ble_eq_true rfl) (Nat.le_of_ble_eq_true rfl) (Nat.le_of_ble_eq_true rfl) fk_X7_56 np_7_19 rfl (fun r h => by cases h; rfl) (Nat.le_of_ble_eq_true rfl) (fun u15 => ?_)
  refine n_norm (fs' := [.int 0, .int 0, .ref u0, .ref u1, .ref u2, .ref u3, .ref u4, .ref u5, .ref u6, .ref u7, .int 0, .ref u8, .ref u9, .ref u10, .ref u11, .ref u12, .ref u13, .ref u14, .int 0, .ref u15, .null, .null, .null, .null, .null, .null, .int 0, .null]) (new' := [(u0, n_ia E 20), (u1, n_ba E 6), (u2, n_ia E 200), (u3, n_ia E 200), (u4, n_ia E 200), (u5, n_ia E 200), (u6, n_ia E 200), (u7, n_ia E 200), (u8, n_ia E 60), (u9, n_ia E 60), (u10, n_ia E 60), (u11, n_ia E 60), (u12, n_ia E 60), (u13, n_ia E 60), (u14, n_ia E 60), (u15, n_ia E 4000)]) rfl rfl ?_
  refine n_arrI C (z := 4000) (N := 4000) (q := 148) h9 dX7_init_139 (.inr (.inl ⟨dX7_init_140, rfl, rfl⟩)) dX7_init_143 dX7_init_145 rfl (k9 := 0) rfl (by decide) (by decide) (Nat.le_of_ble_eq_true rfl) (Nat.le_of_ble_eq_true rfl) (Nat.le_of_ble_eq_true rfl) fk_X7_59 np_7_20 rfl (fun r h => by cases h; rfl) (Nat.le_of_ble_eq_true rfl) (fun u16 => ?_)
  refine n_norm (fs' := [.int 0, .int 0, .ref u0, .ref u1, .ref u2, .ref u3, .ref u4, .ref u5, .ref u6, .ref u7, .int 0, .ref u8, .ref u9, .ref u10, .ref u11, .ref u12, .ref u13, .ref u14, .int 0, .ref u15, .ref u16, .null, .null, .null, .null, .null, .int 0, .null]) (new' := [(u0, n_ia E 20), (u1, n_ba E 6), (u2, n_ia E 200), (u3, n_ia E 200), (u4, n_ia E 200), (u5, n_ia E 200), (u6, n_ia E 200), (u7, n_ia E 200), (u8, n_ia E 60), (u9, n_ia E 60), (u10, n_ia E 60), (u11, n_ia E 60), (u12, n_ia E 60), (u13, n_ia E 60), (u14, n_ia E 60), (u15, n_ia E 4000), (u16, n_ia E 4000)]) rfl rfl ?_
  refine n_arrI C (z := 4000) (N := 4000) (q := 157) h9 dX7_init_148 (.inr (.inl ⟨dX7_init_149, rfl, rfl⟩)) dX7_init_152 dX7_init_154 rfl (k9 := 0) rfl (by decide) (by decide) (Nat.le_of_ble_eq_true rfl) (Nat.le_of_ble_eq_true rfl) (Nat.le_of_ble_eq_true rfl) fk_X7_62 np_7_21 rfl (fun r h => by cases h; rfl) (Nat.le_of_ble_eq_true rfl) (fun u17 => ?_)
  refine n_norm (fs' := [.int 0, .int 0, .ref u0, .ref u1, .ref u2, .ref u3, .ref u4, .ref u5, .ref u6, .ref u7, .int 0, .ref u8, .ref u9, .ref u10, .ref u11, .ref u12, .ref u13, .ref u14, .int 0, .ref u15, .ref u16, .ref u17, .null, .null, .null, .null, .int 0, .null]) (new' := [(u0, n_ia E 20), (u1, n_ba E 6), (u2, n_ia E 200), (u3, n_ia E 200), (u4, n_ia E 200), (u5, n_ia E 200), (u6, n_ia E 200), (u7, n_ia E 200), (u8, n_ia E 60), (u9, n_ia E 60), (u10, n_ia E 60), (u11, n_ia E 60), (u12, n_ia E 60), (u13, n_ia E 60), (u14, n_ia E 60), (u15, n_ia E 4000), (u16, n_ia E 4000), (u17, n_ia E 4000)]) rfl rfl ?_
  refine n_arrI C (z := 6) (N := 6) (q := 165) h9 dX7_init_157 (.inl ⟨dX7_init_158, rfl, rfl⟩) dX7_init_160 dX7_init_162 rfl (k9 := 0) rfl (by decide) (by decide) (Nat.le_of_ble_eq_true rfl) (Nat.le_of_ble_eq_true rfl) (Nat.le_of_ble_eq_true rfl) fk_X7_65 np_7_22 rfl (fun r h => by cases h; rfl) (Nat.le_of_ble_eq_true rfl) (fun u18 => ?_)
  refine n_norm (fs' := [.int 0, .int 0, .ref u0, .ref u1, .ref u2, .ref u3, .ref u4, .ref u5, .ref u6, .ref u7, .int 0, .ref u8, .ref u9, .ref u10, .ref u11, .ref u12, .ref u13, .ref u14, .int 0, .ref u15, .ref u16, .ref u17, .ref u18, .null, .null, .null, .int 0, .null]) (new' := [(u0, n_ia E 20), (u1, n_ba E 6), (u2, n_ia E 200), (u3, n_ia E 200), (u4, n_ia E 200), (u5, n_ia E 200), (u6, n_ia E 200), (u7, n_ia E 200), (u8, n_ia E 60), (u9, n_ia E 60), (u10, n_ia E 60), (u11, n_ia E 60), (u12, n_ia E 60), (u13, n_ia E 60), (u14, n_ia E 60), (u15, n_ia E 4000), (u16, n_ia E 4000), (u17, n_ia E 4000), (u18, n_ia E 6)]) rfl rfl ?_
  refine n_arrI C (z := 6) (N := 6) (q := 173) h9 dX7_init_165 (.inl ⟨dX7_init_166, rfl, rfl⟩) dX7_init_168 dX7_init_170 rfl (k9 := 0) rfl (by decide) (by decide) (Nat.le_of_ble_eq_true rfl) (Nat.le_of_ble_eq_true rfl) (Nat.le_of_ble_eq_true rfl) fk_X7_68 np_7_23 rfl (fun r h => by cases h; rfl) (Nat.le_of_ble_eq_true rfl) (fun u19 => ?_)
  refine n_norm (fs' := [.int 0, .int 0, .ref u0, .ref u1, .ref u2, .ref u3, .ref u4, .ref u5, .ref u6, .ref u7, .int 0, .ref u8, .ref u9, .ref u10, .ref u11, .ref u12, .ref u13, .ref u14, .int 0, .ref u15, .ref u16, .ref u17, .ref u18, .ref u19, .null, .null, .int 0, .null]) (new' := [(u0, n_ia E 20), (u1, n_ba E 6), (u2, n_ia E 200), (u3, n_ia E 200), (u4, n_ia E 200), (u5, n_ia E 200), (u6, n_ia E 200), (u7, n_ia E 200), (u8, n_ia E 60), (u9, n_ia E 60), (u10, n_ia E 60), (u11, n_ia E 60), (u12, n_ia E 60), (u13, n_ia E 60), (u14, n_ia E 60), (u15, n_ia E 4000), (u16, n_ia E 4000), (u17, n_ia E 4000), (u18, n_ia E 6), (u19, n_ia E 6)]) rfl rfl ?_
  refine n_arrZ C (z := 6) (N := 6) (q := 181) h9 dX7_init_173 (.inl ⟨dX7_init_174, rfl, rfl⟩) dX7_init_176 dX7_init_178 rfl (k9 := 0) rfl (by decide) (by decide) (Nat.le_of_ble_eq_true rfl) (Nat.le_of_ble_eq_true rfl) (Nat.le_of_ble_eq_true rfl) fk_X7_71 np_7_24 rfl (fun r h => by cases h; rfl) (Nat.le_of_ble_eq_true rfl) (fun u20 => ?_)
  refine n_norm (fs' := [.int 0, .int 0, .ref u0, .ref u1, .ref u2, .ref u3, .ref u4, .ref u5, .ref u6, .ref u7, .int 0, .ref u8, .ref u9, .ref u10, .ref u11, .ref u12, .ref u13, .ref u14, .int 0, .ref u15, .ref u16, .ref u17, .ref u18, .ref u19, .ref u20, .null, .int 0, .null]) (new' := [(u0, n_ia E 20), (u1, n_ba E 6), (u2, n_ia E 200), (u3, n_ia E 200), (u4, n_ia E 200), (u5, n_ia E 200), (u6, n_ia E 200), (u7, n_ia E 200), (u8, n_ia E 60), (u9, n_ia E 60), (u10, n_ia E 60), (u11, n_ia E 60), (u12, n_ia E 60), (u13, n_ia E 60), (u14, n_ia E 60), (u15, n_ia E 4000), (u16, n_ia E 4000), (u17, n_ia E 4000), (u18, n_ia E 6), (u19, n_ia E 6), (u20, n_ba E 6)]) rfl rfl ?_
  refine n_arrI C (z := 6) (N := 6) (q := 189) h9 dX7_init_181 (.inl ⟨dX7_init_182, rfl, rfl⟩) dX7_init_184 dX7_init_186 rfl (k9 := 0) rfl (by decide) (by decide) (Nat.le_of_ble_eq_true rfl) (Nat.le_of_ble_eq_true rfl) (Nat.le_of_ble_eq_true rfl) fk_X7_74 np_7_25 rfl (fun r h => by cases h; rfl) (Nat.le_of_ble_eq_true rfl) (fun u21 => ?_)
  refine n_norm (fs' := [.int 0, .int 0, .ref u0, .ref u1, .ref u2, .ref u3, .ref u4, .ref u5, .ref u6, .ref u7, .int 0, .ref u8, .ref u9, .ref u10, .ref u11, .ref u12, .ref u13, .ref u14, .int 0, .ref u15, .ref u16, .ref u17, .ref u18, .ref u19, .ref u20, .ref u21, .int 0, .null]) (new' := [(u0, n_ia E 20), (u1, n_ba E 6), (u2, n_ia E 200), (u3, n_ia E 200), (u4, n_ia E 200), (u5, n_ia E 200), (u6, n_ia E 200), (u7, n_ia E 200), (u8, n_ia E 60), (u9, n_ia E 60), (u10, n_ia E 60), (u11, n_ia E 60), (u12, n_ia E 60), (u13, n_ia E 60), (u14, n_ia E 60), (u15, n_ia E 4000), (u16, n_ia E 4000), (u17, n_ia E 4000), (u18, n_ia E 6), (u19, n_ia E 6), (u20, n_ba E 6), (u21, n_ia E 6)]) rfl rfl ?_
  refine n_arrI C (z := 8) (N := 8) (q := 197) h9 dX7_init_189 (.inl ⟨dX7_init_190, rfl, rfl⟩) dX7_init_192 dX7_init_194 rfl (k9 := 0) rfl (by decide) (by decide) (Nat.le_of_ble_eq_true rfl) (Nat.le_of_ble_eq_true rfl) (Nat.le_of_ble_eq_true rfl) fk_X7_77 np_7_27 rfl (fun r h => by cases h; rfl) (Nat.le_of_ble_eq_true rfl) (fun u22 => ?_)
  refine n_norm (fs' := [.int 0, .int 0, .ref u0, .ref u1, .ref u2, .ref u3, .ref u4, .ref u5, .ref u6, .ref u7, .int 0, .ref u8, .ref u9, .ref u10, .ref u11, .ref u12, .ref u13, .ref u14, .int 0, .ref u15, .ref u16, .ref u17, .ref u18, .ref u19, .ref u20, .ref u21, .int 0, .ref u22]) (new' := [(u0, n_ia E 20), (u1, n_ba E 6), (u2, n_ia E 200), (u3, n_ia E 200), (u4, n_ia E 200), (u5, n_ia E 200), (u6, n_ia E 200), (u7, n_ia E 200), (u8, n_ia E 60), (u9, n_ia E 60), (u10, n_ia E 60), (u11, n_ia E 60), (u12, n_ia E 60), (u13, n_ia E 60), (u14, n_ia E 60), (u15, n_ia E 4000), (u16, n_ia E 4000), (u17, n_ia E 4000), (u18, n_ia E 6), (u19, n_ia E 6), (u20, n_ba E 6), (u21, n_ia E 6), (u22, n_ia E 8)]) rfl rfl ?_
  refine n_int C (z := 0) (q := 198) (.inr (.inr ⟨dX7_init_197, rfl⟩)) ?_
  refine n_istore C (i := 1) (q := 199) dX7_init_198 rfl rfl (by decide) rfl ?_
  refine n_loop1 (r := fun i => [u0, u1, u2, u3, u4, u5, u6, u7, u8, u9, u10, u11, u12, u13, u14, u15, u16, u17, u18, u19, u20, u21, u22].getD i 0) (g1 := fun _ => 0) (g2 := fun _ => 0) (g3 := fun _ => 0) (g4 := fun _ => 0) (g5 := fun _ => 0) C h9 ?_ 20 0 (fun _ => 0) rfl (fun j hj => absurd hj (by omega))
  refine n_int C (z := 0) (q := 219) (.inr (.inr ⟨dX7_init_218, rfl⟩)) ?_
  refine n_istore C (i := 1) (q := 220) dX7_init_219 rfl rfl (by decide) rfl ?_
  refine n_loop2 C h9 ?_ 200 0 _ _ _ _ _ rfl (fun j hj => absurd hj (by omega)) (fun j hj => absurd hj (by omega)) (fun j hj => absurd hj (by omega)) (fun j hj => absurd hj (by omega)) (fun j hj => absurd hj (by omega))
  exact n_ret C dX7_init_274 rfl (Nat.le_of_ble_eq_true rfl) (Nat.le_of_ble_eq_true rfl) ⟨fun i => [u0, u1, u2, u3, u4, u5, u6, u7, u8, u9, u10, u11, u12, u13, u14, u15, u16, u17, u18, u19, u20, u21, u22].getD i 0, rfl⟩
