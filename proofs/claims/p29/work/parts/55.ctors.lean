/-! ===== what is made: the small constructors (printed by mkctor.py) ===== -/
theorem n_obj2 : ∀ w ∈ ([.instanceMethod objectInit, .code objectInit ⟨#[0xb1]⟩ 1 none] : List Cond), w ∈ z_big := z_all_big (by decide +kernel)
theorem n_start {E : zE} {M : zM} {Q : State → Prop} {p : Program} {l : Launch} {e : Env} {R : Room} {s : State} {m : MethodId} {args : Array Value} {below : List Frame} {meth : Method} {c : Code} {cells slots pc : Nat} {al : List (Nat × Value)} {st : List Value} {ws : va_W} {q0 : Nat} {x : Nat × va_E} (h : ws[q0]? = some x) (k : n_G E M Q p l e R s m args below meth c cells slots pc al st (ws.set q0 x ++ [])) : n_G E M Q p l e R s m args below meth c cells slots pc al st ws := fun H locs ls hW hL => k H locs ls (by rw [← n_canon h]; exact hW) hL
theorem np_1_0 (qa : Nat) : n_fp 1 0 (.ref qa) := ⟨RX1, TX1, 6, tyX1, tyX1 0, rfl, tyX1_ok, nmX1, tyX1_ok 0 (by decide), rfl, rfl⟩
theorem np_1_1 (qa : Nat) : n_fp 1 1 (.ref qa) := ⟨RX1, TX1, 6, tyX1, tyX1 1, rfl, tyX1_ok, nmX1, tyX1_ok 1 (by decide), rfl, rfl⟩
theorem np_1_2 (qa : Nat) : n_fp 1 2 (.ref qa) := ⟨RX1, TX1, 6, tyX1, tyX1 2, rfl, tyX1_ok, nmX1, tyX1_ok 2 (by decide), rfl, rfl⟩
theorem np_1_3 (qa : Nat) : n_fp 1 3 (.ref qa) := ⟨RX1, TX1, 6, tyX1, tyX1 3, rfl, tyX1_ok, nmX1, tyX1_ok 3 (by decide), rfl, rfl⟩
theorem np_1_4 (qa : Nat) : n_fp 1 4 (.ref qa) := ⟨RX1, TX1, 6, tyX1, tyX1 4, rfl, tyX1_ok, nmX1, tyX1_ok 4 (by decide), rfl, rfl⟩
theorem np_1_5 (qa : Nat) : n_fp 1 5 (.ref qa) := ⟨RX1, TX1, 6, tyX1, tyX1 5, rfl, tyX1_ok, nmX1, tyX1_ok 5 (by decide), rfl, rfl⟩
theorem np_2_0 (qa : Nat) : n_fp 2 0 (.ref qa) := ⟨RX2, TX2, 4, tyX2, tyX2 0, rfl, tyX2_ok, nmX2, tyX2_ok 0 (by decide), rfl, rfl⟩
theorem np_2_1 (qa : Nat) : n_fp 2 1 (.ref qa) := ⟨RX2, TX2, 4, tyX2, tyX2 1, rfl, tyX2_ok, nmX2, tyX2_ok 1 (by decide), rfl, rfl⟩
theorem np_2_2 (qa : Nat) : n_fp 2 2 (.ref qa) := ⟨RX2, TX2, 4, tyX2, tyX2 2, rfl, tyX2_ok, nmX2, tyX2_ok 2 (by decide), rfl, rfl⟩
theorem np_2_3 (qa : Nat) : n_fp 2 3 (.ref qa) := ⟨RX2, TX2, 4, tyX2, tyX2 3, rfl, tyX2_ok, nmX2, tyX2_ok 3 (by decide), rfl, rfl⟩
theorem np_3_0 (qa : Nat) : n_fp 3 0 (.ref qa) := ⟨RX3, TX3, 4, tyX3, tyX3 0, rfl, tyX3_ok, nmX3, tyX3_ok 0 (by decide), rfl, rfl⟩
theorem np_3_1 (qa : Nat) : n_fp 3 1 (.ref qa) := ⟨RX3, TX3, 4, tyX3, tyX3 1, rfl, tyX3_ok, nmX3, tyX3_ok 1 (by decide), rfl, rfl⟩
theorem np_3_2 (qa : Nat) : n_fp 3 2 (.ref qa) := ⟨RX3, TX3, 4, tyX3, tyX3 2, rfl, tyX3_ok, nmX3, tyX3_ok 2 (by decide), rfl, rfl⟩
theorem np_4_0 (qa : Nat) : n_fp 4 0 (.ref qa) := ⟨RX4, TX4, 7, tyX4, tyX4 0, rfl, tyX4_ok, nmX4, tyX4_ok 0 (by decide), rfl, rfl⟩
theorem np_4_1 (qa : Nat) : n_fp 4 1 (.ref qa) := ⟨RX4, TX4, 7, tyX4, tyX4 1, rfl, tyX4_ok, nmX4, tyX4_ok 1 (by decide), rfl, rfl⟩
theorem np_4_2 (qa : Nat) : n_fp 4 2 (.ref qa) := ⟨RX4, TX4, 7, tyX4, tyX4 2, rfl, tyX4_ok, nmX4, tyX4_ok 2 (by decide), rfl, rfl⟩
theorem np_4_3 (qa : Nat) : n_fp 4 3 (.ref qa) := ⟨RX4, TX4, 7, tyX4, tyX4 3, rfl, tyX4_ok, nmX4, tyX4_ok 3 (by decide), rfl, rfl⟩
theorem np_4_4 (qa : Nat) : n_fp 4 4 (.ref qa) := ⟨RX4, TX4, 7, tyX4, tyX4 4, rfl, tyX4_ok, nmX4, tyX4_ok 4 (by decide), rfl, rfl⟩
theorem np_4_5 (qa : Nat) : n_fp 4 5 (.ref qa) := ⟨RX4, TX4, 7, tyX4, tyX4 5, rfl, tyX4_ok, nmX4, tyX4_ok 5 (by decide), rfl, rfl⟩
theorem np_5_0 (qa : Nat) : n_fp 5 0 (.ref qa) := ⟨RX5, TX5, 2, tyX5, tyX5 0, rfl, tyX5_ok, nmX5, tyX5_ok 0 (by decide), rfl, rfl⟩
theorem npi_3_3 : n_fp 3 3 (.int (Int32.ofInt 0)) := ⟨RX3, TX3, 4, tyX3, tyX3 3, rfl, tyX3_ok, nmX3, tyX3_ok 3 (by decide), rfl, rfl⟩
theorem npi_4_6 : n_fp 4 6 (.int (Int32.ofInt 0)) := ⟨RX4, TX4, 7, tyX4, tyX4 6, rfl, tyX4_ok, nmX4, tyX4_ok 6 (by decide), rfl, rfl⟩
theorem npi_5_1 : n_fp 5 1 (.int (Int32.ofInt 0)) := ⟨RX5, TX5, 2, tyX5, tyX5 1, rfl, tyX5_ok, nmX5, tyX5_ok 1 (by decide), rfl, rfl⟩
theorem nk_X1_30 : z_sk RX1 30 2 mJ7_fill := ⟨z_all_big (by decide +kernel), by decide +kernel⟩
abbrev mX1_init : zM := (yX1_init, cX1_init, 1, none, [], 1, 23, 0, [])
abbrev d_X1 : List Value := [.null, .null, .null, .null, .null, .null]
abbrev f_X1 (r : Nat → Nat) : List Value := [.ref (r 0), .ref (r 1), .ref (r 2), .ref (r 3), .ref (r 4), .ref (r 5)]
abbrev e_X1 (E : zE) (r : Nat → Nat) : va_W := [(r 0, n_if E 200 (-1)), (r 1, n_ia E 200), (r 2, n_if E 200 (-1)), (r 3, n_if E 200 (-1)), (r 4, n_if E 200 (-1)), (r 5, n_if E 200 (-1))]
set_option maxRecDepth 20000 in
theorem k_X1 {E : zE} {ws : va_W} {q0 h0 : Nat} (h9 : ws[q0]? = some (h0, .inr (1, d_X1))) : n_Sp E mX1_init [.ref h0] ws (fun ws' => ∃ r : Nat → Nat, ws' = ws.set q0 (h0, .inr (1, f_X1 r)) ++ e_X1 E r) 6 1200 := by
  refine n_enter (by decide +kernel) (Nat.le_of_ble_eq_true rfl) (fun p l e s m below meth c C => ?_)
  refine n_aload C (i := 0) (q := 1) dX1_init_0 rfl rfl 0 rfl ?_
  refine n_objinit C (q := 4) dX1_init_1 rfl (z_big_of (by decide +kernel) rfl) (Nat.le_of_ble_eq_true rfl) (Nat.le_of_ble_eq_true rfl) n_obj2 ?_
  refine n_start h9 ?_
  refine n_arrI C (z := 200) (N := 200) (q := 13) h9 dX1_init_4 (.inr (.inl ⟨dX1_init_5, rfl, rfl⟩)) dX1_init_8 dX1_init_10 rfl (k9 := 0) rfl (by decide) (by decide) (Nat.le_of_ble_eq_true rfl) (Nat.le_of_ble_eq_true rfl) (Nat.le_of_ble_eq_true rfl) fk_X1_9 np_1_0 rfl (fun r h => by cases h; rfl) (Nat.le_of_ble_eq_true rfl) (fun q0 => ?_)
  refine n_arrI C (z := 200) (N := 200) (q := 22) h9 dX1_init_13 (.inr (.inl ⟨dX1_init_14, rfl, rfl⟩)) dX1_init_17 dX1_init_19 rfl (k9 := 0) rfl (by decide) (by decide) (Nat.le_of_ble_eq_true rfl) (Nat.le_of_ble_eq_true rfl) (Nat.le_of_ble_eq_true rfl) fk_X1_15 np_1_1 rfl (fun r h => by cases h; rfl) (Nat.le_of_ble_eq_true rfl) (fun q1 => ?_)
  refine n_arrI C (z := 200) (N := 200) (q := 31) h9 dX1_init_22 (.inr (.inl ⟨dX1_init_23, rfl, rfl⟩)) dX1_init_26 dX1_init_28 rfl (k9 := 0) rfl (by decide) (by decide) (Nat.le_of_ble_eq_true rfl) (Nat.le_of_ble_eq_true rfl) (Nat.le_of_ble_eq_true rfl) fk_X1_18 np_1_2 rfl (fun r h => by cases h; rfl) (Nat.le_of_ble_eq_true rfl) (fun q2 => ?_)
  refine n_arrI C (z := 200) (N := 200) (q := 40) h9 dX1_init_31 (.inr (.inl ⟨dX1_init_32, rfl, rfl⟩)) dX1_init_35 dX1_init_37 rfl (k9 := 0) rfl (by decide) (by decide) (Nat.le_of_ble_eq_true rfl) (Nat.le_of_ble_eq_true rfl) (Nat.le_of_ble_eq_true rfl) fk_X1_21 np_1_3 rfl (fun r h => by cases h; rfl) (Nat.le_of_ble_eq_true rfl) (fun q3 => ?_)
  refine n_arrI C (z := 200) (N := 200) (q := 49) h9 dX1_init_40 (.inr (.inl ⟨dX1_init_41, rfl, rfl⟩)) dX1_init_44 dX1_init_46 rfl (k9 := 0) rfl (by decide) (by decide) (Nat.le_of_ble_eq_true rfl) (Nat.le_of_ble_eq_true rfl) (Nat.le_of_ble_eq_true rfl) fk_X1_24 np_1_4 rfl (fun r h => by cases h; rfl) (Nat.le_of_ble_eq_true rfl) (fun q4 => ?_)
  refine n_arrI C (z := 200) (N := 200) (q := 58) h9 dX1_init_49 (.inr (.inl ⟨dX1_init_50, rfl, rfl⟩)) dX1_init_53 dX1_init_55 rfl (k9 := 0) rfl (by decide) (by decide) (Nat.le_of_ble_eq_true rfl) (Nat.le_of_ble_eq_true rfl) (Nat.le_of_ble_eq_true rfl) fk_X1_27 np_1_5 rfl (fun r h => by cases h; rfl) (Nat.le_of_ble_eq_true rfl) (fun q5 => ?_)
  refine n_filf C (z := -1) (n := 200) (q := 66) (kn := 0) (a := q0) h9 dX1_init_58 dX1_init_59 (.inr (.inr ⟨dX1_init_62, rfl⟩)) dX1_init_63 rfl (k9 := 0) rfl fk_X1_9 nk_X1_30 ⟨Nat.le_of_ble_eq_true rfl, Nat.le_of_ble_eq_true rfl⟩ ⟨Nat.le_of_ble_eq_true rfl, Nat.le_of_ble_eq_true rfl⟩ (Nat.le_of_ble_eq_true rfl) rfl rfl ?_
  refine n_filf C (z := -1) (n := 200) (q := 74) (kn := 2) (a := q2) h9 dX1_init_66 dX1_init_67 (.inr (.inr ⟨dX1_init_70, rfl⟩)) dX1_init_71 rfl (k9 := 0) rfl fk_X1_18 nk_X1_30 ⟨Nat.le_of_ble_eq_true rfl, Nat.le_of_ble_eq_true rfl⟩ ⟨Nat.le_of_ble_eq_true rfl, Nat.le_of_ble_eq_true rfl⟩ (Nat.le_of_ble_eq_true rfl) rfl rfl ?_
  refine n_filf C (z := -1) (n := 200) (q := 82) (kn := 3) (a := q3) h9 dX1_init_74 dX1_init_75 (.inr (.inr ⟨dX1_init_78, rfl⟩)) dX1_init_79 rfl (k9 := 0) rfl fk_X1_21 nk_X1_30 ⟨Nat.le_of_ble_eq_true rfl, Nat.le_of_ble_eq_true rfl⟩ ⟨Nat.le_of_ble_eq_true rfl, Nat.le_of_ble_eq_true rfl⟩ (Nat.le_of_ble_eq_true rfl) rfl rfl ?_
  refine n_filf C (z := -1) (n := 200) (q := 90) (kn := 4) (a := q4) h9 dX1_init_82 dX1_init_83 (.inr (.inr ⟨dX1_init_86, rfl⟩)) dX1_init_87 rfl (k9 := 0) rfl fk_X1_24 nk_X1_30 ⟨Nat.le_of_ble_eq_true rfl, Nat.le_of_ble_eq_true rfl⟩ ⟨Nat.le_of_ble_eq_true rfl, Nat.le_of_ble_eq_true rfl⟩ (Nat.le_of_ble_eq_true rfl) rfl rfl ?_
  refine n_filf C (z := -1) (n := 200) (q := 98) (kn := 5) (a := q5) h9 dX1_init_90 dX1_init_91 (.inr (.inr ⟨dX1_init_94, rfl⟩)) dX1_init_95 rfl (k9 := 0) rfl fk_X1_27 nk_X1_30 ⟨Nat.le_of_ble_eq_true rfl, Nat.le_of_ble_eq_true rfl⟩ ⟨Nat.le_of_ble_eq_true rfl, Nat.le_of_ble_eq_true rfl⟩ (Nat.le_of_ble_eq_true rfl) rfl rfl ?_
  exact n_ret C dX1_init_98 rfl (Nat.le_of_ble_eq_true rfl) (Nat.le_of_ble_eq_true rfl) ⟨fun i => [q0, q1, q2, q3, q4, q5].getD i 0, rfl⟩
abbrev mX2_init : zM := (yX2_init, cX2_init, 1, none, [], 1, 23, 0, [])
abbrev d_X2 : List Value := [.null, .null, .null, .null]
abbrev f_X2 (r : Nat → Nat) : List Value := [.ref (r 0), .ref (r 1), .ref (r 2), .ref (r 3)]
abbrev e_X2 (E : zE) (r : Nat → Nat) : va_W := [(r 0, n_ba E 6), (r 1, n_ba E 6), (r 2, n_ia E 6), (r 3, n_ia E 6)]
set_option maxRecDepth 20000 in
theorem k_X2 {E : zE} {ws : va_W} {q0 h0 : Nat} (h9 : ws[q0]? = some (h0, .inr (2, d_X2))) : n_Sp E mX2_init [.ref h0] ws (fun ws' => ∃ r : Nat → Nat, ws' = ws.set q0 (h0, .inr (2, f_X2 r)) ++ e_X2 E r) 4 24 := by
  refine n_enter (by decide +kernel) (Nat.le_of_ble_eq_true rfl) (fun p l e s m below meth c C => ?_)
  refine n_aload C (i := 0) (q := 1) dX2_init_0 rfl rfl 0 rfl ?_
  refine n_objinit C (q := 4) dX2_init_1 rfl (z_big_of (by decide +kernel) rfl) (Nat.le_of_ble_eq_true rfl) (Nat.le_of_ble_eq_true rfl) n_obj2 ?_
  refine n_start h9 ?_
  refine n_arrZ C (z := 6) (N := 6) (q := 12) h9 dX2_init_4 (.inl ⟨dX2_init_5, rfl, rfl⟩) dX2_init_7 dX2_init_9 rfl (k9 := 0) rfl (by decide) (by decide) (Nat.le_of_ble_eq_true rfl) (Nat.le_of_ble_eq_true rfl) (Nat.le_of_ble_eq_true rfl) fk_X2_9 np_2_0 rfl (fun r h => by cases h; rfl) (Nat.le_of_ble_eq_true rfl) (fun q0 => ?_)
  refine n_arrZ C (z := 6) (N := 6) (q := 20) h9 dX2_init_12 (.inl ⟨dX2_init_13, rfl, rfl⟩) dX2_init_15 dX2_init_17 rfl (k9 := 0) rfl (by decide) (by decide) (Nat.le_of_ble_eq_true rfl) (Nat.le_of_ble_eq_true rfl) (Nat.le_of_ble_eq_true rfl) fk_X2_15 np_2_1 rfl (fun r h => by cases h; rfl) (Nat.le_of_ble_eq_true rfl) (fun q1 => ?_)
  refine n_arrI C (z := 6) (N := 6) (q := 28) h9 dX2_init_20 (.inl ⟨dX2_init_21, rfl, rfl⟩) dX2_init_23 dX2_init_25 rfl (k9 := 0) rfl (by decide) (by decide) (Nat.le_of_ble_eq_true rfl) (Nat.le_of_ble_eq_true rfl) (Nat.le_of_ble_eq_true rfl) fk_X2_18 np_2_2 rfl (fun r h => by cases h; rfl) (Nat.le_of_ble_eq_true rfl) (fun q2 => ?_)
  refine n_arrI C (z := 6) (N := 6) (q := 36) h9 dX2_init_28 (.inl ⟨dX2_init_29, rfl, rfl⟩) dX2_init_31 dX2_init_33 rfl (k9 := 0) rfl (by decide) (by decide) (Nat.le_of_ble_eq_true rfl) (Nat.le_of_ble_eq_true rfl) (Nat.le_of_ble_eq_true rfl) fk_X2_22 np_2_3 rfl (fun r h => by cases h; rfl) (Nat.le_of_ble_eq_true rfl) (fun q3 => ?_)
  exact n_ret C dX2_init_36 rfl (Nat.le_of_ble_eq_true rfl) (Nat.le_of_ble_eq_true rfl) ⟨fun i => [q0, q1, q2, q3].getD i 0, rfl⟩
abbrev mX3_init : zM := (yX3_init, cX3_init, 1, none, [], 1, 23, 0, [])
abbrev d_X3 : List Value := [.null, .null, .null, .int 0]
abbrev f_X3 (r : Nat → Nat) : List Value := [.ref (r 0), .ref (r 1), .ref (r 2), .int (Int32.ofInt 0)]
abbrev e_X3 (E : zE) (r : Nat → Nat) : va_W := [(r 0, n_ba E 572), (r 1, n_ia E 572), (r 2, n_ia E 572)]
set_option maxRecDepth 20000 in
theorem k_X3 {E : zE} {ws : va_W} {q0 h0 : Nat} (h9 : ws[q0]? = some (h0, .inr (3, d_X3))) : n_Sp E mX3_init [.ref h0] ws (fun ws' => ∃ r : Nat → Nat, ws' = ws.set q0 (h0, .inr (3, f_X3 r)) ++ e_X3 E r) 3 1716 := by
  refine n_enter (by decide +kernel) (Nat.le_of_ble_eq_true rfl) (fun p l e s m below meth c C => ?_)
  refine n_aload C (i := 0) (q := 1) dX3_init_0 rfl rfl 0 rfl ?_
  refine n_objinit C (q := 4) dX3_init_1 rfl (z_big_of (by decide +kernel) rfl) (Nat.le_of_ble_eq_true rfl) (Nat.le_of_ble_eq_true rfl) n_obj2 ?_
  refine n_start h9 ?_
  refine n_arrZ C (z := 572) (N := 572) (q := 13) h9 dX3_init_4 (.inr (.inl ⟨dX3_init_5, rfl, rfl⟩)) dX3_init_8 dX3_init_10 rfl (k9 := 0) rfl (by decide) (by decide) (Nat.le_of_ble_eq_true rfl) (Nat.le_of_ble_eq_true rfl) (Nat.le_of_ble_eq_true rfl) fk_X3_11 np_3_0 rfl (fun r h => by cases h; rfl) (Nat.le_of_ble_eq_true rfl) (fun q0 => ?_)
  refine n_arrI C (z := 572) (N := 572) (q := 22) h9 dX3_init_13 (.inr (.inl ⟨dX3_init_14, rfl, rfl⟩)) dX3_init_17 dX3_init_19 rfl (k9 := 0) rfl (by decide) (by decide) (Nat.le_of_ble_eq_true rfl) (Nat.le_of_ble_eq_true rfl) (Nat.le_of_ble_eq_true rfl) fk_X3_15 np_3_1 rfl (fun r h => by cases h; rfl) (Nat.le_of_ble_eq_true rfl) (fun q1 => ?_)
  refine n_arrI C (z := 572) (N := 572) (q := 31) h9 dX3_init_22 (.inr (.inl ⟨dX3_init_23, rfl, rfl⟩)) dX3_init_26 dX3_init_28 rfl (k9 := 0) rfl (by decide) (by decide) (Nat.le_of_ble_eq_true rfl) (Nat.le_of_ble_eq_true rfl) (Nat.le_of_ble_eq_true rfl) fk_X3_19 np_3_2 rfl (fun r h => by cases h; rfl) (Nat.le_of_ble_eq_true rfl) (fun q2 => ?_)
  refine n_puti C (z := 0) (q := 36) h9 dX3_init_31 (.inr (.inr ⟨dX3_init_32, rfl⟩)) dX3_init_33 rfl (k9 := 0) rfl fk_X3_22 npi_3_3 rfl (fun r h => by cases h; rfl) (Nat.le_of_ble_eq_true rfl) ?_
  exact n_ret C dX3_init_36 rfl (Nat.le_of_ble_eq_true rfl) (Nat.le_of_ble_eq_true rfl) ⟨fun i => [q0, q1, q2].getD i 0, rfl⟩
abbrev mX4_init : zM := (yX4_init, cX4_init, 1, none, [], 1, 23, 0, [])
abbrev d_X4 : List Value := [.null, .null, .null, .null, .null, .null, .int 0]
abbrev f_X4 (r : Nat → Nat) : List Value := [.ref (r 0), .ref (r 1), .ref (r 2), .ref (r 3), .ref (r 4), .ref (r 5), .int (Int32.ofInt 0)]
abbrev e_X4 (E : zE) (r : Nat → Nat) : va_W := [(r 0, n_ia E 60), (r 1, n_ia E 60), (r 2, n_ia E 60), (r 3, n_ia E 60), (r 4, n_ia E 60), (r 5, n_ia E 60)]
set_option maxRecDepth 20000 in
theorem k_X4 {E : zE} {ws : va_W} {q0 h0 : Nat} (h9 : ws[q0]? = some (h0, .inr (4, d_X4))) : n_Sp E mX4_init [.ref h0] ws (fun ws' => ∃ r : Nat → Nat, ws' = ws.set q0 (h0, .inr (4, f_X4 r)) ++ e_X4 E r) 6 360 := by
  refine n_enter (by decide +kernel) (Nat.le_of_ble_eq_true rfl) (fun p l e s m below meth c C => ?_)
  refine n_aload C (i := 0) (q := 1) dX4_init_0 rfl rfl 0 rfl ?_
  refine n_objinit C (q := 4) dX4_init_1 rfl (z_big_of (by decide +kernel) rfl) (Nat.le_of_ble_eq_true rfl) (Nat.le_of_ble_eq_true rfl) n_obj2 ?_
  refine n_start h9 ?_
  refine n_arrI C (z := 60) (N := 60) (q := 12) h9 dX4_init_4 (.inl ⟨dX4_init_5, rfl, rfl⟩) dX4_init_7 dX4_init_9 rfl (k9 := 0) rfl (by decide) (by decide) (Nat.le_of_ble_eq_true rfl) (Nat.le_of_ble_eq_true rfl) (Nat.le_of_ble_eq_true rfl) fk_X4_9 np_4_0 rfl (fun r h => by cases h; rfl) (Nat.le_of_ble_eq_true rfl) (fun q0 => ?_)
  refine n_arrI C (z := 60) (N := 60) (q := 20) h9 dX4_init_12 (.inl ⟨dX4_init_13, rfl, rfl⟩) dX4_init_15 dX4_init_17 rfl (k9 := 0) rfl (by decide) (by decide) (Nat.le_of_ble_eq_true rfl) (Nat.le_of_ble_eq_true rfl) (Nat.le_of_ble_eq_true rfl) fk_X4_15 np_4_1 rfl (fun r h => by cases h; rfl) (Nat.le_of_ble_eq_true rfl) (fun q1 => ?_)
  refine n_arrI C (z := 60) (N := 60) (q := 28) h9 dX4_init_20 (.inl ⟨dX4_init_21, rfl, rfl⟩) dX4_init_23 dX4_init_25 rfl (k9 := 0) rfl (by decide) (by decide) (Nat.le_of_ble_eq_true rfl) (Nat.le_of_ble_eq_true rfl) (Nat.le_of_ble_eq_true rfl) fk_X4_18 np_4_2 rfl (fun r h => by cases h; rfl) (Nat.le_of_ble_eq_true rfl) (fun q2 => ?_)
  refine n_arrI C (z := 60) (N := 60) (q := 36) h9 dX4_init_28 (.inl ⟨dX4_init_29, rfl, rfl⟩) dX4_init_31 dX4_init_33 rfl (k9 := 0) rfl (by decide) (by decide) (Nat.le_of_ble_eq_true rfl) (Nat.le_of_ble_eq_true rfl) (Nat.le_of_ble_eq_true rfl) fk_X4_21 np_4_3 rfl (fun r h => by cases h; rfl) (Nat.le_of_ble_eq_true rfl) (fun q3 => ?_)
  refine n_arrI C (z := 60) (N := 60) (q := 44) h9 dX4_init_36 (.inl ⟨dX4_init_37, rfl, rfl⟩) dX4_init_39 dX4_init_41 rfl (k9 := 0) rfl (by decide) (by decide) (Nat.le_of_ble_eq_true rfl) (Nat.le_of_ble_eq_true rfl) (Nat.le_of_ble_eq_true rfl) fk_X4_24 np_4_4 rfl (fun r h => by cases h; rfl) (Nat.le_of_ble_eq_true rfl) (fun q4 => ?_)
  refine n_arrI C (z := 60) (N := 60) (q := 52) h9 dX4_init_44 (.inl ⟨dX4_init_45, rfl, rfl⟩) dX4_init_47 dX4_init_49 rfl (k9 := 0) rfl (by decide) (by decide) (Nat.le_of_ble_eq_true rfl) (Nat.le_of_ble_eq_true rfl) (Nat.le_of_ble_eq_true rfl) fk_X4_27 np_4_5 rfl (fun r h => by cases h; rfl) (Nat.le_of_ble_eq_true rfl) (fun q5 => ?_)
  refine n_puti C (z := 0) (q := 57) h9 dX4_init_52 (.inr (.inr ⟨dX4_init_53, rfl⟩)) dX4_init_54 rfl (k9 := 0) rfl fk_X4_30 npi_4_6 rfl (fun r h => by cases h; rfl) (Nat.le_of_ble_eq_true rfl) ?_
  exact n_ret C dX4_init_57 rfl (Nat.le_of_ble_eq_true rfl) (Nat.le_of_ble_eq_true rfl) ⟨fun i => [q0, q1, q2, q3, q4, q5].getD i 0, rfl⟩
abbrev mX5_init : zM := (yX5_init, cX5_init, 1, none, [], 1, 23, 0, [])
abbrev d_X5 : List Value := [.null, .int 0]
abbrev f_X5 (r : Nat → Nat) : List Value := [.ref (r 0), .int (Int32.ofInt 0)]
abbrev e_X5 (E : zE) (r : Nat → Nat) : va_W := [(r 0, n_ia E 7)]
set_option maxRecDepth 20000 in
theorem k_X5 {E : zE} {ws : va_W} {q0 h0 : Nat} (h9 : ws[q0]? = some (h0, .inr (5, d_X5))) : n_Sp E mX5_init [.ref h0] ws (fun ws' => ∃ r : Nat → Nat, ws' = ws.set q0 (h0, .inr (5, f_X5 r)) ++ e_X5 E r) 1 7 := by
  refine n_enter (by decide +kernel) (Nat.le_of_ble_eq_true rfl) (fun p l e s m below meth c C => ?_)
  refine n_aload C (i := 0) (q := 1) dX5_init_0 rfl rfl 0 rfl ?_
  refine n_objinit C (q := 4) dX5_init_1 rfl (z_big_of (by decide +kernel) rfl) (Nat.le_of_ble_eq_true rfl) (Nat.le_of_ble_eq_true rfl) n_obj2 ?_
  refine n_start h9 ?_
  refine n_arrI C (z := 7) (N := 7) (q := 12) h9 dX5_init_4 (.inl ⟨dX5_init_5, rfl, rfl⟩) dX5_init_7 dX5_init_9 rfl (k9 := 0) rfl (by decide) (by decide) (Nat.le_of_ble_eq_true rfl) (Nat.le_of_ble_eq_true rfl) (Nat.le_of_ble_eq_true rfl) fk_X5_9 np_5_0 rfl (fun r h => by cases h; rfl) (Nat.le_of_ble_eq_true rfl) (fun q0 => ?_)
  refine n_puti C (z := 0) (q := 17) h9 dX5_init_12 (.inr (.inr ⟨dX5_init_13, rfl⟩)) dX5_init_14 rfl (k9 := 0) rfl fk_X5_15 npi_5_1 rfl (fun r h => by cases h; rfl) (Nat.le_of_ble_eq_true rfl) ?_
  exact n_ret C dX5_init_17 rfl (Nat.le_of_ble_eq_true rfl) (Nat.le_of_ble_eq_true rfl) ⟨fun i => [q0].getD i 0, rfl⟩
