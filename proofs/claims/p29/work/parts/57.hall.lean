/-! ===== what is made: Portinghall ===== -/
theorem n_norm {E : zE} {M : zM} {Q : State → Prop} {p : Program} {l : Launch} {e : Env} {R : Room} {s : State} {m : MethodId} {args : Array Value} {below : List Frame} {meth : Method} {c : Code} {cells slots pc : Nat} {al : List (Nat × Value)} {st : List Value} {ws new new' : va_W} {q0 h0 ci : Nat} {fs fs' : List Value} (hf : fs = fs') (hn : new = new') (k : n_G E M Q p l e R s m args below meth c cells slots pc al st (ws.set q0 (h0, .inr (ci, fs')) ++ new')) : n_G E M Q p l e R s m args below meth c cells slots pc al st (ws.set q0 (h0, .inr (ci, fs)) ++ new) := by
  rw [hf, hn]
  exact k
theorem n_last {w : va_W} {x y : Nat × va_E} : (w ++ [x])[w.length]? = some x ∧ (w ++ [x]).set w.length y = w ++ [y] := by
  refine ⟨by rw [List.getElem?_append_right (Nat.le_refl _), Nat.sub_self]; rfl, ?_⟩
  rw [List.set_append_right _ _ (Nat.le_refl _), Nat.sub_self]
  rfl
section
variable {E : zE} {M : zM} {Q : State → Prop} {p : Program} {l : Launch} {e : Env} {R : Room} {s : State} {m : MethodId} {args : Array Value} {below : List Frame} {meth : Method} {c : Code} {cells slots pc q : Nat} {al al' : List (Nat × Value)} {st : List Value} {ws new : va_W}
/-- an object in a field, made by its constructor -/
theorem n_mk (C : n_Cx E M p R s m args meth c) {M' : zM} {q0 h0 ci ix kx sl k9 ci2 N mc ms : Nat} {x : Nat × va_E} {fs ds : List Value} {fo : (Nat → Nat) → List Value} {ne : (Nat → Nat) → va_W} {Cn : String} {T : u_T} (ty : Nat → FieldType) (h9 : ws[q0]? = some x) (d0 : decode (m_c M) pc = .ok (.aload_n 0, 1)) (d1 : decode (m_c M) (pc + 1) = .ok (.new ix, 3)) (d2 : decode (m_c M) (pc + 1 + 3) = .ok (.dup, 1)) (d4 : decode (m_c M) (pc + 1 + 3 + 1 + 3) = .ok (.putfield kx, 3)) (hq : pc + 1 + 3 + 1 + 3 + 3 = q) (hl0 : al[k9]? = some (0, .ref h0))
    (hc : vwCl[ci2]? = some (Cn, T, N)) (hin : ∀ w ∈ u_ws Cn T N, w ∈ z_big) (hty : ∀ k, k < N → parseFieldDescriptor (T k).2.2.1 = some (ty k)) (hh : ∀ w ∈ ([.classLink (m_y M).cls ix Cn, .instantiable Cn N, .initialized Cn] : List Cond), w ∈ z_big) (hds : ∀ j, j < N → defaultValue (ty j) = vp_V ds j) (hce : cells + 1 ≤ R.cells) (hsl : slots + N ≤ R.slots)
    (hk : z_fk (m_y M).cls kx ci sl) (hpf : ∀ qa, n_fp ci sl (.ref qa)) (hnm : (m_y M).name = "<init>") (hcl : ∀ r : vw_C, vwCl[ci]? = some r → r.1 = (m_y M).cls) (hlen : sl < fs.length)
    (sp : ∀ (w2 : va_W) (q2 h2 : Nat), w2[q2]? = some (h2, .inr (ci2, ds)) → n_Sp E M' [.ref h2] w2 (fun w' => ∃ r : Nat → Nat, w' = w2.set q2 (h2, .inr (ci2, fo r)) ++ ne r) mc ms)
    (call : ∀ (w2 : va_W) (qa : Nat) (post : va_W → Prop), n_Sp E M' [.ref qa] w2 post mc ms → (∀ w', post w' → n_G E M Q p l e R s m args below meth c (cells + 1 + mc) (slots + N + ms) (pc + 1 + 3 + 1 + 3) al [.ref qa, .ref h0] w') → n_G E M Q p l e R s m args below meth c (cells + 1) (slots + N) (pc + 1 + 3 + 1) al [.ref qa, .ref qa, .ref h0] w2)
    (k : ∀ (qa : Nat) (r : Nat → Nat), n_G E M Q p l e R s m args below meth c (cells + 1 + mc) (slots + N + ms) q al [] (ws.set q0 (h0, .inr (ci, fs.set sl (.ref qa))) ++ (new ++ ((qa, .inr (ci2, fo r)) :: ne r)))) : n_G E M Q p l e R s m args below meth c cells slots pc al [] (ws.set q0 (h0, .inr (ci, fs)) ++ new) := by
  refine n_aload C (i := 0) d0 rfl rfl k9 hl0 ?_
  refine n_new C ty d1 rfl hc hin hty hh hds hce hsl (fun qa => ?_)
  refine n_dup C d2 rfl ?_
  refine call _ qa _ (sp _ (ws.set q0 (h0, .inr (ci, fs)) ++ new).length qa (n_last (y := (0, n_ia E 0))).1) (fun w' hw => ?_)
  obtain ⟨r, rfl⟩ := hw
  rw [(n_last (x := (qa, .inr (ci2, ds)))).2, List.append_assoc, List.append_assoc]
  refine n_put C d4 hq hk (hpf qa) hnm hcl (n_at h9) hlen ?_
  rw [n_set h9]
  exact k qa r
end
abbrev mX6_init : zM := (yX6_init, cX6_init, 1, none, [], 2, 44, 0, [])
abbrev d_X6 : List Value := [.null, .null, .null, .null, .null, .null, .null, .int 0]
theorem np_6_0 (qa : Nat) : n_fp 6 0 (.ref qa) := ⟨RX6, TX6, 8, tyX6, tyX6 0, rfl, tyX6_ok, nmX6, tyX6_ok 0 (by decide), rfl, rfl⟩
theorem np_6_1 (qa : Nat) : n_fp 6 1 (.ref qa) := ⟨RX6, TX6, 8, tyX6, tyX6 1, rfl, tyX6_ok, nmX6, tyX6_ok 1 (by decide), rfl, rfl⟩
theorem np_6_2 (qa : Nat) : n_fp 6 2 (.ref qa) := ⟨RX6, TX6, 8, tyX6, tyX6 2, rfl, tyX6_ok, nmX6, tyX6_ok 2 (by decide), rfl, rfl⟩
theorem np_6_3 (qa : Nat) : n_fp 6 3 (.ref qa) := ⟨RX6, TX6, 8, tyX6, tyX6 3, rfl, tyX6_ok, nmX6, tyX6_ok 3 (by decide), rfl, rfl⟩
theorem np_6_4 (qa : Nat) : n_fp 6 4 (.ref qa) := ⟨RX6, TX6, 8, tyX6, tyX6 4, rfl, tyX6_ok, nmX6, tyX6_ok 4 (by decide), rfl, rfl⟩
theorem np_6_5 (qa : Nat) : n_fp 6 5 (.ref qa) := ⟨RX6, TX6, 8, tyX6, tyX6 5, rfl, tyX6_ok, nmX6, tyX6_ok 5 (by decide), rfl, rfl⟩
theorem np_6_6 (qa : Nat) : n_fp 6 6 (.ref qa) := ⟨RX6, TX6, 8, tyX6, tyX6 6, rfl, tyX6_ok, nmX6, tyX6_ok 6 (by decide), rfl, rfl⟩
theorem npi_6_7 : n_fp 6 7 (.int (Int32.ofInt 0)) := ⟨RX6, TX6, 8, tyX6, tyX6 7, rfl, tyX6_ok, nmX6, tyX6_ok 7 (by decide), rfl, rfl⟩
theorem nk_X6_59 : z_sk RX6 59 2 mJ7_fill := ⟨z_all_big (by decide +kernel), by decide +kernel⟩
theorem nik_2 : n_ink mX2_init := ⟨z_all_big (by decide +kernel), rfl, rfl, by decide +kernel⟩
theorem nnew_2 : ∀ w ∈ ([.classLink RX6 13 RX2, .instantiable RX2 4, .initialized RX2] : List Cond), w ∈ z_big := z_all_big (by decide +kernel)
theorem nds_2 : ∀ j, j < 4 → defaultValue (tyX2 j) = vp_V d_X2 j := by decide +kernel
theorem nik_1 : n_ik RX6 22 mX1_init := ⟨z_all_big (by decide +kernel), rfl, rfl, by decide +kernel⟩
theorem nnew_1 : ∀ w ∈ ([.classLink RX6 20 RX1, .instantiable RX1 6, .initialized RX1] : List Cond), w ∈ z_big := z_all_big (by decide +kernel)
theorem nds_1 : ∀ j, j < 6 → defaultValue (tyX1 j) = vp_V d_X1 j := by decide +kernel
theorem nik_4 : n_ink mX4_init := ⟨z_all_big (by decide +kernel), rfl, rfl, by decide +kernel⟩
theorem nnew_4 : ∀ w ∈ ([.classLink RX6 27 RX4, .instantiable RX4 7, .initialized RX4] : List Cond), w ∈ z_big := z_all_big (by decide +kernel)
theorem nds_4 : ∀ j, j < 7 → defaultValue (tyX4 j) = vp_V d_X4 j := by decide +kernel
theorem nik_0 : n_ik RX6 36 mX0_init := ⟨z_all_big (by decide +kernel), rfl, rfl, by decide +kernel⟩
theorem nnew_0 : ∀ w ∈ ([.classLink RX6 34 RX0, .instantiable RX0 6, .initialized RX0] : List Cond), w ∈ z_big := z_all_big (by decide +kernel)
theorem nds_0 : ∀ j, j < 6 → defaultValue (tyX0 j) = vp_V d_X0 j := by decide +kernel
theorem nik_3 : n_ink mX3_init := ⟨z_all_big (by decide +kernel), rfl, rfl, by decide +kernel⟩
theorem nnew_3 : ∀ w ∈ ([.classLink RX6 41 RX3, .instantiable RX3 4, .initialized RX3] : List Cond), w ∈ z_big := z_all_big (by decide +kernel)
theorem nds_3 : ∀ j, j < 4 → defaultValue (tyX3 j) = vp_V d_X3 j := by decide +kernel
theorem nik_5 : n_ink mX5_init := ⟨z_all_big (by decide +kernel), rfl, rfl, by decide +kernel⟩
theorem nnew_5 : ∀ w ∈ ([.classLink RX6 48 RX5, .instantiable RX5 2, .initialized RX5] : List Cond), w ∈ z_big := z_all_big (by decide +kernel)
theorem nds_5 : ∀ j, j < 2 → defaultValue (tyX5 j) = vp_V d_X5 j := by decide +kernel
abbrev f_X6 (q : Nat → Nat) : List Value := [.ref (q 0), .ref (q 1), .ref (q 2), .ref (q 3), .ref (q 4), .ref (q 5), .ref (q 6), .int (Int32.ofInt 0)]
abbrev e_X6 (E : zE) (q : Nat → Nat) (r : Nat → Nat → Nat) : va_W := (((((([(q 0, n_if E 20 (-1))] ++ ((q 1, .inr (2, f_X2 (r 1))) :: e_X2 E (r 1))) ++ ((q 2, .inr (1, f_X1 (r 2))) :: e_X1 E (r 2))) ++ ((q 3, .inr (4, f_X4 (r 3))) :: e_X4 E (r 3))) ++ ((q 4, .inr (0, f_X0 (r 4))) :: e_X0 E (r 4))) ++ ((q 5, .inr (3, f_X3 (r 5))) :: e_X3 E (r 5))) ++ ((q 6, .inr (5, f_X5 (r 6))) :: e_X5 E (r 6)))
set_option maxHeartbeats 4000000 in
set_option maxRecDepth 20000 in
theorem k_X6 {E : zE} {ws : va_W} {q0 h0 : Nat} (h9 : ws[q0]? = some (h0, .inr (6, d_X6))) : n_Sp E mX6_init [.ref h0] ws (fun ws' => ∃ (q : Nat → Nat) (r : Nat → Nat → Nat), ws' = ws.set q0 (h0, .inr (6, f_X6 q)) ++ e_X6 E q r) 38 6368 := by
  refine n_enter (by decide +kernel) (Nat.le_of_ble_eq_true rfl) (fun p l e s m below meth c C => ?_)
  refine n_aload C (i := 0) (q := 1) dX6_init_0 rfl rfl 0 rfl ?_
  refine n_objinit C (q := 4) dX6_init_1 rfl (z_big_of (by decide +kernel) rfl) (Nat.le_of_ble_eq_true rfl) (Nat.le_of_ble_eq_true rfl) n_obj2 ?_
  refine n_start h9 ?_
  refine n_arrI C (z := 20) (N := 20) (q := 12) h9 dX6_init_4 (.inl ⟨dX6_init_5, rfl, rfl⟩) dX6_init_7 dX6_init_9 rfl (k9 := 0) rfl (by decide) (by decide) (Nat.le_of_ble_eq_true rfl) (Nat.le_of_ble_eq_true rfl) (Nat.le_of_ble_eq_true rfl) fk_X6_9 np_6_0 rfl (fun r h => by cases h; rfl) (Nat.le_of_ble_eq_true rfl) (fun u0 => ?_)
  refine n_norm (fs' := [.ref u0, .null, .null, .null, .null, .null, .null, .int 0]) (new' := [(u0, n_ia E 20)]) rfl rfl ?_
  refine n_mk C (M' := mX2_init) (q := 23) (ci2 := 2) (N := 4) (mc := 4) (ms := 24) (ds := d_X2) (fo := f_X2) (ne := e_X2 E) tyX2 h9 dX6_init_12 dX6_init_13 dX6_init_16 dX6_init_20 rfl (k9 := 0) rfl rfl z_ws2 tyX2_ok nnew_2 nds_2 (Nat.le_of_ble_eq_true rfl) (Nat.le_of_ble_eq_true rfl) fk_X6_16 np_6_1 rfl (fun r h => by cases h; rfl) (Nat.le_of_ble_eq_true rfl) (fun w2 q2 h2 hx => k_X2 hx) (fun w2 qa post sp k => n_callIN C dX6_init_17 rfl nik_2 (host := RX6) (fun h => h.1) (Nat.le_of_ble_eq_true rfl) ⟨Nat.le_of_ble_eq_true rfl, Nat.le_of_ble_eq_true rfl⟩ (Nat.le_of_ble_eq_true rfl) (Nat.le_of_ble_eq_true rfl) sp k) (fun u1 r1 => ?_)
  refine n_norm (fs' := [.ref u0, .ref u1, .null, .null, .null, .null, .null, .int 0]) (new' := ([(u0, n_ia E 20)] ++ ((u1, .inr (2, f_X2 r1)) :: e_X2 E r1))) rfl rfl ?_
  refine n_mk C (M' := mX1_init) (q := 34) (ci2 := 1) (N := 6) (mc := 6) (ms := 1200) (ds := d_X1) (fo := f_X1) (ne := e_X1 E) tyX1 h9 dX6_init_23 dX6_init_24 dX6_init_27 dX6_init_31 rfl (k9 := 0) rfl rfl z_ws1 tyX1_ok nnew_1 nds_1 (Nat.le_of_ble_eq_true rfl) (Nat.le_of_ble_eq_true rfl) fk_X6_23 np_6_2 rfl (fun r h => by cases h; rfl) (Nat.le_of_ble_eq_true rfl) (fun w2 q2 h2 hx => k_X1 hx) (fun w2 qa post sp k => n_callI C dX6_init_28 rfl nik_1 (Nat.le_of_ble_eq_true rfl) ⟨Nat.le_of_ble_eq_true rfl, Nat.le_of_ble_eq_true rfl⟩ (Nat.le_of_ble_eq_true rfl) (Nat.le_of_ble_eq_true rfl) sp k) (fun u2 r2 => ?_)
  refine n_norm (fs' := [.ref u0, .ref u1, .ref u2, .null, .null, .null, .null, .int 0]) (new' := (([(u0, n_ia E 20)] ++ ((u1, .inr (2, f_X2 r1)) :: e_X2 E r1)) ++ ((u2, .inr (1, f_X1 r2)) :: e_X1 E r2))) rfl rfl ?_
  refine n_mk C (M' := mX4_init) (q := 45) (ci2 := 4) (N := 7) (mc := 6) (ms := 360) (ds := d_X4) (fo := f_X4) (ne := e_X4 E) tyX4 h9 dX6_init_34 dX6_init_35 dX6_init_38 dX6_init_42 rfl (k9 := 0) rfl rfl z_ws4 tyX4_ok nnew_4 nds_4 (Nat.le_of_ble_eq_true rfl) (Nat.le_of_ble_eq_true rfl) fk_X6_30 np_6_3 rfl (fun r h => by cases h; rfl) (Nat.le_of_ble_eq_true rfl) (fun w2 q2 h2 hx => k_X4 hx) (fun w2 qa post sp k => n_callIN C dX6_init_39 rfl nik_4 (host := RX6) (fun h => h.2.1) (Nat.le_of_ble_eq_true rfl) ⟨Nat.le_of_ble_eq_true rfl, Nat.le_of_ble_eq_true rfl⟩ (Nat.le_of_ble_eq_true rfl) (Nat.le_of_ble_eq_true rfl) sp k) (fun u3 r3 => ?_)
  refine n_norm (fs' := [.ref u0, .ref u1, .ref u2, .ref u3, .null, .null, .null, .int 0]) (new' := ((([(u0, n_ia E 20)] ++ ((u1, .inr (2, f_X2 r1)) :: e_X2 E r1)) ++ ((u2, .inr (1, f_X1 r2)) :: e_X1 E r2)) ++ ((u3, .inr (4, f_X4 r3)) :: e_X4 E r3))) rfl rfl ?_
  refine n_mk C (M' := mX0_init) (q := 56) (ci2 := 0) (N := 6) (mc := 11) (ms := 3012) (ds := d_X0) (fo := f_X0) (ne := e_X0 E) tyX0 h9 dX6_init_45 dX6_init_46 dX6_init_49 dX6_init_53 rfl (k9 := 0) rfl rfl z_ws0 tyX0_ok nnew_0 nds_0 (Nat.le_of_ble_eq_true rfl) (Nat.le_of_ble_eq_true rfl) fk_X6_37 np_6_4 rfl (fun r h => by cases h; rfl) (Nat.le_of_ble_eq_true rfl) (fun w2 q2 h2 hx => k_X0 hx) (fun w2 qa post sp k => n_callI C dX6_init_50 rfl nik_0 (Nat.le_of_ble_eq_true rfl) ⟨Nat.le_of_ble_eq_true rfl, Nat.le_of_ble_eq_true rfl⟩ (Nat.le_of_ble_eq_true rfl) (Nat.le_of_ble_eq_true rfl) sp k) (fun u4 r4 => ?_)
  refine n_norm (fs' := [.ref u0, .ref u1, .ref u2, .ref u3, .ref u4, .null, .null, .int 0]) (new' := (((([(u0, n_ia E 20)] ++ ((u1, .inr (2, f_X2 r1)) :: e_X2 E r1)) ++ ((u2, .inr (1, f_X1 r2)) :: e_X1 E r2)) ++ ((u3, .inr (4, f_X4 r3)) :: e_X4 E r3)) ++ ((u4, .inr (0, f_X0 r4)) :: e_X0 E r4))) rfl rfl ?_
  refine n_mk C (M' := mX3_init) (q := 67) (ci2 := 3) (N := 4) (mc := 3) (ms := 1716) (ds := d_X3) (fo := f_X3) (ne := e_X3 E) tyX3 h9 dX6_init_56 dX6_init_57 dX6_init_60 dX6_init_64 rfl (k9 := 0) rfl rfl z_ws3 tyX3_ok nnew_3 nds_3 (Nat.le_of_ble_eq_true rfl) (Nat.le_of_ble_eq_true rfl) fk_X6_44 np_6_5 rfl (fun r h => by cases h; rfl) (Nat.le_of_ble_eq_true rfl) (fun w2 q2 h2 hx => k_X3 hx) (fun w2 qa post sp k => n_callIN C dX6_init_61 rfl nik_3 (host := RX6) (fun h => h.2.2.1) (Nat.le_of_ble_eq_true rfl) ⟨Nat.le_of_ble_eq_true rfl, Nat.le_of_ble_eq_true rfl⟩ (Nat.le_of_ble_eq_true rfl) (Nat.le_of_ble_eq_true rfl) sp k) (fun u5 r5 => ?_)
  refine n_norm (fs' := [.ref u0, .ref u1, .ref u2, .ref u3, .ref u4, .ref u5, .null, .int 0]) (new' := ((((([(u0, n_ia E 20)] ++ ((u1, .inr (2, f_X2 r1)) :: e_X2 E r1)) ++ ((u2, .inr (1, f_X1 r2)) :: e_X1 E r2)) ++ ((u3, .inr (4, f_X4 r3)) :: e_X4 E r3)) ++ ((u4, .inr (0, f_X0 r4)) :: e_X0 E r4)) ++ ((u5, .inr (3, f_X3 r5)) :: e_X3 E r5))) rfl rfl ?_
  refine n_mk C (M' := mX5_init) (q := 78) (ci2 := 5) (N := 2) (mc := 1) (ms := 7) (ds := d_X5) (fo := f_X5) (ne := e_X5 E) tyX5 h9 dX6_init_67 dX6_init_68 dX6_init_71 dX6_init_75 rfl (k9 := 0) rfl rfl z_ws5 tyX5_ok nnew_5 nds_5 (Nat.le_of_ble_eq_true rfl) (Nat.le_of_ble_eq_true rfl) fk_X6_51 np_6_6 rfl (fun r h => by cases h; rfl) (Nat.le_of_ble_eq_true rfl) (fun w2 q2 h2 hx => k_X5 hx) (fun w2 qa post sp k => n_callIN C dX6_init_72 rfl nik_5 (host := RX6) (fun h => h.2.2.2.1) (Nat.le_of_ble_eq_true rfl) ⟨Nat.le_of_ble_eq_true rfl, Nat.le_of_ble_eq_true rfl⟩ (Nat.le_of_ble_eq_true rfl) (Nat.le_of_ble_eq_true rfl) sp k) (fun u6 r6 => ?_)
  refine n_norm (fs' := [.ref u0, .ref u1, .ref u2, .ref u3, .ref u4, .ref u5, .ref u6, .int 0]) (new' := (((((([(u0, n_ia E 20)] ++ ((u1, .inr (2, f_X2 r1)) :: e_X2 E r1)) ++ ((u2, .inr (1, f_X1 r2)) :: e_X1 E r2)) ++ ((u3, .inr (4, f_X4 r3)) :: e_X4 E r3)) ++ ((u4, .inr (0, f_X0 r4)) :: e_X0 E r4)) ++ ((u5, .inr (3, f_X3 r5)) :: e_X3 E r5)) ++ ((u6, .inr (5, f_X5 r6)) :: e_X5 E r6))) rfl rfl ?_
  refine n_puti C (z := 0) (q := 83) h9 dX6_init_78 (.inr (.inr ⟨dX6_init_79, rfl⟩)) dX6_init_80 rfl (k9 := 0) rfl fk_X6_55 npi_6_7 rfl (fun r h => by cases h; rfl) (Nat.le_of_ble_eq_true rfl) ?_
  refine n_norm (fs' := [.ref u0, .ref u1, .ref u2, .ref u3, .ref u4, .ref u5, .ref u6, .int (Int32.ofInt 0)]) (new' := (((((([(u0, n_ia E 20)] ++ ((u1, .inr (2, f_X2 r1)) :: e_X2 E r1)) ++ ((u2, .inr (1, f_X1 r2)) :: e_X1 E r2)) ++ ((u3, .inr (4, f_X4 r3)) :: e_X4 E r3)) ++ ((u4, .inr (0, f_X0 r4)) :: e_X0 E r4)) ++ ((u5, .inr (3, f_X3 r5)) :: e_X3 E r5)) ++ ((u6, .inr (5, f_X5 r6)) :: e_X5 E r6))) rfl rfl ?_
  refine n_filf C (z := -1) (n := 20) (q := 91) (kn := 0) (a := u0) h9 dX6_init_83 dX6_init_84 (.inr (.inr ⟨dX6_init_87, rfl⟩)) dX6_init_88 rfl (k9 := 0) rfl fk_X6_9 nk_X6_59 ⟨Nat.le_of_ble_eq_true rfl, Nat.le_of_ble_eq_true rfl⟩ ⟨Nat.le_of_ble_eq_true rfl, Nat.le_of_ble_eq_true rfl⟩ (Nat.le_of_ble_eq_true rfl) rfl rfl ?_
  refine n_norm (fs' := [.ref u0, .ref u1, .ref u2, .ref u3, .ref u4, .ref u5, .ref u6, .int (Int32.ofInt 0)]) (new' := (((((([(u0, n_if E 20 (-1))] ++ ((u1, .inr (2, f_X2 r1)) :: e_X2 E r1)) ++ ((u2, .inr (1, f_X1 r2)) :: e_X1 E r2)) ++ ((u3, .inr (4, f_X4 r3)) :: e_X4 E r3)) ++ ((u4, .inr (0, f_X0 r4)) :: e_X0 E r4)) ++ ((u5, .inr (3, f_X3 r5)) :: e_X3 E r5)) ++ ((u6, .inr (5, f_X5 r6)) :: e_X5 E r6))) rfl rfl ?_
  exact n_ret C dX6_init_91 rfl (Nat.le_of_ble_eq_true rfl) (Nat.le_of_ble_eq_true rfl) ⟨fun i => [u0, u1, u2, u3, u4, u5, u6].getD i 0, fun i => if i = 1 then r1 else if i = 2 then r2 else if i = 3 then r3 else if i = 4 then r4 else if i = 5 then r5 else r6, rfl⟩
