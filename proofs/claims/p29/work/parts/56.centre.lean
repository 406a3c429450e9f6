/-! ===== what is made: Centre ===== -/
/-- an array of six arrays -/
abbrev n_oa (E : zE) (r : Nat → Nat) : va_E := .inl (e_cy E 2, 6, .inr (.inr (.inr (.inr (fun i => if i < 6 then some (r i) else none)))))
theorem n_rows {f : Nat → va_E} {e : va_E} {r : Nat → Nat} : va_pl ([] ++ (List.range 6).map r) (vr_up f ((List.range 6).map r) e) = [(r 0, e), (r 1, e), (r 2, e), (r 3, e), (r 4, e), (r 5, e)] := by
  have h : va_pl ([] ++ (List.range 6).map r) (vr_up f ((List.range 6).map r) e) = ((List.range 6).map r).map (fun a => (a, e)) := by
    unfold va_pl
    rw [List.nil_append]
    refine List.map_congr_left (fun a ha => ?_)
    rw [vr_up_in ha]
  rw [h]
  rfl
section
variable {E : zE} {M : zM} {Q : State → Prop} {p : Program} {l : Launch} {e : Env} {R : Room} {s : State} {m : MethodId} {args : Array Value} {below : List Frame} {meth : Method} {c : Code} {cells slots pc q : Nat} {al al' : List (Nat × Value)} {st : List Value} {ws new : va_W}
theorem n_mna (C : n_Cx E M p R s m args meth c) {ix : Nat} (hd : decode (m_c M) pc = .ok (.multianewarray ix 2, 4)) (hq : pc + 4 = q) (hcl : Cond.classLink (m_y M).cls ix ("[" ++ (FieldType.array .int).toString) ∈ z_big) (hc : cells + (1 + 6) ≤ R.cells) (hs : slots + (6 + 6 * 200) ≤ R.slots)
    (k : ∀ (qa : Nat) (r : Nat → Nat), n_G E M Q p l e R s m args below meth c (cells + 1 + 6) (slots + 6 + 6 * 200) q al (.ref qa :: st) (ws ++ [(qa, n_oa E r), (r 0, n_ia E 200), (r 1, n_ia E 200), (r 2, n_ia E 200), (r 3, n_ia E 200), (r 4, n_ia E 200), (r 5, n_ia E 200)])) : n_G E M Q p l e R s m args below meth c cells slots pc al (.int (Int32.ofInt 200) :: .int (Int32.ofInt 6) :: st) ws := by
  intro H locs ls hW hL
  subst hq
  obtain ⟨hx, hb, hml, hret, hown, hts, hlocks, hname, hR, hbase, hsw, hK⟩ := id C
  have h0 := (hK.2 0 _ rfl).2
  have h2 := (hK.2 2 _ rfl).2
  refine va_mna (X := ws) (L := []) (f := fun _ => n_ia E 0) (ty := .int) (N' := 6) (K' := 200) (z := (200, .inl (fun _ => (0 : Int32)))) (cy := e_cy E 0) hx hb hown (hts _ hcl) hsw.2.2.2.2 (hts _ (z_big_of (by decide +kernel) rfl)) h0 hK (by rw [show va_pl [] (fun _ => n_ia E 0) = [] from rfl, List.append_nil]; exact hW.1) (by rw [show va_pl [] (fun _ => n_ia E 0) = [] from rfl, List.append_nil]; exact hW.2.1) hW.2.2 (n_hA C) (by decide) (by decide) (by decide) (by decide) (by decide) (by decide) (by decide) rfl rfl hc hs (fun cc => arrV_new cc 200 _) hd (fun qa r cA H1 _ _ hK1 hP1 hD1 hS1 => ?_)
  have e1 : s.vm.findClass ("[" ++ (FieldType.array .int).toString) = some cA := (hK1.2 (z_tys E).length (cA, .array .int) (by simp)).2
  have e3 : cA = e_cy E 2 := Option.some.inj (e1.symm.trans h2)
  subst e3
  rw [n_rows, List.append_assoc] at hP1 hD1
  exact k qa r H1 locs ls ⟨hP1, hD1, hS1⟩ hL
end
abbrev mX0_init : zM := (yX0_init, cX0_init, 2, none, [], 1, 23, 0, [])
abbrev d_X0 : List Value := [.null, .null, .null, .int 0, .null, .null]
theorem np_0_0 (qa : Nat) : n_fp 0 0 (.ref qa) := ⟨RX0, TX0, 6, tyX0, tyX0 0, rfl, tyX0_ok, nmX0, tyX0_ok 0 (by decide), rfl, rfl⟩
theorem np_0_1 (qa : Nat) : n_fp 0 1 (.ref qa) := ⟨RX0, TX0, 6, tyX0, tyX0 1, rfl, tyX0_ok, nmX0, tyX0_ok 1 (by decide), rfl, rfl⟩
theorem np_0_2 (qa : Nat) : n_fp 0 2 (.ref qa) := ⟨RX0, TX0, 6, tyX0, tyX0 2, rfl, tyX0_ok, nmX0, tyX0_ok 2 (by decide), rfl, rfl⟩
theorem np_0_4 (qa : Nat) : n_fp 0 4 (.ref qa) := ⟨RX0, TX0, 6, tyX0, tyX0 4, rfl, tyX0_ok, nmX0, tyX0_ok 4 (by decide), rfl, rfl⟩
theorem npi_0_3 : n_fp 0 3 (.int (Int32.ofInt 0)) := ⟨RX0, TX0, 6, tyX0, tyX0 3, rfl, tyX0_ok, nmX0, tyX0_ok 3 (by decide), rfl, rfl⟩
theorem np_0_5 (qa : Nat) : n_fp 0 5 (.ref qa) := ⟨RX0, TX0, 6, tyX0, tyX0 5, rfl, tyX0_ok, nmX0, tyX0_ok 5 (by decide), rfl, rfl⟩
theorem nk_X0_33 : z_sk RX0 33 2 mJ7_fill := ⟨z_all_big (by decide +kernel), by decide +kernel⟩
abbrev f_X0 (r : Nat → Nat) : List Value := [.ref (r 0), .ref (r 1), .ref (r 2), .int (Int32.ofInt 0), .ref (r 3), .ref (r 4)]
abbrev e_X0 (E : zE) (r : Nat → Nat) : va_W := [(r 0, n_ia E 600), (r 1, n_ia E 600), (r 2, n_ia E 600), (r 3, n_ia E 6), (r 4, n_oa E (fun i => r (5 + i))), (r 5, n_if E 200 6), (r 6, n_if E 200 6), (r 7, n_if E 200 6), (r 8, n_if E 200 6), (r 9, n_if E 200 6), (r 10, n_if E 200 6)]
/-- a row is filled -/
theorem n_row {E : zE} {Q : State → Prop} {p : Program} {l : Launch} {e : Env} {R : Room} {s : State} {m : MethodId} {args : Array Value} {below : List Frame} {meth : Method} {c : Code} {cells slots : Nat} {ws new : va_W} (C : n_Cx E mX0_init p R s m args meth c) {q0 h0 qt i kt kn b : Nat} {x : Nat × va_E} {fs : List Value} {g : Nat → Int32} {t : Nat → Nat} (h9 : ws[q0]? = some x) (hi : i < 6) (hc : cells ≤ R.cells ∧ slots ≤ R.slots) (hf : fs[5]? = some (.ref qt)) (ht : new[kt]? = some (qt, n_oa E t)) (hb : t i = b) (hn : new[kn]? = some (b, .inl (e_cy E 0, 200, .inl g)))
    (k : n_G E mX0_init Q p l e R s m args below meth c cells slots 59 [(1, .int (Int32.ofInt ((i + 1 : Nat) : Int))), (0, .ref h0)] [] (ws.set q0 (h0, .inr (0, fs)) ++ new.set kn (b, n_if E 200 6))) : n_G E mX0_init Q p l e R s m args below meth c cells slots 59 [(1, .int (Int32.ofInt (i : Int))), (0, .ref h0)] [] (ws.set q0 (h0, .inr (0, fs)) ++ new) := by
  refine n_iload C (i := 1) (q := 60) dX0_init_59 rfl rfl 0 rfl ?_
  refine n_int C (z := 6) (q := 62) (.inl ⟨dX0_init_60, rfl, rfl⟩) ?_
  refine n_icmp_ge C (t := 82) (q := 65) dX0_init_62 (by decide) rfl ⟨by omega, by omega⟩ ⟨by omega, by omega⟩ (fun h => absurd h (by omega)) (fun h => ?_)
  refine n_aload C (i := 0) (q := 66) dX0_init_65 rfl rfl 1 rfl ?_
  refine n_get C (q := 69) dX0_init_66 rfl fk_X0_30 (n_at h9) hf ?_
  refine n_iload C (i := 1) (q := 70) dX0_init_69 rfl rfl 0 rfl ?_
  refine n_aald C (q := 71) (b := b) dX0_init_70 rfl (n_nat.trans ht) ⟨by omega, by omega⟩ (by omega) (by omega) ?_ ?_
  · show (if ((i : Nat) : Int).toNat < 6 then some (t ((i : Nat) : Int).toNat) else none) = some b
    rw [if_pos (by omega), show ((i : Nat) : Int).toNat = i by omega, hb]
  refine n_int C (z := 6) (q := 73) (.inl ⟨dX0_init_71, rfl, rfl⟩) ?_
  refine n_callS (M' := mJ7_fill) (q := 76) (as := [.ref b, .int (Int32.ofInt 6)]) (st := []) (mc := 0) (ms := 0) C dX0_init_73 rfl nk_X0_33 rfl rfl (Nat.zero_le _) ⟨Nat.le_of_ble_eq_true rfl, Nat.le_of_ble_eq_true rfl⟩ hc.1 hc.2 (k_fill (q0 := ws.length + kn) (by decide) (n_nat.trans hn)) (fun ws' hw => ?_)
  subst hw
  rw [n_nset]
  refine n_iinc C (q := 79) (i := 1) dX0_init_76 rfl 0 rfl (by decide) rfl ?_
  exact n_goto C (q := 59) dX0_init_79 (by decide) k
set_option maxRecDepth 20000 in
theorem k_X0 {E : zE} {ws : va_W} {q0 h0 : Nat} (h9 : ws[q0]? = some (h0, .inr (0, d_X0))) : n_Sp E mX0_init [.ref h0] ws (fun ws' => ∃ r : Nat → Nat, ws' = ws.set q0 (h0, .inr (0, f_X0 r)) ++ e_X0 E r) 11 3012 := by
  refine n_enter (by decide +kernel) (Nat.le_of_ble_eq_true rfl) (fun p l e s m below meth c C => ?_)
  refine n_aload C (i := 0) (q := 1) dX0_init_0 rfl rfl 0 rfl ?_
  refine n_objinit C (q := 4) dX0_init_1 rfl (z_big_of (by decide +kernel) rfl) (Nat.le_of_ble_eq_true rfl) (Nat.le_of_ble_eq_true rfl) n_obj2 ?_
  refine n_start h9 ?_
  refine n_arrI C (z := 600) (N := 600) (q := 13) h9 dX0_init_4 (.inr (.inl ⟨dX0_init_5, rfl, rfl⟩)) dX0_init_8 dX0_init_10 rfl (k9 := 0) rfl (by decide) (by decide) (Nat.le_of_ble_eq_true rfl) (Nat.le_of_ble_eq_true rfl) (Nat.le_of_ble_eq_true rfl) fk_X0_11 np_0_0 rfl (fun r h => by cases h; rfl) (Nat.le_of_ble_eq_true rfl) (fun u0 => ?_)
  refine n_arrI C (z := 600) (N := 600) (q := 22) h9 dX0_init_13 (.inr (.inl ⟨dX0_init_14, rfl, rfl⟩)) dX0_init_17 dX0_init_19 rfl (k9 := 0) rfl (by decide) (by decide) (Nat.le_of_ble_eq_true rfl) (Nat.le_of_ble_eq_true rfl) (Nat.le_of_ble_eq_true rfl) fk_X0_15 np_0_1 rfl (fun r h => by cases h; rfl) (Nat.le_of_ble_eq_true rfl) (fun u1 => ?_)
  refine n_arrI C (z := 600) (N := 600) (q := 31) h9 dX0_init_22 (.inr (.inl ⟨dX0_init_23, rfl, rfl⟩)) dX0_init_26 dX0_init_28 rfl (k9 := 0) rfl (by decide) (by decide) (Nat.le_of_ble_eq_true rfl) (Nat.le_of_ble_eq_true rfl) (Nat.le_of_ble_eq_true rfl) fk_X0_18 np_0_2 rfl (fun r h => by cases h; rfl) (Nat.le_of_ble_eq_true rfl) (fun u2 => ?_)
  refine n_puti C (z := 0) (q := 36) h9 dX0_init_31 (.inr (.inr ⟨dX0_init_32, rfl⟩)) dX0_init_33 rfl (k9 := 0) rfl fk_X0_21 npi_0_3 rfl (fun r h => by cases h; rfl) (Nat.le_of_ble_eq_true rfl) ?_
  refine n_arrI C (z := 6) (N := 6) (q := 44) h9 dX0_init_36 (.inl ⟨dX0_init_37, rfl, rfl⟩) dX0_init_39 dX0_init_41 rfl (k9 := 0) rfl (by decide) (by decide) (Nat.le_of_ble_eq_true rfl) (Nat.le_of_ble_eq_true rfl) (Nat.le_of_ble_eq_true rfl) fk_X0_25 np_0_4 rfl (fun r h => by cases h; rfl) (Nat.le_of_ble_eq_true rfl) (fun u3 => ?_)
  refine n_aload C (i := 0) (q := 45) dX0_init_44 rfl rfl 0 rfl ?_
  refine n_int C (z := 6) (q := 47) (.inl ⟨dX0_init_45, rfl, rfl⟩) ?_
  refine n_int C (z := 200) (q := 50) (.inr (.inl ⟨dX0_init_47, rfl, rfl⟩)) ?_
  refine n_mna C (q := 54) dX0_init_50 rfl (z_big_of (by decide +kernel) rfl) (Nat.le_of_ble_eq_true rfl) (Nat.le_of_ble_eq_true rfl) (fun u4 t => ?_)
  rw [List.append_assoc]
  refine n_put C (q := 57) dX0_init_54 rfl fk_X0_30 (np_0_5 u4) rfl (fun r h => by cases h; rfl) (n_at h9) (Nat.le_of_ble_eq_true rfl) ?_
  rw [n_set h9]
  refine n_int C (z := 0) (q := 58) (.inr (.inr ⟨dX0_init_57, rfl⟩)) ?_
  refine n_istore C (i := 1) (q := 59) dX0_init_58 rfl rfl (by decide) rfl ?_
  refine n_row C (i := 0) (kt := 4) (kn := 5) (qt := u4) (b := t 0) (t := t) (g := fun _ => 0) h9 (by decide) ⟨Nat.le_of_ble_eq_true rfl, Nat.le_of_ble_eq_true rfl⟩ rfl rfl rfl rfl ?_
  refine n_row C (i := 1) (kt := 4) (kn := 6) (qt := u4) (b := t 1) (t := t) (g := fun _ => 0) h9 (by decide) ⟨Nat.le_of_ble_eq_true rfl, Nat.le_of_ble_eq_true rfl⟩ rfl rfl rfl rfl ?_
  refine n_row C (i := 2) (kt := 4) (kn := 7) (qt := u4) (b := t 2) (t := t) (g := fun _ => 0) h9 (by decide) ⟨Nat.le_of_ble_eq_true rfl, Nat.le_of_ble_eq_true rfl⟩ rfl rfl rfl rfl ?_
  refine n_row C (i := 3) (kt := 4) (kn := 8) (qt := u4) (b := t 3) (t := t) (g := fun _ => 0) h9 (by decide) ⟨Nat.le_of_ble_eq_true rfl, Nat.le_of_ble_eq_true rfl⟩ rfl rfl rfl rfl ?_
  refine n_row C (i := 4) (kt := 4) (kn := 9) (qt := u4) (b := t 4) (t := t) (g := fun _ => 0) h9 (by decide) ⟨Nat.le_of_ble_eq_true rfl, Nat.le_of_ble_eq_true rfl⟩ rfl rfl rfl rfl ?_
  refine n_row C (i := 5) (kt := 4) (kn := 10) (qt := u4) (b := t 5) (t := t) (g := fun _ => 0) h9 (by decide) ⟨Nat.le_of_ble_eq_true rfl, Nat.le_of_ble_eq_true rfl⟩ rfl rfl rfl rfl ?_
  refine n_iload C (i := 1) (q := 60) dX0_init_59 rfl rfl 0 rfl ?_
  refine n_int C (z := 6) (q := 62) (.inl ⟨dX0_init_60, rfl, rfl⟩) ?_
  refine n_icmp_ge C (t := 82) (q := 65) dX0_init_62 (by decide) rfl ⟨by omega, by omega⟩ ⟨by omega, by omega⟩ (fun h => ?_) (fun h => absurd h (by omega))
  refine n_ret C dX0_init_82 rfl (Nat.le_of_ble_eq_true rfl) (Nat.le_of_ble_eq_true rfl) ⟨fun i => if i < 5 then [u0, u1, u2, u3, u4].getD i 0 else t (i - 5), ?_⟩
  refine congrArg (fun z => ws.set q0 (h0, .inr (0, [.ref u0, .ref u1, .ref u2, .int (Int32.ofInt 0), .ref u3, .ref u4])) ++ z) ?_
  show [(u0, n_ia E 600), (u1, n_ia E 600), (u2, n_ia E 600), (u3, n_ia E 6), (u4, n_oa E t), (t 0, n_if E 200 6), (t 1, n_if E 200 6), (t 2, n_if E 200 6), (t 3, n_if E 200 6), (t 4, n_if E 200 6), (t 5, n_if E 200 6)] = [(u0, n_ia E 600), (u1, n_ia E 600), (u2, n_ia E 600), (u3, n_ia E 6), (u4, n_oa E (fun i => if 5 + i < 5 then [u0, u1, u2, u3, u4].getD (5 + i) 0 else t (5 + i - 5))), (t 0, n_if E 200 6), (t 1, n_if E 200 6), (t 2, n_if E 200 6), (t 3, n_if E 200 6), (t 4, n_if E 200 6), (t 5, n_if E 200 6)]
  rw [show (fun i => if 5 + i < 5 then [u0, u1, u2, u3, u4].getD (5 + i) 0 else t (5 + i - 5)) = t from funext fun i => by rw [if_neg (by omega), show 5 + i - 5 = i by omega]]
