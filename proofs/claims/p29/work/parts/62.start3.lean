/-! ===== the start: from the law's entry to its loop ===== -/
theorem a_nik6 : n_ik R_law 177 mX6_init := ⟨z_all_big (by decide +kernel), rfl, rfl, by decide +kernel⟩
theorem a_nnew6 : ∀ w ∈ ([.classLink R_law 9 RX6, .instantiable RX6 8, .initialized RX6] : List Cond), w ∈ z_big := z_all_big (by decide +kernel)
theorem a_nds6 : ∀ j, j < 8 → defaultValue (tyX6 j) = vp_V d_X6 j := by decide +kernel
theorem a_long0 : ∀ cA : ClassId, vp_cell cA (6, .inr (.inl (fun _ => Int64.ofInt 0))) = arrV cA 6 (fun _ => defaultValue .long) := by
  intro cA
  rw [vp_cell_l]
  rfl
theorem n_astorew {E : zE} {M : zM} {Q : State → Prop} {p : Program} {l : Launch} {e : Env} {R : Room} {s : State} {m : MethodId} {args : Array Value} {below : List Frame} {meth : Method} {c : Code} {cells slots pc q : Nat} {al : List (Nat × Value)} {st : List Value} {ws : va_W} (C : n_Cx E M p R s m args meth c) {i a : Nat} {al' : List (Nat × Value)} (hd : decode (m_c M) pc = .ok (.astore i, 2)) (hq : pc + 2 = q) (hn : i < m_l M) (ha : (i, Value.ref a) :: al.filter (fun q => !(q.1 == i) && !(q.1 + 1 == i && q.2.category == 2)) = al') (k : n_G E M Q p l e R s m args below meth c cells slots q al' st ws) : n_G E M Q p l e R s m args below meth c cells slots pc al (.ref a :: st) ws := by
  intro H locs ls hW hL
  subst hq
  exact lv_astore C.1 C.2.1 hd hL hn ha (fun ls' hl' => k H locs ls' hW hl')
theorem a_go {p : Program} {l : Launch} {e : Env} {s : State} {m : MethodId} {below : List Frame} {meth : Method} {c : Code} {b L : Nat} {xs : Nat → Int32} {D : va_G} {cy : Nat → ClassId} {a0 : Nat} {q t : Nat → Nat} {r : Nat → Nat → Nat} (hflag : l.stackTraces = false) (hL : L ≤ 260) (C0 : lw_At p s m meth c b L xs)
    (hK : va_K D vwCl [(cy 0, .int), (cy 1, .boolean), (cy 2, .array .int), (cy 3, .long)] s) :
    n_G (s.heap.size, fun _ => b, D, cy, L, fun j => (xs j).toInt) (mLw (c.exceptionTable.toList.map (fun x => (x.startPc, x.endPc, x.handlerPc, x.catchType)))) (lw_Z below #[Value.ref b] s) p l e room_1 s m #[Value.ref b] below meth c 49 6637 64 [(11, .ref (t 9)), (10, .ref (t 8)), (9, .ref (t 7)), (8, .ref (t 6)), (7, .ref (t 5)), (6, .ref (t 4)), (5, .ref (t 3)), (4, .ref (t 2)), (3, .ref (t 1)), (2, .ref (t 0)), (1, .ref a0), (0, .ref b)] [] (a_W (s.heap.size, fun _ => b, D, cy, L, fun j => (xs j).toInt) a0 q t r) := by
  obtain ⟨hx, hb, hr, hml, hown, hts, hX, hbl, hlocks, hgv⟩ := C0
  intro H locs ls hW hl
  have hA : ∀ a : Nat, a < s.heap.size → ¬ z_A (s.heap.size, a_ad a0 b q t r, D, cy, L, fun j => (xs j).toInt) a := fun a ha h => by
    have h2 : s.heap.size ≤ a := h
    omega
  have hzq := a_zq (A := z_A (s.heap.size, a_ad a0 b q t r, D, cy, L, fun j => (xs j).toInt)) hts hgv hA
  have hst : z_st (s.heap.size, a_ad a0 b q t r, D, cy, L, fun j => (xs j).toInt) s s.heap := by
    refine ⟨hzq.1, hzq.2, ?_⟩
    show va_X b L (fun j => Int32.ofInt (xs j).toInt) s s.heap
    rw [show (fun j => Int32.ofInt (xs j).toInt) = xs from funext fun j => z_as _]
    exact hX
  have zC : z_Cx (s.heap.size, a_ad a0 b q t r, D, cy, L, fun j => (xs j).toInt) (mLw (c.exceptionTable.toList.map (fun x => (x.startPc, x.endPc, x.handlerPc, x.catchType)))) (zFL L (fun j => (xs j).toInt) 49 6637) p l room_1 s m #[Value.ref b] meth c :=
    ⟨hx, hb, hml, hr, hown, fun w hw => hts w (z_big_in hw), hlocks, rfl, ⟨rfl, rfl, (show 49 + 100000 ≤ 600104 by omega), (show 6637 + 6 * 100000 ≤ 7301314 by omega)⟩, hflag, Nat.le_refl _, a_sw hts hgv, hst⟩
  have zW : z_wd (s.heap.size, a_ad a0 b q t r, D, cy, L, fun j => (xs j).toInt) a_S0 s H :=
    ⟨a_wP hW.1, hK, a_wD hW.2.1, hst.kept (Nat.le_refl _) hbl hW.2.2.2.1, ⟨hW.2.2.1, hbl, hL, fun j => z_rng _⟩, a_ok⟩
  have zl : z_lok (a_ad a0 b q t r) 50 [41, 44] [some (zR 49), some (zR 0), some (zR 7), some (zR 40), some (zR 41), some (zR 42), some (zR 43), some (zR 44), some (zR 48), some (zR 45), some (zR 46), some (zR 47), none, none, none, none, none, none, none, none, none, none, none, none, none, none, none, none, none, none, none, none, none, none, none, none, none, none, none, none, none, none, none, none, none, none, none, none, none, none] ls := by
    refine ⟨hl.1, hl.2.1, rfl, fun i v hv => ?_⟩
    have hi : i < 50 := (List.getElem?_eq_some_iff.mp hv).1
    by_cases h12 : i < 12
    · rcases (show i = 0 ∨ i = 1 ∨ i = 2 ∨ i = 3 ∨ i = 4 ∨ i = 5 ∨ i = 6 ∨ i = 7 ∨ i = 8 ∨ i = 9 ∨ i = 10 ∨ i = 11 by omega) with rfl | rfl | rfl | rfl | rfl | rfl | rfl | rfl | rfl | rfl | rfl | rfl <;> cases hv
      · exact ⟨lv_at hl 11 rfl, .inl trivial, trivial⟩
      · exact ⟨lv_at hl 10 rfl, .inl trivial, trivial⟩
      · exact ⟨lv_at hl 9 rfl, .inl trivial, trivial⟩
      · exact ⟨lv_at hl 8 rfl, .inl trivial, trivial⟩
      · exact ⟨lv_at hl 7 rfl, .inl trivial, trivial⟩
      · exact ⟨lv_at hl 6 rfl, .inl trivial, trivial⟩
      · exact ⟨lv_at hl 5 rfl, .inl trivial, trivial⟩
      · exact ⟨lv_at hl 4 rfl, .inl trivial, trivial⟩
      · exact ⟨lv_at hl 3 rfl, .inl trivial, trivial⟩
      · exact ⟨lv_at hl 2 rfl, .inl trivial, trivial⟩
      · exact ⟨lv_at hl 1 rfl, .inl trivial, trivial⟩
      · exact ⟨lv_at hl 0 rfl, .inl trivial, trivial⟩
    · exfalso
      rcases (show i = 12 ∨ i = 13 ∨ i = 14 ∨ i = 15 ∨ i = 16 ∨ i = 17 ∨ i = 18 ∨ i = 19 ∨ i = 20 ∨ i = 21 ∨ i = 22 ∨ i = 23 ∨ i = 24 ∨ i = 25 ∨ i = 26 ∨ i = 27 ∨ i = 28 ∨ i = 29 ∨ i = 30 ∨ i = 31 ∨ i = 32 ∨ i = 33 ∨ i = 34 ∨ i = 35 ∨ i = 36 ∨ i = 37 ∨ i = 38 ∨ i = 39 ∨ i = 40 ∨ i = 41 ∨ i = 42 ∨ i = 43 ∨ i = 44 ∨ i = 45 ∨ i = 46 ∨ i = 47 ∨ i = 48 ∨ i = 49 by omega) with rfl | rfl | rfl | rfl | rfl | rfl | rfl | rfl | rfl | rfl | rfl | rfl | rfl | rfl | rfl | rfl | rfl | rfl | rfl | rfl | rfl | rfl | rfl | rfl | rfl | rfl | rfl | rfl | rfl | rfl | rfl | rfl | rfl | rfl | rfl | rfl | rfl | rfl <;> cases hv
  have g := lc_init (hh := c.exceptionTable.toList.map (fun x => (x.startPc, x.endPc, x.handlerPc, x.catchType))) (F := zFL L (fun j => (xs j).toInt) 49 6637) (fun U hU => lc_loop (fun u al S hu => g_lawret (by omega) (by omega) hu dL_law_3073) 150 0 U (by omega) (a_inv hU)) (s.heap.size, a_ad a0 b q t r, D, cy, L, fun j => (xs j).toInt) p l e room_1 s m #[Value.ref b] below meth c zC H locs ls zW hW.2.2 zl (fun v hv => nomatch hv)
  intro T hT X
  obtain ⟨t1, h1, h2⟩ := g T hT X
  exact ⟨t1, h1, h2 ⟨rfl, rfl, rfl, rfl⟩⟩
theorem a_flag {l : Launch} (h : l.flags = flags0) : l.stackTraces = false := by
  unfold Launch.stackTraces
  rw [h]
  decide +kernel
set_option maxRecDepth 20000 in
set_option maxHeartbeats 4000000 in
theorem whole_start {p : Program} {e : Env} {s : State} {m : MethodId} {below : List Frame} {meth : Method} {c : Code} (l : Launch) (hflags : l.flags = flags0) {b L : Nat} {xs : Nat → Int32} (hL : L ≤ 260) (C0 : lw_At p s m meth c b L xs) : W p l e room_1 s m #[Value.ref b] below meth c s.heap [] 0 0 (lw_Z below #[Value.ref b] s) (entryFrame m ([Value.ref b] : List Value).toArray 50) := by
  have C1 := C0
  obtain ⟨hx, hb, hr, hml, hown, hts, hX, hbl, hlocks, hgv⟩ := C0
  obtain ⟨D, hD⟩ := a_known hts
  obtain ⟨cy, hcy⟩ := a_arr hts
  have hflag := a_flag hflags
  have hK : va_K D vwCl [(cy 0, .int), (cy 1, .boolean), (cy 2, .array .int), (cy 3, .long)] s := ⟨hD, hcy⟩
  have fin := fun (a0 : Nat) (q t : Nat → Nat) (r : Nat → Nat → Nat) => a_go (l := l) (e := e) (below := below) (a0 := a0) (q := q) (t := t) (r := r) hflag hL C1 hK
  have C : n_Cx (s.heap.size, fun _ => b, D, cy, L, fun j => (xs j).toInt) (mLw (c.exceptionTable.toList.map (fun x => (x.startPc, x.endPc, x.handlerPc, x.catchType)))) p room_1 s m #[Value.ref b] meth c :=
    ⟨hx, hb, hml, hr, hown, fun w hw => hts w (z_big_in hw), hlocks, fun h => absurd (show x.name = "<init>" from h) (by decide +kernel), ⟨rfl, rfl⟩, Nat.le_refl _, a_nsw hts, hK⟩
  clear C1 hX hgv hcy hD
  rw [lg_entry_eq]
  have hl := lv_entry ([.ref b]) (n := 50) (Nat.le_of_ble_eq_true rfl)
  generalize (lg_sl ([.ref b]) ++ List.replicate (50 - (lg_sl ([.ref b])).length) Slot.unset).toArray = ls at hl ⊢
  generalize hE : ((s.heap.size, fun _ => b, D, cy, L, fun j => (xs j).toInt) : zE) = E at C fin
  have hb0 : e_b E = s.heap.size := by rw [← hE]
  generalize hM : mLw (c.exceptionTable.toList.map (fun x => (x.startPc, x.endPc, x.handlerPc, x.catchType))) = M at C fin
  have main : n_G E M (lw_Z below #[Value.ref b] s) p l e room_1 s m #[Value.ref b] below meth c 0 0 0 [(0, .ref b)] [] [] := by
    subst hM
    refine n_new (ci := 6) (N := 8) (fs := d_X6) (q := 3) C tyX6 dL_law_0 rfl rfl z_ws6 tyX6_ok a_nnew6 a_nds6 (show 0 + 1 ≤ 600104 by omega) (show 0 + 8 ≤ 7301314 by omega) (fun a0 => ?_)
    refine n_dup (q := 4) C dL_law_3 rfl ?_
    refine n_callI (M' := mX6_init) (q := 7) (mc := 38) (ms := 6368) C dL_law_4 rfl a_nik6 (Nat.le_of_ble_eq_true rfl) ⟨Nat.le_of_ble_eq_true rfl, Nat.le_of_ble_eq_true rfl⟩ (show 0 + 1 + 38 ≤ 600104 by omega) (show 0 + 8 + 6368 ≤ 7301314 by omega) (k_X6 (q0 := 0) rfl) (fun w1 hw1 => ?_)
    obtain ⟨q, r, rfl⟩ := hw1
    refine n_astore (i := 1) (q := 8) C dL_law_7 rfl rfl (show 1 < 50 by omega) rfl ?_
    refine n_int (z := 4) (q := 9) C (.inr (.inr ⟨dL_law_8, rfl⟩)) ?_
    refine n_newarr (q := 11) (t0 := 0) (N := 4) C dL_law_9 rfl rfl (z_big_of (by decide +kernel) rfl) rfl (fun _ _ h => h) n_int0 (by decide) (by decide) (by decide) (show 0 + 1 + 38 + 1 ≤ 600104 by omega) (show 0 + 8 + 6368 + 4 ≤ 7301314 by omega) (fun t0 => ?_)
    refine n_astore (i := 2) (q := 12) C dL_law_11 rfl rfl (show 2 < 50 by omega) rfl ?_
    refine n_int (z := 60) (q := 14) C (.inl ⟨dL_law_12, rfl, rfl⟩) ?_
    refine n_newarr (q := 16) (t0 := 0) (N := 60) C dL_law_14 rfl rfl (z_big_of (by decide +kernel) rfl) rfl (fun _ _ h => h) n_int0 (by decide) (by decide) (by decide) (show 0 + 1 + 38 + 1 + 1 ≤ 600104 by omega) (show 0 + 8 + 6368 + 4 + 60 ≤ 7301314 by omega) (fun t1 => ?_)
    refine n_astore (i := 3) (q := 17) C dL_law_16 rfl rfl (show 3 < 50 by omega) rfl ?_
    refine n_int (z := 12) (q := 19) C (.inl ⟨dL_law_17, rfl, rfl⟩) ?_
    refine n_newarr (q := 21) (t0 := 0) (N := 12) C dL_law_19 rfl rfl (z_big_of (by decide +kernel) rfl) rfl (fun _ _ h => h) n_int0 (by decide) (by decide) (by decide) (show 0 + 1 + 38 + 1 + 1 + 1 ≤ 600104 by omega) (show 0 + 8 + 6368 + 4 + 60 + 12 ≤ 7301314 by omega) (fun t2 => ?_)
    refine n_astorew (i := 4) (q := 23) C dL_law_21 rfl (show 4 < 50 by omega) rfl ?_
    refine n_int (z := 50) (q := 25) C (.inl ⟨dL_law_23, rfl, rfl⟩) ?_
    refine n_newarr (q := 27) (t0 := 0) (N := 50) C dL_law_25 rfl rfl (z_big_of (by decide +kernel) rfl) rfl (fun _ _ h => h) n_int0 (by decide) (by decide) (by decide) (show 0 + 1 + 38 + 1 + 1 + 1 + 1 ≤ 600104 by omega) (show 0 + 8 + 6368 + 4 + 60 + 12 + 50 ≤ 7301314 by omega) (fun t3 => ?_)
    refine n_astorew (i := 5) (q := 29) C dL_law_27 rfl (show 5 < 50 by omega) rfl ?_
    refine n_int (z := 50) (q := 31) C (.inl ⟨dL_law_29, rfl, rfl⟩) ?_
    refine n_newarr (q := 33) (t0 := 0) (N := 50) C dL_law_31 rfl rfl (z_big_of (by decide +kernel) rfl) rfl (fun _ _ h => h) n_int0 (by decide) (by decide) (by decide) (show 0 + 1 + 38 + 1 + 1 + 1 + 1 + 1 ≤ 600104 by omega) (show 0 + 8 + 6368 + 4 + 60 + 12 + 50 + 50 ≤ 7301314 by omega) (fun t4 => ?_)
    refine n_astorew (i := 6) (q := 35) C dL_law_33 rfl (show 6 < 50 by omega) rfl ?_
    refine n_int (z := 64) (q := 37) C (.inl ⟨dL_law_35, rfl, rfl⟩) ?_
    refine n_newarr (q := 39) (t0 := 0) (N := 64) C dL_law_37 rfl rfl (z_big_of (by decide +kernel) rfl) rfl (fun _ _ h => h) n_int0 (by decide) (by decide) (by decide) (show 0 + 1 + 38 + 1 + 1 + 1 + 1 + 1 + 1 ≤ 600104 by omega) (show 0 + 8 + 6368 + 4 + 60 + 12 + 50 + 50 + 64 ≤ 7301314 by omega) (fun t5 => ?_)
    refine n_astorew (i := 7) (q := 41) C dL_law_39 rfl (show 7 < 50 by omega) rfl ?_
    refine n_int (z := 6) (q := 43) C (.inl ⟨dL_law_41, rfl, rfl⟩) ?_
    refine n_newarr (q := 45) (t0 := 3) (N := 6) C dL_law_43 rfl rfl (z_big_of (by decide +kernel) rfl) rfl (fun _ _ h => h) a_long0 (by decide) (by decide) (by decide) (show 0 + 1 + 38 + 1 + 1 + 1 + 1 + 1 + 1 + 1 ≤ 600104 by omega) (show 0 + 8 + 6368 + 4 + 60 + 12 + 50 + 50 + 64 + 6 ≤ 7301314 by omega) (fun t6 => ?_)
    refine n_astorew (i := 8) (q := 47) C dL_law_45 rfl (show 8 < 50 by omega) rfl ?_
    refine n_int (z := 6) (q := 49) C (.inl ⟨dL_law_47, rfl, rfl⟩) ?_
    refine n_newarr (q := 51) (t0 := 0) (N := 6) C dL_law_49 rfl rfl (z_big_of (by decide +kernel) rfl) rfl (fun _ _ h => h) n_int0 (by decide) (by decide) (by decide) (show 0 + 1 + 38 + 1 + 1 + 1 + 1 + 1 + 1 + 1 + 1 ≤ 600104 by omega) (show 0 + 8 + 6368 + 4 + 60 + 12 + 50 + 50 + 64 + 6 + 6 ≤ 7301314 by omega) (fun t7 => ?_)
    refine n_astorew (i := 9) (q := 53) C dL_law_51 rfl (show 9 < 50 by omega) rfl ?_
    refine n_int (z := 6) (q := 55) C (.inl ⟨dL_law_53, rfl, rfl⟩) ?_
    refine n_newarr (q := 57) (t0 := 0) (N := 6) C dL_law_55 rfl rfl (z_big_of (by decide +kernel) rfl) rfl (fun _ _ h => h) n_int0 (by decide) (by decide) (by decide) (show 0 + 1 + 38 + 1 + 1 + 1 + 1 + 1 + 1 + 1 + 1 + 1 ≤ 600104 by omega) (show 0 + 8 + 6368 + 4 + 60 + 12 + 50 + 50 + 64 + 6 + 6 + 6 ≤ 7301314 by omega) (fun t8 => ?_)
    refine n_astorew (i := 10) (q := 59) C dL_law_57 rfl (show 10 < 50 by omega) rfl ?_
    refine n_int (z := 3) (q := 60) C (.inr (.inr ⟨dL_law_59, rfl⟩)) ?_
    refine n_newarr (q := 62) (t0 := 0) (N := 3) C dL_law_60 rfl rfl (z_big_of (by decide +kernel) rfl) rfl (fun _ _ h => h) n_int0 (by decide) (by decide) (by decide) (show 0 + 1 + 38 + 1 + 1 + 1 + 1 + 1 + 1 + 1 + 1 + 1 + 1 ≤ 600104 by omega) (show 0 + 8 + 6368 + 4 + 60 + 12 + 50 + 50 + 64 + 6 + 6 + 6 + 3 ≤ 7301314 by omega) (fun t9 => ?_)
    refine n_astorew (i := 11) (q := 64) C dL_law_62 rfl (show 11 < 50 by omega) rfl ?_
    exact fin a0 q (fun i => [t0, t1, t2, t3, t4, t5, t6, t7, t8, t9].getD i 0) r
  exact main s.heap [] ls ⟨(fun k x h => by simp at h), ⟨(fun i j x y h => by simp at h), (fun k x h => by simp at h)⟩, va_S.rf⟩ (by subst hM; exact hl)
