/-! ===== the start: from the law's entry to its loop ===== -/
theorem a_nik6 : n_ik R_law 95 mX6_init := ⟨z_all_big (by decide +kernel), rfl, rfl, by decide +kernel⟩
theorem a_nik7 : n_ik R_law 98 mX7_init := ⟨z_all_big (by decide +kernel), rfl, rfl, by decide +kernel⟩
theorem a_nnew6 : ∀ w ∈ ([.classLink R_law 8 RX6, .instantiable RX6 8, .initialized RX6] : List Cond), w ∈ z_big := z_all_big (by decide +kernel)
theorem a_nnew7 : ∀ w ∈ ([.classLink R_law 96 RX7, .instantiable RX7 28, .initialized RX7] : List Cond), w ∈ z_big := z_all_big (by decide +kernel)
theorem a_nds6 : ∀ j, j < 8 → defaultValue (tyX6 j) = vp_V d_X6 j := by decide +kernel
theorem a_nds7 : ∀ j, j < 28 → defaultValue (tyX7 j) = vp_V d_X7 j := by decide +kernel
theorem a_long0 : ∀ cA : ClassId, vp_cell cA (1, .inr (.inl (fun j => if j = 0 then Int64.ofInt 0 else 0))) = arrV cA 1 (fun _ => defaultValue .long) := by
  intro cA
  rw [vp_cell_l]
  congr 1
  funext j
  split <;> rfl
theorem a_go {p : Program} {l : Launch} {e : Env} {s : State} {m : MethodId} {below : List Frame} {meth : Method} {c : Code} {b L : Nat} {xs : Nat → Int32} {D : va_G} {cy : Nat → ClassId} {a0 a7 a63 : Nat} {q t : Nat → Nat} {r : Nat → Nat → Nat} (hflag : l.stackTraces = false) (hL : L ≤ 2560) (C0 : lw_At p s m meth c b L xs)
    (hK : va_K D vwCl [(cy 0, .int), (cy 1, .boolean), (cy 2, .array .int), (cy 3, .long)] s) :
    n_G (s.heap.size, fun _ => b, D, cy, L, fun j => (xs j).toInt) (mLw (c.exceptionTable.toList.map (fun x => (x.startPc, x.endPc, x.handlerPc, x.catchType)))) (lw_Z below #[Value.ref b] s) p l e room_1 s m #[Value.ref b] below meth c 64 20083 23 [(4, .int (Int32.ofInt 0)), (3, .ref a63), (2, .ref a7), (1, .ref a0), (0, .ref b)] [] (a_W (s.heap.size, fun _ => b, D, cy, L, fun j => (xs j).toInt) a0 a7 a63 q t r) := by
  obtain ⟨hx, hb, hr, hml, hown, hts, hX, hbl, hlocks, hgv⟩ := C0
  intro H locs ls hW hl
  have hA : ∀ a : Nat, a < s.heap.size → ¬ z_A (s.heap.size, a_ad a0 a7 a63 b q t r, D, cy, L, fun j => (xs j).toInt) a := fun a ha h => by
    have h2 : s.heap.size ≤ a := h
    omega
  have hzq := a_zq (A := z_A (s.heap.size, a_ad a0 a7 a63 b q t r, D, cy, L, fun j => (xs j).toInt)) hts hgv hA
  have hst : z_st (s.heap.size, a_ad a0 a7 a63 b q t r, D, cy, L, fun j => (xs j).toInt) s s.heap := by
    refine ⟨hzq.1, hzq.2, ?_⟩
    show va_X b L (fun j => Int32.ofInt (xs j).toInt) s s.heap
    rw [show (fun j => Int32.ofInt (xs j).toInt) = xs from funext fun j => z_as _]
    exact hX
  have zC : z_Cx (s.heap.size, a_ad a0 a7 a63 b q t r, D, cy, L, fun j => (xs j).toInt) (mLw (c.exceptionTable.toList.map (fun x => (x.startPc, x.endPc, x.handlerPc, x.catchType)))) (zFL L (fun j => (xs j).toInt) 64 20083) p l room_1 s m #[Value.ref b] meth c :=
    ⟨hx, hb, hml, hr, hown, fun w hw => hts w (z_big_in hw), hlocks, rfl, ⟨rfl, rfl, (show 64 + 6000 ≤ 601024 by omega), (show 20083 + 6 * 6000 ≤ 7293033 by omega)⟩, hflag, Nat.le_refl _, a_sw hts hgv, hst⟩
  have zW : z_wd (s.heap.size, a_ad a0 a7 a63 b q t r, D, cy, L, fun j => (xs j).toInt) a_S0 s H :=
    ⟨a_wP hW.1, hK, a_wD hW.2.1, hst.kept (Nat.le_refl _) hbl hW.2.2.2.1, ⟨hW.2.2.1, hbl, hL, fun j => z_rng _⟩, a_ok⟩
  have zl : z_lok (a_ad a0 a7 a63 b q t r) 7 [some (zR 64), some (zR 0), some (zR 7), some (zR 63), some (zI (5 * (0 : Nat) : Int)), none, none] ls := by
    refine ⟨hl.1, hl.2.1, rfl, fun i v hv => ?_⟩
    have hi : i < 7 := (List.getElem?_eq_some_iff.mp hv).1
    rcases (show i = 0 ∨ i = 1 ∨ i = 2 ∨ i = 3 ∨ i = 4 ∨ i = 5 ∨ i = 6 by omega) with rfl | rfl | rfl | rfl | rfl | rfl | rfl <;> cases hv
    · exact ⟨lv_at hl 4 rfl, trivial, trivial⟩
    · exact ⟨lv_at hl 3 rfl, trivial, trivial⟩
    · exact ⟨lv_at hl 2 rfl, trivial, trivial⟩
    · exact ⟨lv_at hl 1 rfl, trivial, trivial⟩
    · exact ⟨lv_at hl 0 rfl, trivial, by constructor <;> decide⟩
  have g := lc_loop (hh := c.exceptionTable.toList.map (fun x => (x.startPc, x.endPc, x.handlerPc, x.catchType))) (L := L) (xs := fun j => (xs j).toInt) (c0 := 64) (s0 := 20083) z_sim hL (fun j => z_rng _) (by omega) (by omega) (L + 1) 0 a_S0 none none (by omega) (by omega) a_inv (s.heap.size, a_ad a0 a7 a63 b q t r, D, cy, L, fun j => (xs j).toInt) p l e room_1 s m #[Value.ref b] below meth c zC H locs ls zW hW.2.2 zl (fun v hv => nomatch hv)
  intro T hT X
  obtain ⟨t1, h1, h2⟩ := g T hT X
  exact ⟨t1, h1, h2 ⟨rfl, rfl, rfl, rfl⟩⟩
theorem a_flag {l : Launch} (h : l.flags = flags0) : l.stackTraces = false := by
  unfold Launch.stackTraces
  rw [h]
  decide +kernel
set_option maxRecDepth 20000 in
set_option maxHeartbeats 4000000 in
theorem whole_start {p : Program} {e : Env} {s : State} {m : MethodId} {below : List Frame} {meth : Method} {c : Code} (l : Launch) (hflags : l.flags = flags0) {b L : Nat} {xs : Nat → Int32} (hL : L ≤ 2560) (C0 : lw_At p s m meth c b L xs) : W p l e room_1 s m #[Value.ref b] below meth c s.heap [] 0 0 (lw_Z below #[Value.ref b] s) (entryFrame m ([Value.ref b] : List Value).toArray 7) := by
  have C1 := C0
  obtain ⟨hx, hb, hr, hml, hown, hts, hX, hbl, hlocks, hgv⟩ := C0
  obtain ⟨D, hD⟩ := a_known hts
  obtain ⟨cy, hcy⟩ := a_arr hts
  have hflag := a_flag hflags
  have hK : va_K D vwCl [(cy 0, .int), (cy 1, .boolean), (cy 2, .array .int), (cy 3, .long)] s := ⟨hD, hcy⟩
  have fin := fun (a0 a7 a63 : Nat) (q t : Nat → Nat) (r : Nat → Nat → Nat) => a_go (l := l) (e := e) (below := below) (a0 := a0) (a7 := a7) (a63 := a63) (q := q) (t := t) (r := r) hflag hL C1 hK
  have C : n_Cx (s.heap.size, fun _ => b, D, cy, L, fun j => (xs j).toInt) (mLw (c.exceptionTable.toList.map (fun x => (x.startPc, x.endPc, x.handlerPc, x.catchType)))) p room_1 s m #[Value.ref b] meth c :=
    ⟨hx, hb, hml, hr, hown, fun w hw => hts w (z_big_in hw), hlocks, fun h => absurd (show x.name = "<init>" from h) (by decide +kernel), ⟨rfl, rfl⟩, Nat.le_refl _, a_nsw hts, hK⟩
  clear C1 hX hgv hcy hD
  rw [lg_entry_eq]
  have hl := lv_entry ([.ref b]) (n := 7) (Nat.le_of_ble_eq_true rfl)
  generalize (lg_sl ([.ref b]) ++ List.replicate (7 - (lg_sl ([.ref b])).length) Slot.unset).toArray = ls at hl ⊢
  generalize hE : ((s.heap.size, fun _ => b, D, cy, L, fun j => (xs j).toInt) : zE) = E at C fin
  have hb0 : e_b E = s.heap.size := by rw [← hE]
  generalize hM : mLw (c.exceptionTable.toList.map (fun x => (x.startPc, x.endPc, x.handlerPc, x.catchType))) = M at C fin
  have main : n_G E M (lw_Z below #[Value.ref b] s) p l e room_1 s m #[Value.ref b] below meth c 0 0 0 [(0, .ref b)] [] [] := by
    subst hM
    refine n_new (ci := 6) (N := 8) (fs := d_X6) (q := 3) C tyX6 dL_law_0 rfl rfl z_ws6 tyX6_ok a_nnew6 a_nds6 (show 0 + 1 ≤ 601024 by omega) (show 0 + 8 ≤ 7293033 by omega) (fun a0 => ?_)
    refine n_dup (q := 4) C dL_law_3 rfl ?_
    refine n_callI (M' := mX6_init) (q := 7) (mc := 38) (ms := 6368) C dL_law_4 rfl a_nik6 (Nat.le_of_ble_eq_true rfl) ⟨Nat.le_of_ble_eq_true rfl, Nat.le_of_ble_eq_true rfl⟩ (show 0 + 1 + 38 ≤ 601024 by omega) (show 0 + 8 + 6368 ≤ 7293033 by omega) (k_X6 (q0 := 0) rfl) (fun w1 hw1 => ?_)
    obtain ⟨q, r, rfl⟩ := hw1
    refine n_astore (i := 1) (q := 8) C dL_law_7 rfl rfl (show 1 < 7 by omega) rfl ?_
    refine n_new (ci := 7) (N := 28) (fs := d_X7) (q := 11) C tyX7 dL_law_8 rfl rfl z_ws7 tyX7_ok a_nnew7 a_nds7 (show 0 + 1 + 38 + 1 ≤ 601024 by omega) (show 0 + 8 + 6368 + 28 ≤ 7293033 by omega) (fun a7 => ?_)
    refine n_dup (q := 12) C dL_law_11 rfl ?_
    refine n_callI (M' := mX7_init) (q := 15) (mc := 23) (ms := 13678) C dL_law_12 rfl a_nik7 (Nat.le_of_ble_eq_true rfl) ⟨Nat.le_of_ble_eq_true rfl, Nat.le_of_ble_eq_true rfl⟩ (show 0 + 1 + 38 + 1 + 23 ≤ 601024 by omega) (show 0 + 8 + 6368 + 28 + 13678 ≤ 7293033 by omega) (k_X7 (n_last (y := (0, n_ia E 0))).1) (fun w2 hw2 => ?_)
    obtain ⟨t, rfl⟩ := hw2
    rw [(n_last (x := (a7, .inr (7, d_X7)))).2, List.append_assoc]
    refine n_astore (i := 2) (q := 16) C dL_law_15 rfl rfl (show 2 < 7 by omega) rfl ?_
    refine n_int (z := 1) (q := 17) C (.inr (.inr ⟨dL_law_16, rfl⟩)) ?_
    refine n_newarr (q := 19) (t0 := 3) (N := 1) C dL_law_17 rfl rfl (z_big_of (by decide +kernel) rfl) rfl (fun _ _ h => h) a_long0 (by decide) (by decide) (by decide) (show 0 + 1 + 38 + 1 + 23 + 1 ≤ 601024 by omega) (show 0 + 8 + 6368 + 28 + 13678 + 1 ≤ 7293033 by omega) (fun a63 => ?_)
    refine n_astore (i := 3) (q := 20) C dL_law_19 rfl rfl (show 3 < 7 by omega) rfl ?_
    refine n_int (z := 0) (q := 21) C (.inr (.inr ⟨dL_law_20, rfl⟩)) ?_
    refine n_istorew (i := 4) (q := 23) C dL_law_21 rfl (show 4 < 7 by omega) rfl ?_
    exact fin a0 a7 a63 q t r
  exact main s.heap [] ls ⟨(fun k x h => by simp at h), ⟨(fun i j x y h => by simp at h), (fun k x h => by simp at h)⟩, va_S.rf⟩ (by subst hM; exact hl)
