/-! ===== the start: what the tables say ===== -/
theorem a_known {s : State} {args : Array Value} (hts : ∀ w ∈ lw_tbl, w.before args s = true) : ∃ D : va_G, ∀ (c : Nat) (q : vw_C), vwCl[c]? = some q → u_Kn s q.1 q.2.1 q.2.2 (D.1 c) (D.2 c) := by
  obtain ⟨c0, i0, h0⟩ := u_known (C := RX0) (T := TX0) (N := 6) (n := 6) hts (fun w hw => z_big_in (z_ws0 w hw)) (hts _ (z_big_in (nnew_0 _ (by simp))))
  obtain ⟨c1, i1, h1⟩ := u_known (C := RX1) (T := TX1) (N := 6) (n := 6) hts (fun w hw => z_big_in (z_ws1 w hw)) (hts _ (z_big_in (nnew_1 _ (by simp))))
  obtain ⟨c2, i2, h2⟩ := u_known (C := RX2) (T := TX2) (N := 4) (n := 4) hts (fun w hw => z_big_in (z_ws2 w hw)) (hts _ (z_big_in (nnew_2 _ (by simp))))
  obtain ⟨c3, i3, h3⟩ := u_known (C := RX3) (T := TX3) (N := 4) (n := 4) hts (fun w hw => z_big_in (z_ws3 w hw)) (hts _ (z_big_in (nnew_3 _ (by simp))))
  obtain ⟨c4, i4, h4⟩ := u_known (C := RX4) (T := TX4) (N := 7) (n := 7) hts (fun w hw => z_big_in (z_ws4 w hw)) (hts _ (z_big_in (nnew_4 _ (by simp))))
  obtain ⟨c5, i5, h5⟩ := u_known (C := RX5) (T := TX5) (N := 2) (n := 2) hts (fun w hw => z_big_in (z_ws5 w hw)) (hts _ (z_big_in (nnew_5 _ (by simp))))
  obtain ⟨c6, i6, h6⟩ := u_known (C := RX6) (T := TX6) (N := 8) (n := 8) hts (fun w hw => z_big_in (z_ws6 w hw)) (hts (.instantiable RX6 8) (by decide +kernel))
  refine ⟨(fun k => [c0, c1, c2, c3, c4, c5, c6].getD k c0, fun k => [i0, i1, i2, i3, i4, i5, i6].getD k i0), fun c q hq => ?_⟩
  have hc : c < 7 := (List.getElem?_eq_some_iff.mp hq).1
  rcases (show c = 0 ∨ c = 1 ∨ c = 2 ∨ c = 3 ∨ c = 4 ∨ c = 5 ∨ c = 6 by omega) with rfl | rfl | rfl | rfl | rfl | rfl | rfl <;> cases hq
  · exact h0
  · exact h1
  · exact h2
  · exact h3
  · exact h4
  · exact h5
  · exact h6
theorem a_aro {s : State} {cA comp : ClassId} {kA : Class} {ty : FieldType} (h1 : s.vm.classes[cA]? = some kA) (h2 : kA.kind = Kind.array comp ty) : ArrOfT s cA ty := fun n z => ⟨fun k h => (by cases h), kA, h1, comp, h2⟩
theorem a_arr {s : State} {args : Array Value} (hts : ∀ w ∈ lw_tbl, w.before args s = true) : ∃ cy : Nat → ClassId, ∀ (k : Nat) (q : ClassId × FieldType), [(cy 0, FieldType.int), (cy 1, FieldType.boolean), (cy 2, FieldType.array .int), (cy 3, FieldType.long)][k]? = some q → ArrOfT s q.1 q.2 ∧ va_RA s q.1 q.2 := by
  obtain ⟨c0, k0, p0, a0, b0, d0⟩ := Cond.arrayClass_spec (hts (.arrayClass .int) (by decide +kernel))
  obtain ⟨c1, k1, p1, a1, b1, d1⟩ := Cond.arrayClass_spec (hts (.arrayClass .boolean) (by decide +kernel))
  obtain ⟨p2, c2, k2, e2, b2, d2, a2⟩ := Cond.arrayOver_specA (hts (.arrayOver (.array .int)) (by decide +kernel))
  obtain ⟨c3, k3, p3, a3, b3, d3⟩ := Cond.arrayClass_spec (hts (.arrayClass .long) (by decide +kernel))
  refine ⟨fun k => [c0, c1, c2, c3].getD k c0, fun k q hq => ?_⟩
  have hc : k < 4 := (List.getElem?_eq_some_iff.mp hq).1
  rcases (show k = 0 ∨ k = 1 ∨ k = 2 ∨ k = 3 by omega) with rfl | rfl | rfl | rfl <;> cases hq
  · exact ⟨a_aro b0 d0, a0⟩
  · exact ⟨a_aro b1 d1, a1⟩
  · exact ⟨a_aro b2 d2, a2⟩
  · exact ⟨a_aro b3 d3, a3⟩
theorem a_nsw {s : State} {args : Array Value} (hts : ∀ w ∈ lw_tbl, w.before args s = true) : n_sw s := ⟨va_Nw.of rfl (hts _ (by decide +kernel)), va_Nw.of rfl (hts _ (by decide +kernel)), va_Nw.of rfl (hts _ (by decide +kernel)), va_Nw.of rfl (hts _ (by decide +kernel)), (hts (.arrayOver (.array .int)) (by decide +kernel) : (Cond.arrayOver (.array .int)).before args s = true)⟩
theorem a_strs : ∀ q ∈ z_strs, Cond.stringRef RX6 q.1 q.2 ∈ lw_tbl := by decide +kernel
theorem a_str {s : State} {args : Array Value} (hts : ∀ w ∈ lw_tbl, w.before args s = true) : ∀ q ∈ z_strs, ∃ a, vk_R RX6 q.1 q.2 a s := by
  intro q hq
  have h := hts _ (a_strs q hq)
  obtain ⟨D, hD⟩ := a_known hts
  have hfc := (hD 6 _ rfl).2.1
  obtain ⟨k, cf, j, a, hk, -, -, -, hr, hev⟩ := Cond.stringRef_spec hfc h
  exact ⟨a, vk_R.of h hev⟩
theorem a_nots : ∀ q ∈ [(xI, xA), (xI, xS), (xA, xI), (xA, xS), (xS, xI), (xS, xA)], Cond.not (.castable q.1 q.2) ∈ flatC (Jvm.Cond.and given_1 narrow_1) := by decide +kernel
theorem a_cast : ∀ X ∈ [xI, xA, xS], Cond.castable X X ∈ lw_tbl := by decide +kernel
theorem a_decl : ∀ Y ∈ ["java/lang/RuntimeException", "java/lang/Exception", Bundle.tN], Cond.declares (Bundle.initS Y) ∈ lw_tbl := by decide +kernel
theorem a_sw {s : State} {args : Array Value} (hts : ∀ w ∈ lw_tbl, w.before args s = true) (hg : (Jvm.Cond.and given_1 narrow_1).before args s = true) : z_sw s :=
  ⟨a_str hts, fun X hX => va_Nw.of rfl (hts _ (a_cast X hX)), fun Y hY => va_Nw.of rfl (hts _ (a_decl Y hY)), va_Nw.of rfl (hts _ (by decide +kernel)), fun q hq => va_Nc.of (flat_of_before _ hg _ (a_nots q hq))⟩
theorem a_zq {s : State} {args : Array Value} {A : Nat → Prop} (hts : ∀ w ∈ lw_tbl, w.before args s = true) (hg : (Jvm.Cond.and given_1 narrow_1).before args s = true) (hA : ∀ a : Nat, a < s.heap.size → ¬ A a) : vx_Zq Bundle.tN "UNASSIGNED_STACK" Bundle.steD A s s.heap ∧ vx_Zq Bundle.tN "SUPPRESSED_SENTINEL" Bundle.listD A s s.heap :=
  ⟨vx_Zqof (hts (.laysStatic Bundle.tN "UNASSIGNED_STACK" Bundle.steD) (by decide +kernel)) (hts (.initialized Bundle.tN) (by decide +kernel)) (flat_of_before _ hg (.isRef (.static Bundle.tN "UNASSIGNED_STACK" Bundle.steD)) (by decide +kernel)) hA, vx_Zqof (hts (.laysStatic Bundle.tN "SUPPRESSED_SENTINEL" Bundle.listD) (by decide +kernel)) (hts (.initialized Bundle.tN) (by decide +kernel)) (flat_of_before _ hg (.isRef (.static Bundle.tN "SUPPRESSED_SENTINEL" Bundle.listD)) (by decide +kernel)) hA⟩
