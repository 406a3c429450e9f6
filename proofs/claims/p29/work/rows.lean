section
-- ===== PART A: goes FIRST, ahead of the names: the tables' words, and 'selects' of the private methods out of them =====
/-- a private method of a class that the tables say can be made, by its rows of tables_1 -/
def lw_okq (q : MethodName × Nat) : Prop := (q.1.cls ≠ "java/lang/invoke/MethodHandle" ∧ q.1.cls ≠ "java/lang/invoke/VarHandle") ∧ Cond.instantiable q.1.cls q.2 ∈ tables_1 ∧ Cond.privateMethod q.1 ∈ tables_1 ∧ Cond.instanceMethod q.1 ∈ tables_1
theorem lw_p0 : lw_okq (⟨"java/lang/Throwable", "fillInStackTrace", "(I)Ljava/lang/Throwable;"⟩, 6) := ⟨⟨by decide +kernel, by decide +kernel⟩, List.mem_of_getElem? (i := 265) (by decide +kernel), List.mem_of_getElem? (i := 263) (by decide +kernel), List.mem_of_getElem? (i := 264) (by decide +kernel)⟩
theorem lw_p1 : lw_okq (⟨"Portinghall", "countBlocksOf", "(I)I"⟩, 8) := ⟨⟨by decide +kernel, by decide +kernel⟩, List.mem_of_getElem? (i := 16) (by decide +kernel), List.mem_of_getElem? (i := 311) (by decide +kernel), List.mem_of_getElem? (i := 312) (by decide +kernel)⟩
theorem lw_p2 : lw_okq (⟨"Portinghall", "isBlockBusy", "(I)Z"⟩, 8) := ⟨⟨by decide +kernel, by decide +kernel⟩, List.mem_of_getElem? (i := 16) (by decide +kernel), List.mem_of_getElem? (i := 323) (by decide +kernel), List.mem_of_getElem? (i := 324) (by decide +kernel)⟩
theorem lw_p3 : lw_okq (⟨"Portinghall", "holderOf", "(I)I"⟩, 8) := ⟨⟨by decide +kernel, by decide +kernel⟩, List.mem_of_getElem? (i := 16) (by decide +kernel), List.mem_of_getElem? (i := 367) (by decide +kernel), List.mem_of_getElem? (i := 368) (by decide +kernel)⟩
theorem lw_p4 : lw_okq (⟨"Portinghall$History", "note", "(ZII)V"⟩, 4) := ⟨⟨by decide +kernel, by decide +kernel⟩, List.mem_of_getElem? (i := 146) (by decide +kernel), List.mem_of_getElem? (i := 380) (by decide +kernel), List.mem_of_getElem? (i := 381) (by decide +kernel)⟩
theorem lw_p5 : lw_okq (⟨"Portinghall", "requireInUse", "(I)V"⟩, 8) := ⟨⟨by decide +kernel, by decide +kernel⟩, List.mem_of_getElem? (i := 16) (by decide +kernel), List.mem_of_getElem? (i := 391) (by decide +kernel), List.mem_of_getElem? (i := 392) (by decide +kernel)⟩
theorem lw_p6 : lw_okq (⟨"Portinghall", "inheritBlock", "(III)I"⟩, 8) := ⟨⟨by decide +kernel, by decide +kernel⟩, List.mem_of_getElem? (i := 16) (by decide +kernel), List.mem_of_getElem? (i := 439) (by decide +kernel), List.mem_of_getElem? (i := 440) (by decide +kernel)⟩
theorem lw_p7 : lw_okq (⟨"Portinghall", "announceHeir", "(IIII)V"⟩, 8) := ⟨⟨by decide +kernel, by decide +kernel⟩, List.mem_of_getElem? (i := 16) (by decide +kernel), List.mem_of_getElem? (i := 443) (by decide +kernel), List.mem_of_getElem? (i := 444) (by decide +kernel)⟩
theorem lw_p8 : lw_okq (⟨"Portinghall", "reasonToReject", "(IIII)I"⟩, 8) := ⟨⟨by decide +kernel, by decide +kernel⟩, List.mem_of_getElem? (i := 16) (by decide +kernel), List.mem_of_getElem? (i := 464) (by decide +kernel), List.mem_of_getElem? (i := 465) (by decide +kernel)⟩
theorem lw_p9 : lw_okq (⟨"Portinghall", "requireOrder", "(I)V"⟩, 8) := ⟨⟨by decide +kernel, by decide +kernel⟩, List.mem_of_getElem? (i := 16) (by decide +kernel), List.mem_of_getElem? (i := 491) (by decide +kernel), List.mem_of_getElem? (i := 492) (by decide +kernel)⟩
theorem lw_p10 : lw_okq (⟨"Portinghall", "canReverse", "(I)Z"⟩, 8) := ⟨⟨by decide +kernel, by decide +kernel⟩, List.mem_of_getElem? (i := 16) (by decide +kernel), List.mem_of_getElem? (i := 508) (by decide +kernel), List.mem_of_getElem? (i := 509) (by decide +kernel)⟩
theorem lw_p11 : lw_okq (⟨"Portinghall", "moveTo", "(II)V"⟩, 8) := ⟨⟨by decide +kernel, by decide +kernel⟩, List.mem_of_getElem? (i := 16) (by decide +kernel), List.mem_of_getElem? (i := 513) (by decide +kernel), List.mem_of_getElem? (i := 514) (by decide +kernel)⟩
theorem lw_p12 : lw_okq (⟨"Portinghall", "carryOutDueOrders", "()I"⟩, 8) := ⟨⟨by decide +kernel, by decide +kernel⟩, List.mem_of_getElem? (i := 16) (by decide +kernel), List.mem_of_getElem? (i := 531) (by decide +kernel), List.mem_of_getElem? (i := 532) (by decide +kernel)⟩
theorem lw_p13 : lw_okq (⟨"Portinghall", "carryOut", "(I)V"⟩, 8) := ⟨⟨by decide +kernel, by decide +kernel⟩, List.mem_of_getElem? (i := 16) (by decide +kernel), List.mem_of_getElem? (i := 535) (by decide +kernel), List.mem_of_getElem? (i := 536) (by decide +kernel)⟩
theorem lw_p14 : lw_okq (⟨"Portinghall", "learnInTime", "()V"⟩, 8) := ⟨⟨by decide +kernel, by decide +kernel⟩, List.mem_of_getElem? (i := 16) (by decide +kernel), List.mem_of_getElem? (i := 548) (by decide +kernel), List.mem_of_getElem? (i := 549) (by decide +kernel)⟩
theorem lw_p15 : lw_okq (⟨"Portinghall", "traceCall", "(III)I"⟩, 8) := ⟨⟨by decide +kernel, by decide +kernel⟩, List.mem_of_getElem? (i := 16) (by decide +kernel), List.mem_of_getElem? (i := 597) (by decide +kernel), List.mem_of_getElem? (i := 598) (by decide +kernel)⟩
def lw_privs_1 : List (MethodName × Nat) := [(⟨"java/lang/Throwable", "fillInStackTrace", "(I)Ljava/lang/Throwable;"⟩, 6), (⟨"Portinghall", "countBlocksOf", "(I)I"⟩, 8), (⟨"Portinghall", "isBlockBusy", "(I)Z"⟩, 8), (⟨"Portinghall", "holderOf", "(I)I"⟩, 8), (⟨"Portinghall$History", "note", "(ZII)V"⟩, 4), (⟨"Portinghall", "requireInUse", "(I)V"⟩, 8), (⟨"Portinghall", "inheritBlock", "(III)I"⟩, 8), (⟨"Portinghall", "announceHeir", "(IIII)V"⟩, 8), (⟨"Portinghall", "reasonToReject", "(IIII)I"⟩, 8), (⟨"Portinghall", "requireOrder", "(I)V"⟩, 8), (⟨"Portinghall", "canReverse", "(I)Z"⟩, 8), (⟨"Portinghall", "moveTo", "(II)V"⟩, 8), (⟨"Portinghall", "carryOutDueOrders", "()I"⟩, 8), (⟨"Portinghall", "carryOut", "(I)V"⟩, 8), (⟨"Portinghall", "learnInTime", "()V"⟩, 8), (⟨"Portinghall", "traceCall", "(III)I"⟩, 8)]
theorem lw_r1 : ∀ q ∈ lw_privs_1, lw_okq q := List.forall_mem_cons.mpr ⟨lw_p0, List.forall_mem_cons.mpr ⟨lw_p1, List.forall_mem_cons.mpr ⟨lw_p2, List.forall_mem_cons.mpr ⟨lw_p3, List.forall_mem_cons.mpr ⟨lw_p4, List.forall_mem_cons.mpr ⟨lw_p5, List.forall_mem_cons.mpr ⟨lw_p6, List.forall_mem_cons.mpr ⟨lw_p7, List.forall_mem_cons.mpr ⟨lw_p8, List.forall_mem_cons.mpr ⟨lw_p9, List.forall_mem_cons.mpr ⟨lw_p10, List.forall_mem_cons.mpr ⟨lw_p11, List.forall_mem_cons.mpr ⟨lw_p12, List.forall_mem_cons.mpr ⟨lw_p13, List.forall_mem_cons.mpr ⟨lw_p14, List.forall_mem_cons.mpr ⟨lw_p15, fun _ h => absurd h List.not_mem_nil⟩⟩⟩⟩⟩⟩⟩⟩⟩⟩⟩⟩⟩⟩⟩⟩
theorem lw_p16 : lw_okq (⟨"Portinghall", "followTables", "(III)I"⟩, 8) := ⟨⟨by decide +kernel, by decide +kernel⟩, List.mem_of_getElem? (i := 16) (by decide +kernel), List.mem_of_getElem? (i := 609) (by decide +kernel), List.mem_of_getElem? (i := 610) (by decide +kernel)⟩
theorem lw_p17 : lw_okq (⟨"Portinghall", "placeByTable", "(II)I"⟩, 8) := ⟨⟨by decide +kernel, by decide +kernel⟩, List.mem_of_getElem? (i := 16) (by decide +kernel), List.mem_of_getElem? (i := 617) (by decide +kernel), List.mem_of_getElem? (i := 618) (by decide +kernel)⟩
theorem lw_p18 : lw_okq (⟨"Portinghall", "payForCall", "()V"⟩, 8) := ⟨⟨by decide +kernel, by decide +kernel⟩, List.mem_of_getElem? (i := 16) (by decide +kernel), List.mem_of_getElem? (i := 625) (by decide +kernel), List.mem_of_getElem? (i := 626) (by decide +kernel)⟩
def lw_privs_2 : List (MethodName × Nat) := [(⟨"Portinghall", "followTables", "(III)I"⟩, 8), (⟨"Portinghall", "placeByTable", "(II)I"⟩, 8), (⟨"Portinghall", "payForCall", "()V"⟩, 8)]
theorem lw_r2 : ∀ q ∈ lw_privs_2, lw_okq q := List.forall_mem_cons.mpr ⟨lw_p16, List.forall_mem_cons.mpr ⟨lw_p17, List.forall_mem_cons.mpr ⟨lw_p18, fun _ h => absurd h List.not_mem_nil⟩⟩⟩
def lw_privs : List (MethodName × Nat) := lw_privs_1 ++ (lw_privs_2)
def lw_tbl : List Cond := k2_sels lw_privs ++ tables_1
theorem lw_privs_ok : ∀ q ∈ lw_privs, lw_okq q := by
  show ∀ q ∈ lw_privs_1 ++ (lw_privs_2), lw_okq q
  exact List.forall_mem_append.mpr ⟨lw_r1, lw_r2⟩
end
section
/-! ===== BEGIN words of one list among another's, by their places ===== -/
theorem goodIn_r {big : List Cond} (ws : List Cond) (ps : List Nat) (hp : ws = ps.filterMap (fun i => big[i]?)) (h : ws.all goodWord = true) : GoodIn big ws := by
  intro w hw
  have h1 := List.all_eq_true.mp h w hw
  rw [hp] at hw
  obtain ⟨i, -, hi⟩ := List.mem_filterMap.mp hw
  have hm : w ∈ big := by first | exact List.mem_of_getElem? hi | exact List.getElem?_mem hi
  exact ⟨hm, good_of_word h1⟩
theorem goodIn_app {big a b : List Cond} (ha : GoodIn big a) (hb : GoodIn big b) : GoodIn big (a ++ b) := fun w h => (List.mem_append.mp h).elim (ha w) (hb w)
theorem goodIn_ca {big a b : List Cond} {c : Cond} (ha : GoodIn big (c :: a)) (hb : GoodIn big b) : GoodIn big (c :: (a ++ b)) := fun w h => (List.mem_cons.mp h).elim (fun e => ha w (List.mem_cons.mpr (Or.inl e))) (fun h => (List.mem_append.mp h).elim (fun h => ha w (List.mem_cons.mpr (Or.inr h))) (hb w))
theorem goodIn_sub {big ws : List Cond} (hm : ∀ w ∈ ws, w ∈ big) (h : ws.all goodWord = true) : GoodIn big ws := fun w hw => ⟨hm w hw, good_of_word (List.all_eq_true.mp h w hw)⟩
/-! ===== END ===== -/

/-! ===== BEGIN new T[n][m]: the outer array a place, the inner ones among the pooled ===== -/
/-- f, but v at every address of l -/
def vr_up {α : Type} (f : Nat → α) (l : List Nat) (v : α) : Nat → α := fun a => if a ∈ l then v else f a
theorem vr_up_in {α : Type} {f : Nat → α} {l : List Nat} {v : α} {a : Nat} (h : a ∈ l) : vr_up f l v a = v := if_pos h
theorem vr_up_ne {α : Type} {f : Nat → α} {l : List Nat} {v : α} {a : Nat} (h : a ∉ l) : vr_up f l v a = f a := if_neg h
theorem vr_rows {L l : List Nat} {f : Nat → va_E} {e : va_E} (h : ∀ a, a ∈ l → a ∉ L) : va_pl L f ++ l.map (fun a => (a, e)) = va_pl (L ++ l) (vr_up f l e) := by
  unfold va_pl
  rw [List.map_append]
  congr 1
  · apply List.map_congr_left
    intro a ha
    rw [vr_up_ne (fun q => h a q ha)]
  · apply List.map_congr_left
    intro a ha
    rw [vr_up_in ha]
theorem vr_lay {X rows : va_W} {x : Nat × va_E} {pl : va_W} {D : va_G} {cl : List vw_C} {H : Heap} (hP : va_P D cl (((X ++ pl) ++ [x]) ++ rows) H) : va_P D cl ((X ++ [x]) ++ (pl ++ rows)) H := by
  rw [List.append_assoc (X ++ pl)] at hP
  have h := va_P.swap hP
  rw [← List.append_assoc X] at h
  have h2 := va_P.swap h
  rw [List.append_assoc (X ++ [x])] at h2
  exact h2
theorem vr_layD {X rows : va_W} {x : Nat × va_E} {pl : va_W} {A : Nat → Prop} (hD : va_D A (((X ++ pl) ++ [x]) ++ rows)) : va_D A ((X ++ [x]) ++ (pl ++ rows)) := by
  rw [List.append_assoc (X ++ pl)] at hD
  have h := va_D.swap hD
  rw [← List.append_assoc X] at h
  have h2 := va_D.swap h
  rw [List.append_assoc (X ++ [x])] at h2
  exact h2
theorem vr_outer (c : ClassId) (N h0 : Nat) : ∀ i : Nat, Jvm.Free.Multi.outerC c N h0 i = arrV c N (fun j => va_rf (if j < i then some (h0 + 1 + j) else none))
  | 0 => by
    show ({ cls := c, slots := Array.replicate N .null, vm := .none } : Cell) = _
    rw [arrV_new]
    refine congrArg (arrV c N) (funext fun j => ?_)
    simp [va_rf]
  | i + 1 => by
    show (Jvm.Free.Multi.outerC c N h0 i).setSlot i (.ref (h0 + 1 + i)) = _
    rw [vr_outer c N h0 i, arrV_store]
    refine congrArg (arrV c N) (funext fun j => ?_)
    by_cases e : j = i
    · subst e
      simp [updV, va_rf]
    · by_cases h : j < i
      · simp [updV, e, h, Nat.lt_succ_of_lt h]
      · simp [updV, e, h, show ¬ j < i + 1 by omega]
def va_AOA (ty : FieldType) (U : State) : Prop := (Cond.arrayOver (.array ty)).before #[] U = true
theorem va_AOA.use {ty : FieldType} {A : Array Value} {U : State} (h : va_AOA ty U) : (Cond.arrayOver (.array ty)).before A U = true := h
section VGM
variable {p : Program} {l : Launch} {e : Env} {R : Room} {s : State} {m : MethodId} {args : Array Value} {below : List Frame} {meth : Method} {c : Code} {H : Heap} {locs : List Loc} {cells slots : Nat} {Q : State → Prop}
variable {cc : ByteArray} {pc : Nat} {ls : Array Slot} {rest : List Value} {D : va_G} {cl : List vw_C} {A : Nat → Prop} {a : Nat} {tys : List (ClassId × FieldType)} {ws : va_W} {H0 : Heap}
theorem va_mna {X : va_W} {L : List Nat} {f : Nat → va_E} {cc : ByteArray} (hexec : p.tables.exec = Jvm.exec) (hb : c.code = cc) {own : String} {index : Nat} {ty : FieldType} {cy : ClassId} (hown : s.vm.findClass own = some m.cls) (hclink : (Cond.classLink own index ("[" ++ (FieldType.array ty).toString)).before args s = true) (hover : va_AOA ty s) (harr : (Cond.arrayClass ty).before args s = true) (hcy : s.vm.findClass (FieldType.array ty).toString = some cy)
    (hK : va_K D cl tys s) (hP : va_P D cl (X ++ va_pl L f) H) (hD : va_D A (X ++ va_pl L f)) (hS : va_S A H0 H locs) (hA : ∀ q, H0.size ≤ q → A q) {n k : Int32} {N' K' : Nat} {z : vp_A} (hn : ¬ n < 0) (hk : ¬ k < 0) (hN : n.toNatClampNeg = N') (hM : k.toNatClampNeg = K')
    (hb1 : N' * 4 ≤ 536870912) (hb2 : K' * componentBytes ty ≤ 536870912) (hb3 : K' ≤ 536870912) (hdf : fits ty (defaultValue ty) = true) (hdd : (defaultValue ty).isDefault = true) (hcells : cells + (1 + N') ≤ R.cells) (hslots : slots + (N' + N' * K') ≤ R.slots) (hz : ∀ c : ClassId, Jvm.Free.Multi.innerC c K' (defaultValue ty) = vp_cell c z) (hdg : decode cc pc = .ok (.multianewarray index 2, 4))
    (kk : ∀ (q : Nat) (r : Nat → Nat) (cA : ClassId) (H1 : Heap), (∀ i j : Nat, i < N' → j < N' → r i = r j → i = j) → (∀ i : Nat, i < N' → r i ∉ L) → va_K D cl (tys ++ [(cA, .array ty)]) s →
      va_P D cl ((X ++ [(q, .inl (cA, N', .inr (.inr (.inr (.inr (fun i => if i < N' then some (r i) else none))))))]) ++ va_pl (L ++ (List.range N').map r) (vr_up f ((List.range N').map r) (.inl (cy, z)))) H1 → va_D A ((X ++ [(q, .inl (cA, N', .inr (.inr (.inr (.inr (fun i => if i < N' then some (r i) else none))))))]) ++ va_pl (L ++ (List.range N').map r) (vr_up f ((List.range N').map r) (.inl (cy, z)))) → va_S A H0 H1 locs →
      W p l e R s m args below meth c H1 locs (cells + 1 + N') (slots + N' + N' * K') Q (F0 m (pc + 4) ls (.ref q :: rest))) : W p l e R s m args below meth c H locs cells slots Q (F0 m pc ls (.int k :: .int n :: rest)) := by
  subst hN
  subst hM
  intro T hT Xs
  obtain ⟨vm₁, cA, comp, -, fA, fC, hO, -, X', step⟩ := Xs.multianewarray2F hexec hown hclink (va_AOA.use hover) harr (g := F0 m pc ls (.int k :: .int n :: rest)) rfl (by rw [hb]; exact hdg) rfl hn hk hb1 hb2 hb3 hdf hdd hcells hslots
  have ec : some cy = some comp := hcy.symm.trans fC
  cases ec
  generalize hF : Jvm.Free.Multi.fill (T.setVm vm₁) cA cy n.toNatClampNeg k.toNatClampNeg (defaultValue ty) n.toNatClampNeg = F at X' step
  have hTh : (T.setVm vm₁).heap = H := hT
  obtain ⟨f1, f2, -, -⟩ := Jvm.Free.Multi.fill_facts (T.setVm vm₁) cA cy n.toNatClampNeg k.toNatClampNeg (defaultValue ty) n.toNatClampNeg
  rw [hF, hTh] at f1 f2
  have hold : ∀ x : Nat, x < H.size → F.heap[x]? = H[x]? := fun x hx => by
    have := Jvm.Free.Multi.fill_old (T.setVm vm₁) cA cy n.toNatClampNeg k.toNatClampNeg (defaultValue ty) (a := x) (by rw [hTh]; exact hx) n.toNatClampNeg
    rw [hF, hTh] at this
    exact this
  have hrow : ∀ j : Nat, j < n.toNatClampNeg → F.heap[H.size + 1 + j]? = some (vp_cell cy z) := fun j hj => by
    have := Jvm.Free.Multi.fill_inner (T.setVm vm₁) cA cy n.toNatClampNeg k.toNatClampNeg (defaultValue ty) n.toNatClampNeg j hj
    rw [hF, hTh, hz] at this
    exact this
  have hout : Jvm.Free.Multi.outerC cA n.toNatClampNeg H.size n.toNatClampNeg = vp_cell cA (n.toNatClampNeg, .inr (.inr (.inr (.inr (fun i => if i < n.toNatClampNeg then some (H.size + 1 + i) else none))))) := by
    rw [vp_cell_q]
    exact vr_outer cA n.toNatClampNeg H.size n.toNatClampNeg
  rw [hout] at f2
  have hlt : ∀ a, a ∈ L → a < H.size := fun a ha => by
    obtain ⟨k9, hk9⟩ := va_pl_get (X := X) (f := f) ha
    exact (hP k9 _ hk9).lt
  have hnl : ∀ i : Nat, i < n.toNatClampNeg → H.size + 1 + i ∉ L := fun i _ h => by
    have := hlt _ h
    omega
  have hnm : ∀ a, a ∈ (List.range n.toNatClampNeg).map (fun i => H.size + 1 + i) → a ∉ L := fun a ha h => by
    obtain ⟨i, -, rfl⟩ := List.mem_map.mp ha
    have := hlt _ h
    omega
  have hP0 : va_P D cl (X ++ va_pl L f) F.heap := hP.kept (fun k9 x hx => hold x.1 ((hP k9 x hx).lt))
  have hP1 : va_P D cl ((X ++ va_pl L f) ++ [(H.size, .inl (cA, n.toNatClampNeg, .inr (.inr (.inr (.inr (fun i => if i < n.toNatClampNeg then some (H.size + 1 + i) else none))))))]) F.heap := hP0.app (fun k9 x hx => by
    have h0 : k9 < 1 := (List.getElem?_eq_some_iff.mp hx).1
    rw [show k9 = 0 by omega] at hx
    cases hx
    exact f2)
  have hP2 : va_P D cl (((X ++ va_pl L f) ++ [(H.size, .inl (cA, n.toNatClampNeg, .inr (.inr (.inr (.inr (fun i => if i < n.toNatClampNeg then some (H.size + 1 + i) else none))))))]) ++ ((List.range n.toNatClampNeg).map (fun i => H.size + 1 + i)).map (fun a => (a, .inl (cy, z)))) F.heap := hP1.app (fun k9 x hx => by
    obtain ⟨a, ha, rfl⟩ := List.mem_map.mp (List.mem_of_getElem? hx)
    obtain ⟨i, hi, rfl⟩ := List.mem_map.mp ha
    exact hrow i (List.mem_range.mp hi))
  have hD2 : va_D A (((X ++ va_pl L f) ++ [(H.size, .inl (cA, n.toNatClampNeg, .inr (.inr (.inr (.inr (fun i => if i < n.toNatClampNeg then some (H.size + 1 + i) else none))))))]) ++ ((List.range n.toNatClampNeg).map (fun i => H.size + 1 + i)).map (fun a => (a, .inl (cy, z)))) := by
    have hD1 := hD.push (e := .inl (cA, n.toNatClampNeg, .inr (.inr (.inr (.inr (fun i => if i < n.toNatClampNeg then some (H.size + 1 + i) else none)))))) hP rfl (hA _ hS.1)
    generalize hW1 : (X ++ va_pl L f) ++ [(H.size, .inl (cA, n.toNatClampNeg, .inr (.inr (.inr (.inr (fun i => if i < n.toNatClampNeg then some (H.size + 1 + i) else none))))))] = W1 at hD1 hP1 ⊢
    have hle : ∀ (k9 : Nat) (x : Nat × va_E), W1[k9]? = some x → x.1 ≤ H.size := fun k9 x hx => by
      rw [← hW1] at hx
      by_cases hl : k9 < (X ++ va_pl L f).length
      · rw [List.getElem?_append_left hl] at hx
        exact Nat.le_of_lt ((hP k9 x hx).lt)
      · rw [List.getElem?_append_right (by omega)] at hx
        have h0 : k9 - (X ++ va_pl L f).length < 1 := (List.getElem?_eq_some_iff.mp hx).1
        rw [show k9 - (X ++ va_pl L f).length = 0 by omega] at hx
        cases hx
        exact Nat.le_refl _
    have hr : ∀ (k9 : Nat) (x : Nat × va_E), (((List.range n.toNatClampNeg).map (fun i => H.size + 1 + i)).map (fun a => ((a, .inl (cy, z)) : Nat × va_E)))[k9]? = some x → x.1 = H.size + 1 + k9 := fun k9 x hx => by
      rw [List.getElem?_map, List.getElem?_map] at hx
      by_cases h9 : k9 < n.toNatClampNeg
      · rw [List.getElem?_range h9] at hx
        cases hx
        rfl
      · have hn0 : (List.range n.toNatClampNeg)[k9]? = none := List.getElem?_eq_none (by rw [List.length_range]; omega)
        rw [hn0] at hx
        cases hx
    refine ⟨fun i j x y hi hj hxy => ?_, fun k9 x hx => ?_⟩
    · by_cases h1 : i < W1.length <;> by_cases h2 : j < W1.length
      · rw [List.getElem?_append_left h1] at hi
        rw [List.getElem?_append_left h2] at hj
        exact hD1.1 i j x y hi hj hxy
      · rw [List.getElem?_append_left h1] at hi
        rw [List.getElem?_append_right (by omega)] at hj
        have := hle _ _ hi
        have := hr _ _ hj
        omega
      · rw [List.getElem?_append_right (by omega)] at hi
        rw [List.getElem?_append_left h2] at hj
        have := hle _ _ hj
        have := hr _ _ hi
        omega
      · rw [List.getElem?_append_right (by omega)] at hi hj
        have := hr _ _ hi
        have := hr _ _ hj
        omega
    · by_cases h1 : k9 < W1.length
      · rw [List.getElem?_append_left h1] at hx
        exact hD1.2 k9 x hx
      · rw [List.getElem?_append_right (by omega)] at hx
        have := hr _ _ hx
        exact hA _ (by have := hS.1; omega)
  have hAr : ArrOfT s cA (.array ty) := fun N9 z9 => by
    obtain ⟨-, k9, hk9, cm9, hkk9⟩ := (hO 0 0 0).1
    exact ⟨(fun q hq => by cases hq), k9, hk9, cm9, hkk9⟩
  have hK2 : va_K D cl (tys ++ [(cA, .array ty)]) s := ⟨hK.1, fun k9 x hx => by
    by_cases hl : k9 < tys.length
    · rw [List.getElem?_append_left hl] at hx
      exact hK.2 k9 x hx
    · rw [List.getElem?_append_right (by omega)] at hx
      have h0 : k9 - tys.length < 1 := (List.getElem?_eq_some_iff.mp hx).1
      rw [show k9 - tys.length = 0 by omega] at hx
      cases hx
      exact ⟨hAr, fA⟩⟩
  obtain ⟨t, a1, b1⟩ := kk H.size (fun i => H.size + 1 + i) cA F.heap (fun i j _ _ h => by have h9 : H.size + 1 + i = H.size + 1 + j := h; omega) hnl hK2 (by rw [← vr_rows hnm]; exact vr_lay hP2) (by rw [← vr_rows hnm]; exact vr_layD hD2) ⟨by rw [f1]; have := hS.1; omega, fun x h1 h2 => (hold x (Nat.lt_of_lt_of_le h1 hS.1)).trans (hS.2.1 x h1 h2), hS.2.2⟩ F rfl X'
  refine ⟨t, step t ?_, b1⟩
  have e : T.heap.size = H.size := by rw [hT]
  rw [e]
  exact a1
end VGM
/-! ===== END ===== -/

/-! ===== BEGIN exceptions that leave a method, and their catching by the caller (launches without stack traces) ===== -/
section VXA
/-! The laws vx_back, vx_callV, vx_callS, vx_callSW, vx_throw0, vx_throwS follow proofs of the library, with one case more: JvmDerived/Free/Laws.lean (Back.of_free), Shelf42/LK1.lean (callV, callS), Shelf/KitTraced.lean (throwNew0V, throwNewS). -/
/-- where a method has thrown q: the class by its name, the cell, what was written, the world -/
def vx_T (XC : String → State → State → Prop) (st : State) (q : Addr) (t : State) (mc ms : Nat) (free : Addr → Prop) : Prop :=
  ∃ (E : String) (ce : Cell) (L : List Loc), XC E st t ∧ t.heap[q]? = some ce ∧ ce.vm = .none ∧ st.vm.findClass E = some ce.cls ∧ st.WarmedH t.vm ∧ st.sameButNew ({ t with vm := st.vm } : State) L mc ms ∧ ∀ z ∈ L, free z.base
def vx_Q (Qc : Array Value → State → Outcome → State → Prop) (XC : String → State → State → Prop) (mc ms : Nat) (free : Addr → Prop) : Array Value → State → Outcome → State → Prop := fun a st o t =>
  (Qc a st o t ∧ ∃ L, FrameEnd st o t L mc ms ∧ ∀ q ∈ L, free q.base) ∨ ∃ q, o = .threw q ∧ vx_T XC st q t mc ms free
/-- a callee that returns or throws -/
def vx_Met (l : Launch) (y : MethodName) (ws : List Cond) (rm : Room) (Pc : Array Value → State → Prop) (Qc : Array Value → State → Outcome → State → Prop) (XC : String → State → State → Prop) (mc ms : Nat) (free : Addr → Prop) : Prop :=
  MetFree l y (headSpec ws rm) Pc (fun _ _ _ _ _ => True) (vx_Q Qc XC mc ms free)
def vx_Post (XC : String → State → State → Prop) (mc ms : Nat) (free : Addr → Prop) : Pt → Array Value → Addr → Pt → Prop := fun A a q B =>
  ∃ (g : JFrame) (mk : MethodId) (t : State) (L : List Loc) (E : String) (ce : Cell), B.U.heap = t.heap ∧ B.U.vm = t.vm ∧ XC E (A.U.calling g mk a) t ∧ t.heap[q]? = some ce ∧ ce.vm = .none ∧ A.U.vm.findClass E = some ce.cls ∧ B.locs = A.locs ++ L ∧ (∀ z ∈ L, free z.base) ∧ B.cells = A.cells + mc ∧ B.slots = A.slots + ms
def vx_Back (l : Launch) (R : Room) (p : Program) (e : Env) (below : List Frame) (s : State) (sargs : Array Value) (y : MethodName) (len W9 : Nat)
    (Pre : Pt → Array Value → Prop) (Post : Pt → Array Value → Option Value → Pt → Prop) (PostX : Pt → Array Value → Addr → Pt → Prop) : Prop :=
  ∀ (m : MethodId) (meth : Method) (c : Code) (A : Pt) (g : JFrame) (ig : Instr) (mk : MethodId) (a : Array Value),
    Stand p l e R s m sargs below meth c A.U A.locs A.cells A.slots → g.method = m → g.locals.size = c.maxLocals → decode c.code g.pc = .ok (ig, len) →
    2 * g.monitorRoom + (g.stack.map fun v => v.category).sum ≤ W9 → A.U.methodNamed? y = some mk → Pre A a →
    (∃ (v : Option Value) (B : Pt), Stand p l e R s m sargs below meth c B.U B.locs B.cells B.slots ∧ Post A a v B ∧
      Steps p.tables e below (doInvoke e (A.U.setTop g) [] mk a).1 (B.U.setTop { g with pc := g.pc + len, stack := v.toList ++ g.stack })) ∨
    (∃ (q : Addr) (B : Pt), Stand p l e R s m sargs below meth c B.U B.locs B.cells B.slots ∧ PostX A a q B ∧
      Steps p.tables e below (doInvoke e (A.U.setTop g) [] mk a).1 ((B.U.setTop g).pushFrame (.throwing q)))
section Payer
variable {l : Launch} {R : Room} {p : Program} {e : Env} {below : List Frame} {s : State} {sargs : Array Value} {y : MethodName} {len W9 : Nat}
theorem vx_back {ws : List Cond} {rm : Room} {Pc : Array Value → State → Prop} {Qc : Array Value → State → Outcome → State → Prop} {XC : String → State → State → Prop} {mc ms : Nat} {free : Addr → Prop} {bytes : ByteArray} {maxL : Nat} {ret : Option FieldType}
    (hM : vx_Met l y ws rm Pc Qc XC mc ms free) (hblind : FrameBlind Pc) (hrc : rm.cells = mc) (hrs : rm.slots = ms)
    (hframes : rm.frames + 1 ≤ R.frames) (hlocals : W9 + (maxL + 11) + rm.locals ≤ R.locals)
    (hws : ∀ w ∈ ws, ∀ a' U, s.WarmedH U.vm → w.before a' U = true) (hcode : Cond.code y bytes maxL ret ∈ ws) (hinit : ∀ a' U, s.WarmedH U.vm → (Cond.initialized y.cls).before a' U = true) :
    vx_Back l R p e below s sargs y len W9 (PreOf R mc ms Pc) (PostOf Qc mc ms free) (vx_Post XC mc ms free) := by
  intro m meth c A g ig mk a X hg hsize hdg hW hn hp
  have h1 : (headSpec ws rm).pre.before a A.U = true := atoms_intro fun w hw => hws w hw _ _ X.warmed
  have h2 : (Cond.code y bytes maxL ret).before a A.U = true := hws _ hcode _ _ X.warmed
  have h3 : (Cond.initialized y.cls).before a A.U = true := hinit _ _ X.warmed
  have h4 : A.cells + (headSpec ws rm).room.cells ≤ R.cells := by rw [show (headSpec ws rm).room.cells = mc from hrc]; exact hp.1
  have h5 : A.slots + (headSpec ws rm).room.slots ≤ R.slots := by rw [show (headSpec ws rm).room.slots = ms from hrs]; exact hp.2.1
  have hPc : Pc a (A.U.calling g mk a) := hblind _ _ _ _ hp.2.2
  obtain ⟨U, Ls, c0, s0⟩ := A
  dsimp only [Pt.U, Pt.locs, Pt.cells, Pt.slots] at h1 h2 h3 h4 h5 X hn hPc ⊢
  obtain ⟨methY, cY, hmY, hcY, -, hlY, -, -, -, -⟩ := Cond.code_spec hn h2
  obtain ⟨kY, hkY, -⟩ := className_of_methodNamed hn
  have hinitY : kY.init = .initialized := Cond.initialized_spec (findClass_of_methodNamed hn) hkY h3
  have h : At U g.method c below := by rw [hg]; exact X.here
  have hlocals9 : W9 + (maxL + 11) + (headSpec ws rm).room.locals ≤ R.locals := hlocals
  have happ : (headSpec ws rm).appliesLoose y e.platform (U.calling g mk a) = true :=
    Spec.appliesLoose_calling (g := g) h hdg hn hkY hinitY
      (X.room_calling (g := g) (R' := (headSpec ws rm).room) hsize hmY hcY hframes (by rw [hlY]; omega) h4 h5) h1
  obtain ⟨mid, hmid⟩ := h.above
  have hfr : (U.setTop g).frames = (.java g :: mid) ++ below := by rw [State.frames_setTop' g h.top, hmid]; rfl
  obtain ⟨o, s₂, hsteps, -, hend, hq⟩ := Steps.callFree hM p X.admits X.cas X.clock (acts := []) hfr happ hPc trivial
  have hq' : vx_Q Qc XC mc ms free a (U.calling g mk a) o s₂ := hq
  rw [State.frames_setTop' g h.top] at hend
  obtain ⟨g₀, hg0⟩ := Option.isSome_iff_exists.mp h.top
  obtain ⟨r, hr⟩ := State.topJava?_eq_some.mp hg0
  have hr' : (({ U with heap := s₂.heap, slotsUsed := s₂.slotsUsed } : State).setVm s₂.vm).frames = .java g₀ :: r := hr
  rcases hq' with ⟨hqc, L, hfe, hL⟩ | ⟨q, rfl, E, ce, L, hx, hce, hcv, hcl, hW₂, hsm, hL⟩
  · obtain ⟨⟨v, rfl⟩, hW₂, e2, q2, q3, q4, q5, q6⟩ := id hfe
    have e3 : s₂ = ({ (U.calling g mk a).setFrames s₂.frames with heap := s₂.heap, slotsUsed := s₂.slotsUsed } : State).setVm s₂.vm := by
      have : s₂ = ({ s₂ with vm := (U.calling g mk a).vm } : State).setVm s₂.vm := rfl
      rw [e2] at this
      exact this
    obtain ⟨c₂, i₂, len₂, hc₂, hd₂, hf₂⟩ := hend
    have hW' : U.WarmedH s₂.vm := hW₂
    have hcc : c₂ = c := by
      have h1 : s₂.code? g.method = U.code? g.method := by
        rw [State.code?_eq, State.code?_eq, hW'.alike.method?]
      exact Option.some.inj (hc₂.symm.trans (h1.trans h.code))
    subst hcc
    have hlen : len₂ = len := by rw [hdg] at hd₂; cases hd₂; rfl
    subst hlen
    have hs₂ : s₂ = (({ U with heap := s₂.heap, slotsUsed := s₂.slotsUsed } : State).setVm s₂.vm).setTop { g with pc := g.pc + len₂, stack := v.toList ++ g.stack } := by
      refine e3.trans ?_
      rw [hf₂, State.calling_eq h.top, State.setFrames_setFrames, State.setTop_of_frames _ hr', hr]
      rfl
    have hsame : U.sameButNew ({ U with heap := s₂.heap, slotsUsed := s₂.slotsUsed } : State) L mc ms := by
      refine ⟨?_, q2, q3, q4, q5, q6⟩
      obtain ⟨t, ht, -⟩ := State.frames_cons hr
      show ({ U with heap := s₂.heap, slotsUsed := s₂.slotsUsed } : State) = { U.setFrames U.frames with heap := s₂.heap, slotsUsed := s₂.slotsUsed }
      rw [State.setFrames_self ht]
    subst hg
    refine Or.inl ⟨v, ⟨(({ U with heap := s₂.heap, slotsUsed := s₂.slotsUsed } : State).setVm s₂.vm), Ls ++ L, c0 + mc, s0 + ms⟩,
      ⟨X.admits, X.cas, X.clock, X.frames, X.room, X.hears, X.method, X.code, (X.here.setHeapUsed s₂.heap s₂.slotsUsed).setVm hW'.alike, X.tail, State.WarmedH.trans X.warmed hW', X.limits, X.bytes, X.same.trans (hsame.setVm s.vm)⟩,
      ⟨g, mk, s₂, L, rfl, rfl, hqc, rfl, hL, rfl, rfl⟩, ?_⟩
    show Steps p.tables e below _ ((({ U with heap := s₂.heap, slotsUsed := s₂.slotsUsed } : State).setVm s₂.vm).setTop { g with pc := g.pc + len₂, stack := v.toList ++ g.stack })
    rw [← hs₂]
    exact hsteps
  · obtain ⟨e2, q2, q3, q4, q5, q6⟩ := id hsm
    have e3 : s₂ = ({ (U.calling g mk a).setFrames s₂.frames with heap := s₂.heap, slotsUsed := s₂.slotsUsed } : State).setVm s₂.vm := by
      have : s₂ = ({ s₂ with vm := (U.calling g mk a).vm } : State).setVm s₂.vm := rfl
      rw [e2] at this
      exact this
    have hf₂ : s₂.frames = .throwing q :: .java g :: U.frames.tail := hend
    have hW' : U.WarmedH s₂.vm := hW₂
    have hs₂ : s₂ = ((({ U with heap := s₂.heap, slotsUsed := s₂.slotsUsed } : State).setVm s₂.vm).setTop g).pushFrame (.throwing q) := by
      refine e3.trans ?_
      rw [hf₂, State.calling_eq h.top, State.setFrames_setFrames, State.pushFrame, State.frames_setTop _ hr', State.setTop_of_frames _ hr', State.setFrames_setFrames, hr]
      rfl
    have hsame : U.sameButNew ({ U with heap := s₂.heap, slotsUsed := s₂.slotsUsed } : State) L mc ms := by
      refine ⟨?_, q2, q3, q4, q5, q6⟩
      obtain ⟨t, ht, -⟩ := State.frames_cons hr
      show ({ U with heap := s₂.heap, slotsUsed := s₂.slotsUsed } : State) = { U.setFrames U.frames with heap := s₂.heap, slotsUsed := s₂.slotsUsed }
      rw [State.setFrames_self ht]
    subst hg
    refine Or.inr ⟨q, ⟨(({ U with heap := s₂.heap, slotsUsed := s₂.slotsUsed } : State).setVm s₂.vm), Ls ++ L, c0 + mc, s0 + ms⟩,
      ⟨X.admits, X.cas, X.clock, X.frames, X.room, X.hears, X.method, X.code, (X.here.setHeapUsed s₂.heap s₂.slotsUsed).setVm hW'.alike, X.tail, State.WarmedH.trans X.warmed hW', X.limits, X.bytes, X.same.trans (hsame.setVm s.vm)⟩,
      ⟨g, mk, s₂, L, E, ce, rfl, rfl, hx, hce, hcv, hcl, rfl, hL, rfl, rfl⟩, ?_⟩
    show Steps p.tables e below _ (((({ U with heap := s₂.heap, slotsUsed := s₂.slotsUsed } : State).setVm s₂.vm).setTop g).pushFrame (.throwing q))
    rw [← hs₂]
    exact hsteps
end Payer
section Calls
variable {p : Program} {l : Launch} {e : Env} {R : Room} {s : State} {m : MethodId} {args : Array Value} {below : List Frame} {meth : Method} {c : Code} {T : State} {locs : List Loc} {cells slots : Nat}
theorem vx_callV (X : Stand p l e R s m args below meth c T locs cells slots) (hexec : p.tables.exec = Jvm.exec) {own C : String} {index : Nat} {y : MethodName} {bytes : ByteArray} {maxL : Nat} {ret : Option FieldType}
    (hown : s.vm.findClass own = some m.cls) (hlink : (Cond.methodLink own index y).before args s = true) (hinst : (Cond.instanceMethod y).before args s = true) (hsel : (Cond.selects C y y).before args s = true)
    (hcode : (Cond.code y bytes maxL ret).before args s = true) (hy : y.cls ≠ "java/lang/invoke/MethodHandle" ∧ y.cls ≠ "java/lang/invoke/VarHandle")
    {W9 : Nat} {Pre : Pt → Array Value → Prop} {Post : Pt → Array Value → Option Value → Pt → Prop} {PostX : Pt → Array Value → Addr → Pt → Prop} (hK : vx_Back l R p e below s args y 3 W9 Pre Post PostX)
    {b : Addr} {cellB : Cell} (hcell : T.heap[b]? = some cellB) (hobj : cellB.vm.isStatics = false) (hcls : s.vm.findClass C = some cellB.cls)
    {g : JFrame} (hg : g.method = m) (hsize : g.locals.size = c.maxLocals) {argsL rest : List Value} (hlen : ∀ sig, parseMethodDescriptor y.desc = some sig → argsL.length = sig.parameters.length)
    (hstack : g.stack = argsL.reverse ++ .ref b :: rest) (hW : 2 * g.monitorRoom + (rest.map fun v => v.category).sum ≤ W9) (hdg : decode c.code g.pc = .ok (.invokevirtual index, 3))
    (hpre : ∀ vm₁, s.WarmedH vm₁ → Pre ⟨T.setVm vm₁, locs, cells, slots⟩ (Value.ref b :: argsL).toArray) :
    (∃ (v : Option Value) (vm₁ : Vm) (B : Pt), s.WarmedH vm₁ ∧ Stand p l e R s m args below meth c B.U B.locs B.cells B.slots ∧ Post ⟨T.setVm vm₁, locs, cells, slots⟩ (Value.ref b :: argsL).toArray v B ∧
      ∀ target, Steps p.tables e below (B.U.setTop { g with pc := g.pc + 3, stack := v.toList ++ rest }) target → Steps p.tables e below (T.setTop g) target) ∨
    (∃ (q : Addr) (vm₁ : Vm) (B : Pt), s.WarmedH vm₁ ∧ Stand p l e R s m args below meth c B.U B.locs B.cells B.slots ∧ PostX ⟨T.setVm vm₁, locs, cells, slots⟩ (Value.ref b :: argsL).toArray q B ∧
      Steps p.tables e below (T.setTop g) ((B.U.setTop { g with stack := rest }).pushFrame (.throwing q))) := by
  obtain ⟨mk, methM, hnamed, hmethM, hstM, habM⟩ := Cond.instanceMethod_spec hinst
  obtain ⟨methM', cM, hmethM', -, -, -, -, -, -, hsigM⟩ := Cond.code_spec hnamed hcode
  cases hmethM.symm.trans hmethM'
  obtain ⟨c2, r2, m2, q1, q2, q3, q4, kP, hkP, hkPi⟩ := Cond.selects_spec hsel
  cases hcls.symm.trans q1
  cases (State.methodFound?_of_named hnamed hy).symm.trans q2
  cases hnamed.symm.trans q3
  have hselP : selectMethod e.platform s.vm cellB.cls mk = .method mk := by rw [Launch.admits_selectMethod X.admits]; exact q4
  obtain ⟨vm₁, X₁, hstep₁⟩ := X.invokevirtual hexec hown hlink hnamed hmethM hstM hkP hkPi hy (a := b) (cell := cellB) hcell
    (fun z h => by rw [h] at hobj; cases hobj) hselP hmethM habM hkP hkPi (g := g) hg (argsL := argsL) (rest := rest) (hlen _ hsigM) hstack hdg
  rcases hK m meth c ⟨T.setVm vm₁, locs, cells, slots⟩ { g with stack := rest } (.invokevirtual index) mk (Value.ref b :: argsL).toArray X₁ hg hsize hdg hW (X₁.named hnamed) (hpre vm₁ X₁.warmed) with ⟨v, B, X', hpost, hsteps⟩ | ⟨q, B, X', hpost, hsteps⟩
  · exact Or.inl ⟨v, vm₁, B, X₁.warmed, X', hpost, fun target h => hstep₁ _ fun acts => by rw [doInvoke_state]; exact hsteps.trans h⟩
  · exact Or.inr ⟨q, vm₁, B, X₁.warmed, X', hpost, hstep₁ _ fun acts => by rw [doInvoke_state]; exact hsteps⟩
theorem vx_callS (X : Stand p l e R s m args below meth c T locs cells slots) (hexec : p.tables.exec = Jvm.exec) {own : String} {index : Nat} {y : MethodName} {bytes : ByteArray} {maxL : Nat} {ret : Option FieldType}
    (hown : s.vm.findClass own = some m.cls) (hlink : (Cond.methodLink own index y).before args s = true) (hstat : (Cond.static y).before args s = true) (hinit : (Cond.initialized y.cls).before args s = true)
    (hcode : (Cond.code y bytes maxL ret).before args s = true) (hy : y.cls ≠ "java/lang/invoke/MethodHandle" ∧ y.cls ≠ "java/lang/invoke/VarHandle")
    {W9 : Nat} {Pre : Pt → Array Value → Prop} {Post : Pt → Array Value → Option Value → Pt → Prop} {PostX : Pt → Array Value → Addr → Pt → Prop} (hK : vx_Back l R p e below s args y 3 W9 Pre Post PostX)
    {g : JFrame} (hg : g.method = m) (hsize : g.locals.size = c.maxLocals) {argsL rest : List Value} (hlen : ∀ sig, parseMethodDescriptor y.desc = some sig → argsL.length = sig.parameters.length)
    (hstack : g.stack = argsL.reverse ++ rest) (hW : 2 * g.monitorRoom + (rest.map fun v => v.category).sum ≤ W9) (hdg : decode c.code g.pc = .ok (.invokestatic index, 3))
    (hpre : ∀ vm₁, s.WarmedH vm₁ → Pre ⟨T.setVm vm₁, locs, cells, slots⟩ argsL.toArray) :
    (∃ (v : Option Value) (vm₁ : Vm) (B : Pt), s.WarmedH vm₁ ∧ Stand p l e R s m args below meth c B.U B.locs B.cells B.slots ∧ Post ⟨T.setVm vm₁, locs, cells, slots⟩ argsL.toArray v B ∧
      ∀ target, Steps p.tables e below (B.U.setTop { g with pc := g.pc + 3, stack := v.toList ++ rest }) target → Steps p.tables e below (T.setTop g) target) ∨
    (∃ (q : Addr) (vm₁ : Vm) (B : Pt), s.WarmedH vm₁ ∧ Stand p l e R s m args below meth c B.U B.locs B.cells B.slots ∧ PostX ⟨T.setVm vm₁, locs, cells, slots⟩ argsL.toArray q B ∧
      Steps p.tables e below (T.setTop g) ((B.U.setTop { g with stack := rest }).pushFrame (.throwing q))) := by
  obtain ⟨mk, hnamed⟩ := Cond.code_named hcode
  obtain ⟨methM, cM, hmethM, -, -, -, -, -, -, hsigM⟩ := Cond.code_spec hnamed hcode
  have hstatic : methM.isStatic = true := Cond.static_spec hnamed hmethM hstat
  obtain ⟨kP, hkP, -⟩ := className_of_methodNamed hnamed
  have hinitP : kP.init = .initialized := Cond.initialized_spec (findClass_of_methodNamed hnamed) hkP hinit
  obtain ⟨vm₁, X₁, hstep₁⟩ := X.invokestatic hexec hown hlink hnamed hmethM hstatic hkP hinitP hy (g := g) hg (argsL := argsL) (rest := rest) (hlen _ hsigM) hstack hdg
  rcases hK m meth c ⟨T.setVm vm₁, locs, cells, slots⟩ { g with stack := rest } (.invokestatic index) mk argsL.toArray X₁ hg hsize hdg hW (X₁.named hnamed) (hpre vm₁ X₁.warmed) with ⟨v, B, X', hpost, hsteps⟩ | ⟨q, B, X', hpost, hsteps⟩
  · exact Or.inl ⟨v, vm₁, B, X₁.warmed, X', hpost, fun target h => hstep₁ _ fun acts => by rw [doInvoke_state]; exact hsteps.trans h⟩
  · exact Or.inr ⟨q, vm₁, B, X₁.warmed, X', hpost, hstep₁ _ fun acts => by rw [doInvoke_state]; exact hsteps⟩
end Calls
theorem vx_cls {s : State} {T : State} {vm₁ : Vm} {E : String} {k : ClassId} (hW : s.WarmedH vm₁) (h : (T.setVm vm₁).vm.findClass E = some k) : s.vm.findClass E = some k := by
  have h1 : vm₁.findClass E = some k := h
  rw [hW.alike.findClass] at h1
  exact h1
/-- the method's frame g, with q thrown over it -/
def vx_W (p : Program) (l : Launch) (e : Env) (R : Room) (s : State) (m : MethodId) (args : Array Value) (below : List Frame) (meth : Method) (c : Code) (H : Heap) (locs : List Loc) (cells slots : Nat) (Q : State → Prop) (g : JFrame) (q : Addr) : Prop :=
  ∀ T : State, T.heap = H → Stand p l e R s m args below meth c T locs cells slots → ∃ t, Steps p.tables e below ((T.setTop g).pushFrame (.throwing q)) t ∧ Q t
def vx_Run (p : Program) (l : Launch) (e : Env) (R : Room) (s : State) (m : MethodId) (args : Array Value) (below : List Frame) (meth : Method) (c : Code) (H : Heap) (locs : List Loc) (cells slots mc ms : Nat) (g : JFrame) (rest : List Value) (Qa : State → Outcome → State → Prop) (XC : String → State → State → Prop) (free : Addr → Prop) : Prop :=
  ∀ T : State, T.heap = H → Stand p l e R s m args below meth c T locs cells slots →
    (∃ (v : Option Value) (st₀ t T' : State) (L : List Loc), st₀.heap = H ∧ Stand p l e R s m args below meth c T' (locs ++ L) (cells + mc) (slots + ms) ∧ (∀ q ∈ L, free q.base) ∧ T'.heap = t.heap ∧ T'.vm = t.vm ∧ Qa st₀ (.returned v) t ∧
      Goes p e below T g T' { g with pc := g.pc + 3, stack := v.toList ++ rest }) ∨
    (∃ (q : Addr) (st₀ t T' : State) (L : List Loc) (E : String) (ce : Cell), st₀.heap = H ∧ Stand p l e R s m args below meth c T' (locs ++ L) (cells + mc) (slots + ms) ∧ (∀ z ∈ L, free z.base) ∧ T'.heap = t.heap ∧ T'.vm = t.vm ∧ XC E st₀ t ∧ t.heap[q]? = some ce ∧ ce.vm = .none ∧ s.vm.findClass E = some ce.cls ∧
      Steps p.tables e below (T.setTop g) ((T'.setTop { g with stack := rest }).pushFrame (.throwing q)))
def vx_X {S : Type} (px : S → Prop) (B : String → S → State → Prop) (A : Nat → Prop) : String → State → State → Prop := fun E st t => ∃ u : S, px u ∧ B E u t ∧ va_F A st t
section Runs
variable {p : Program} {l : Launch} {e : Env} {R : Room} {s : State} {m : MethodId} {args : Array Value} {below : List Frame} {meth : Method} {c : Code} {H : Heap} {locs : List Loc} {cells slots : Nat}
variable {y : MethodName} {bytes cc : ByteArray} {maxL nL mc ms n index : Nat} {ret : Option FieldType} {ws : List Cond} {rm : Room} {Pc : Array Value → State → Prop} {Qc : Array Value → State → Outcome → State → Prop} {XC : String → State → State → Prop} {free : Addr → Prop} {Ts : List Cond} {own C : String} {b : Addr} {As rest : List Value} {g : JFrame}
theorem vx_callBack (cb : CallB R s args own index y bytes maxL ret ws rm mc ms n) (hM : vx_Met l y ws rm Pc Qc XC mc ms free) (hbl : FrameBlind Pc) : vx_Back l R p e below s args y 3 8 (PreOf R mc ms Pc) (PostOf Qc mc ms free) (vx_Post XC mc ms free) := by
  obtain ⟨hrc, hrs, hfr, hlo, hws, hcw, -, hini, -⟩ := cb
  exact vx_back (bytes := bytes) (maxL := maxL) (ret := ret) hM hbl hrc hrs hfr hlo hws hcw (fun a' U hW => word_at hW (Or.inl (by first | rfl | simp [Cond.onTables, Cond.keeps, Cond.steady])) hini)
theorem vx_runV (S : CallFix p m c cc nL s args Ts own) (hM : vx_Met l y ws rm Pc Qc XC mc ms free) (cw : CallW R s args own C index y bytes maxL ret ws rm mc ms n) (hp : PreV s H C b Pc As)
    (hg : g.method = m) (hn : As.length = n) (hsize : g.locals.size = nL) (hstack : g.stack = As.reverse ++ .ref b :: rest) (hW : 2 * g.monitorRoom + (rest.map fun v => v.category).sum ≤ 8) (hdg : decode cc g.pc = .ok (.invokevirtual index, 3)) (hf : cells + mc ≤ R.cells ∧ slots + ms ≤ R.slots) :
    vx_Run p l e R s m args below meth c H locs cells slots mc ms g rest (Qc (Value.ref b :: As).toArray) XC free := by
  have hK : vx_Back l R p e below s args y 3 8 (PreOf R mc ms Pc) (PostOf Qc mc ms free) (vx_Post XC mc ms free) := vx_callBack cw.1 hM hp.1
  obtain ⟨⟨-, -, -, -, -, -, hcode, -, hy, hlen, hl⟩, hin, hse⟩ := cw
  obtain ⟨hx, hb, hml, ho, -⟩ := S
  obtain ⟨-, ⟨cellB, hcB, hoB, hclB⟩, hPc⟩ := hp
  intro T hT X
  rcases vx_callV X hx (C := C) (bytes := bytes) (maxL := maxL) (ret := ret) ho hl hin hse hcode hy hK (by rw [hT]; exact hcB) hoB hclB hg (hsize.trans hml.symm) (argsL := As) (rest := rest) (fun sig h => hn.trans (hlen sig h)) hstack hW (by rw [hb]; exact hdg)
    (fun vm₁ hW₁ => ⟨hf.1, hf.2, hPc (T.setVm vm₁) hT hW₁⟩) with ⟨v, vm₁, ⟨U', l2, c2, s2⟩, hW₁, X', ⟨g', mk, t, L, e1, e2, hq, h1, hL, h2, h3⟩, st⟩ | ⟨q, vm₁, ⟨U', l2, c2, s2⟩, hW₁, X', ⟨g', mk, t, L, E, ce, e1, e2, hq, hce, hcv, hcl, h1, hL, h2, h3⟩, st⟩
  · dsimp only [Pt.U, Pt.locs, Pt.cells, Pt.slots] at X' e1 e2 h1 h2 h3 st
    subst h1; subst h2; subst h3
    exact Or.inl ⟨v, (T.setVm vm₁).calling g' mk (Value.ref b :: As).toArray, t, U', L, hT, X', hL, e1, e2, hq, st⟩
  · dsimp only [Pt.U, Pt.locs, Pt.cells, Pt.slots] at X' e1 e2 h1 h2 h3 st hcl
    subst h1; subst h2; subst h3
    exact Or.inr ⟨q, (T.setVm vm₁).calling g' mk (Value.ref b :: As).toArray, t, U', L, E, ce, hT, X', hL, e1, e2, hq, hce, hcv, vx_cls hW₁ hcl, st⟩
theorem vx_runS (S : CallFix p m c cc nL s args Ts own) (hM : vx_Met l y ws rm Pc Qc XC mc ms free) (cw : CallB R s args own index y bytes maxL ret ws rm mc ms n ∧ (Cond.static y).before args s = true) (hp : PreS s H Pc As)
    (hg : g.method = m) (hn : As.length = n) (hsize : g.locals.size = nL) (hstack : g.stack = As.reverse ++ rest) (hW : 2 * g.monitorRoom + (rest.map fun v => v.category).sum ≤ 8) (hdg : decode cc g.pc = .ok (.invokestatic index, 3)) (hf : cells + mc ≤ R.cells ∧ slots + ms ≤ R.slots) :
    vx_Run p l e R s m args below meth c H locs cells slots mc ms g rest (Qc As.toArray) XC free := by
  have hK : vx_Back l R p e below s args y 3 8 (PreOf R mc ms Pc) (PostOf Qc mc ms free) (vx_Post XC mc ms free) := vx_callBack cw.1 hM hp.1
  obtain ⟨⟨-, -, -, -, -, -, hcode, hini, hy, hlen, hl⟩, hstt⟩ := cw
  obtain ⟨hx, hb, hml, ho, -⟩ := S
  intro T hT X
  rcases vx_callS X hx (bytes := bytes) (maxL := maxL) (ret := ret) ho hl hstt hini hcode hy hK hg (hsize.trans hml.symm) (argsL := As) (rest := rest) (fun sig h => hn.trans (hlen sig h)) hstack hW (by rw [hb]; exact hdg)
    (fun vm₁ hW₁ => ⟨hf.1, hf.2, hp.2 (T.setVm vm₁) hT hW₁⟩) with ⟨v, vm₁, ⟨U', l2, c2, s2⟩, hW₁, X', ⟨g', mk, t, L, e1, e2, hq, h1, hL, h2, h3⟩, st⟩ | ⟨q, vm₁, ⟨U', l2, c2, s2⟩, hW₁, X', ⟨g', mk, t, L, E, ce, e1, e2, hq, hce, hcv, hcl, h1, hL, h2, h3⟩, st⟩
  · dsimp only [Pt.U, Pt.locs, Pt.cells, Pt.slots] at X' e1 e2 h1 h2 h3 st
    subst h1; subst h2; subst h3
    exact Or.inl ⟨v, (T.setVm vm₁).calling g' mk As.toArray, t, U', L, hT, X', hL, e1, e2, hq, st⟩
  · dsimp only [Pt.U, Pt.locs, Pt.cells, Pt.slots] at X' e1 e2 h1 h2 h3 st hcl
    subst h1; subst h2; subst h3
    exact Or.inr ⟨q, (T.setVm vm₁).calling g' mk As.toArray, t, U', L, E, ce, hT, X', hL, e1, e2, hq, hce, hcv, vx_cls hW₁ hcl, st⟩
end Runs
section Rows
variable {p : Program} {l : Launch} {e : Env} {R : Room} {s : State} {m : MethodId} {args : Array Value} {below : List Frame} {meth : Method} {c : Code} {H : Heap} {locs : List Loc} {cells slots : Nat} {Q : State → Prop}
variable {mc ms : Nat} {free : Addr → Prop} {A0 A1 : Nat → Prop} {H0 : Heap} {a : Array Value} {pc : Nat} {ls : Array Slot} {st0 rest : List Value}
theorem vx_keep {st₀ t T' : State} {L : List Loc} (h0 : st₀.heap = H) (e1 : T'.heap = t.heap) (hS : va_S A0 H0 H locs) (hA : ∀ q, q < H.size → A1 q → A0 q) (hf : ∀ q, free q → A0 q) (hL : ∀ q ∈ L, free q.base) (hF : va_F A1 st₀ t) :
    H.size ≤ T'.heap.size ∧ (∀ q : Nat, q < H.size → ¬ A1 q → T'.heap[q]? = H[q]?) ∧ va_S A0 H0 T'.heap (locs ++ L) := by
  obtain ⟨hz, hk⟩ := hF
  rw [h0] at hz hk
  exact ⟨by rw [e1]; exact hz, fun q h1 h2 => by rw [e1]; exact hk q h1 h2,
    ⟨Nat.le_trans hS.1 (by rw [e1]; exact hz), fun q h1 h2 => by rw [e1, hk q (Nat.lt_of_lt_of_le h1 hS.1) (fun z => h2 (hA q (Nat.lt_of_lt_of_le h1 hS.1) z))]; exact hS.2.1 q h1 h2, fun q hq => by
      rcases List.mem_append.mp hq with h | h
      · exact hS.2.2 q h
      · exact hf _ (hL q h)⟩⟩
theorem vx_calli {S SX : Type} {post : Int32 → S → Prop} {px : SX → Prop} {B : S → State → Prop} {BX : String → SX → State → Prop} {AX : Nat → Prop} (hr : vx_Run p l e R s m args below meth c H locs cells slots mc ms (F0 m pc ls st0) rest (va_Qi post B A1 a) (vx_X px BX AX) free) (hS : va_S A0 H0 H locs) (hA : ∀ q, q < H.size → A1 q → A0 q) (hf : ∀ q, free q → A0 q) (hAX : ∀ q, q < H.size → AX q → A0 q)
    (kx : ∀ (E : String) (ce : Cell) (q9 : Addr) (u : SX) (t : State) (H1 : Heap) (locs1 : List Loc), t.heap = H1 → s.vm.Alike t.vm → px u → BX E u t → H.size ≤ H1.size → (∀ q : Nat, q < H.size → ¬ AX q → H1[q]? = H[q]?) → va_S A0 H0 H1 locs1 → H1[q9]? = some ce → ce.vm = .none → s.vm.findClass E = some ce.cls → vx_W p l e R s m args below meth c H1 locs1 (cells + mc) (slots + ms) Q (F0 m pc ls rest) q9)
    (kk : ∀ (r : Int32) (u : S) (t : State) (H1 : Heap) (locs1 : List Loc), t.heap = H1 → s.vm.Alike t.vm → post r u → B u t → H.size ≤ H1.size → (∀ q : Nat, q < H.size → ¬ A1 q → H1[q]? = H[q]?) → va_S A0 H0 H1 locs1 → W p l e R s m args below meth c H1 locs1 (cells + mc) (slots + ms) Q (F0 m (pc + 3) ls (.int r :: rest))) : W p l e R s m args below meth c H locs cells slots Q (F0 m pc ls st0) := by
  intro T hT X
  rcases hr T hT X with ⟨v, st₀, t, T', L, h0, X', hL, e1, e2, ⟨⟨r, u, hv, hp, hb⟩, hF⟩, st⟩ | ⟨q, st₀, t, T', L, E, ce, h0, X', hL, e1, e2, ⟨u, hp, hb, hF⟩, hce, hcv, hcl, st⟩
  · cases hv
    obtain ⟨k1, k2, k3⟩ := vx_keep h0 e1 hS hA hf hL hF
    obtain ⟨t2, a1, b1⟩ := kk r u t T'.heap (locs ++ L) e1.symm (by rw [← e2]; exact X'.warmed.alike) hp hb k1 k2 k3 T' rfl X'
    exact ⟨t2, st t2 a1, b1⟩
  · obtain ⟨k1, k2, k3⟩ := vx_keep h0 e1 hS hAX hf hL hF
    obtain ⟨t2, a1, b1⟩ := kx E ce q u t T'.heap (locs ++ L) e1.symm (by rw [← e2]; exact X'.warmed.alike) hp hb k1 k2 k3 (by rw [e1]; exact hce) hcv hcl T' rfl X'
    exact ⟨t2, st.trans a1, b1⟩
theorem vx_calll {S SX : Type} {post : Int64 → S → Prop} {px : SX → Prop} {B : S → State → Prop} {BX : String → SX → State → Prop} {AX : Nat → Prop} (hr : vx_Run p l e R s m args below meth c H locs cells slots mc ms (F0 m pc ls st0) rest (va_Ql post B A1 a) (vx_X px BX AX) free) (hS : va_S A0 H0 H locs) (hA : ∀ q, q < H.size → A1 q → A0 q) (hf : ∀ q, free q → A0 q) (hAX : ∀ q, q < H.size → AX q → A0 q)
    (kx : ∀ (E : String) (ce : Cell) (q9 : Addr) (u : SX) (t : State) (H1 : Heap) (locs1 : List Loc), t.heap = H1 → s.vm.Alike t.vm → px u → BX E u t → H.size ≤ H1.size → (∀ q : Nat, q < H.size → ¬ AX q → H1[q]? = H[q]?) → va_S A0 H0 H1 locs1 → H1[q9]? = some ce → ce.vm = .none → s.vm.findClass E = some ce.cls → vx_W p l e R s m args below meth c H1 locs1 (cells + mc) (slots + ms) Q (F0 m pc ls rest) q9)
    (kk : ∀ (r : Int64) (u : S) (t : State) (H1 : Heap) (locs1 : List Loc), t.heap = H1 → s.vm.Alike t.vm → post r u → B u t → H.size ≤ H1.size → (∀ q : Nat, q < H.size → ¬ A1 q → H1[q]? = H[q]?) → va_S A0 H0 H1 locs1 → W p l e R s m args below meth c H1 locs1 (cells + mc) (slots + ms) Q (F0 m (pc + 3) ls (.long r :: rest))) : W p l e R s m args below meth c H locs cells slots Q (F0 m pc ls st0) := by
  intro T hT X
  rcases hr T hT X with ⟨v, st₀, t, T', L, h0, X', hL, e1, e2, ⟨⟨r, u, hv, hp, hb⟩, hF⟩, st⟩ | ⟨q, st₀, t, T', L, E, ce, h0, X', hL, e1, e2, ⟨u, hp, hb, hF⟩, hce, hcv, hcl, st⟩
  · cases hv
    obtain ⟨k1, k2, k3⟩ := vx_keep h0 e1 hS hA hf hL hF
    obtain ⟨t2, a1, b1⟩ := kk r u t T'.heap (locs ++ L) e1.symm (by rw [← e2]; exact X'.warmed.alike) hp hb k1 k2 k3 T' rfl X'
    exact ⟨t2, st t2 a1, b1⟩
  · obtain ⟨k1, k2, k3⟩ := vx_keep h0 e1 hS hAX hf hL hF
    obtain ⟨t2, a1, b1⟩ := kx E ce q u t T'.heap (locs ++ L) e1.symm (by rw [← e2]; exact X'.warmed.alike) hp hb k1 k2 k3 (by rw [e1]; exact hce) hcv hcl T' rfl X'
    exact ⟨t2, st.trans a1, b1⟩
theorem vx_callf {S SX : Type} {post : UInt32 → S → Prop} {px : SX → Prop} {B : S → State → Prop} {BX : String → SX → State → Prop} {AX : Nat → Prop} (hr : vx_Run p l e R s m args below meth c H locs cells slots mc ms (F0 m pc ls st0) rest (va_Qf post B A1 a) (vx_X px BX AX) free) (hS : va_S A0 H0 H locs) (hA : ∀ q, q < H.size → A1 q → A0 q) (hf : ∀ q, free q → A0 q) (hAX : ∀ q, q < H.size → AX q → A0 q)
    (kx : ∀ (E : String) (ce : Cell) (q9 : Addr) (u : SX) (t : State) (H1 : Heap) (locs1 : List Loc), t.heap = H1 → s.vm.Alike t.vm → px u → BX E u t → H.size ≤ H1.size → (∀ q : Nat, q < H.size → ¬ AX q → H1[q]? = H[q]?) → va_S A0 H0 H1 locs1 → H1[q9]? = some ce → ce.vm = .none → s.vm.findClass E = some ce.cls → vx_W p l e R s m args below meth c H1 locs1 (cells + mc) (slots + ms) Q (F0 m pc ls rest) q9)
    (kk : ∀ (r : UInt32) (u : S) (t : State) (H1 : Heap) (locs1 : List Loc), t.heap = H1 → s.vm.Alike t.vm → post r u → B u t → H.size ≤ H1.size → (∀ q : Nat, q < H.size → ¬ A1 q → H1[q]? = H[q]?) → va_S A0 H0 H1 locs1 → W p l e R s m args below meth c H1 locs1 (cells + mc) (slots + ms) Q (F0 m (pc + 3) ls (.float r :: rest))) : W p l e R s m args below meth c H locs cells slots Q (F0 m pc ls st0) := by
  intro T hT X
  rcases hr T hT X with ⟨v, st₀, t, T', L, h0, X', hL, e1, e2, ⟨⟨r, u, hv, hp, hb⟩, hF⟩, st⟩ | ⟨q, st₀, t, T', L, E, ce, h0, X', hL, e1, e2, ⟨u, hp, hb, hF⟩, hce, hcv, hcl, st⟩
  · cases hv
    obtain ⟨k1, k2, k3⟩ := vx_keep h0 e1 hS hA hf hL hF
    obtain ⟨t2, a1, b1⟩ := kk r u t T'.heap (locs ++ L) e1.symm (by rw [← e2]; exact X'.warmed.alike) hp hb k1 k2 k3 T' rfl X'
    exact ⟨t2, st t2 a1, b1⟩
  · obtain ⟨k1, k2, k3⟩ := vx_keep h0 e1 hS hAX hf hL hF
    obtain ⟨t2, a1, b1⟩ := kx E ce q u t T'.heap (locs ++ L) e1.symm (by rw [← e2]; exact X'.warmed.alike) hp hb k1 k2 k3 (by rw [e1]; exact hce) hcv hcl T' rfl X'
    exact ⟨t2, st.trans a1, b1⟩
theorem vx_calld {S SX : Type} {post : UInt64 → S → Prop} {px : SX → Prop} {B : S → State → Prop} {BX : String → SX → State → Prop} {AX : Nat → Prop} (hr : vx_Run p l e R s m args below meth c H locs cells slots mc ms (F0 m pc ls st0) rest (va_Qd post B A1 a) (vx_X px BX AX) free) (hS : va_S A0 H0 H locs) (hA : ∀ q, q < H.size → A1 q → A0 q) (hf : ∀ q, free q → A0 q) (hAX : ∀ q, q < H.size → AX q → A0 q)
    (kx : ∀ (E : String) (ce : Cell) (q9 : Addr) (u : SX) (t : State) (H1 : Heap) (locs1 : List Loc), t.heap = H1 → s.vm.Alike t.vm → px u → BX E u t → H.size ≤ H1.size → (∀ q : Nat, q < H.size → ¬ AX q → H1[q]? = H[q]?) → va_S A0 H0 H1 locs1 → H1[q9]? = some ce → ce.vm = .none → s.vm.findClass E = some ce.cls → vx_W p l e R s m args below meth c H1 locs1 (cells + mc) (slots + ms) Q (F0 m pc ls rest) q9)
    (kk : ∀ (r : UInt64) (u : S) (t : State) (H1 : Heap) (locs1 : List Loc), t.heap = H1 → s.vm.Alike t.vm → post r u → B u t → H.size ≤ H1.size → (∀ q : Nat, q < H.size → ¬ A1 q → H1[q]? = H[q]?) → va_S A0 H0 H1 locs1 → W p l e R s m args below meth c H1 locs1 (cells + mc) (slots + ms) Q (F0 m (pc + 3) ls (.double r :: rest))) : W p l e R s m args below meth c H locs cells slots Q (F0 m pc ls st0) := by
  intro T hT X
  rcases hr T hT X with ⟨v, st₀, t, T', L, h0, X', hL, e1, e2, ⟨⟨r, u, hv, hp, hb⟩, hF⟩, st⟩ | ⟨q, st₀, t, T', L, E, ce, h0, X', hL, e1, e2, ⟨u, hp, hb, hF⟩, hce, hcv, hcl, st⟩
  · cases hv
    obtain ⟨k1, k2, k3⟩ := vx_keep h0 e1 hS hA hf hL hF
    obtain ⟨t2, a1, b1⟩ := kk r u t T'.heap (locs ++ L) e1.symm (by rw [← e2]; exact X'.warmed.alike) hp hb k1 k2 k3 T' rfl X'
    exact ⟨t2, st t2 a1, b1⟩
  · obtain ⟨k1, k2, k3⟩ := vx_keep h0 e1 hS hAX hf hL hF
    obtain ⟨t2, a1, b1⟩ := kx E ce q u t T'.heap (locs ++ L) e1.symm (by rw [← e2]; exact X'.warmed.alike) hp hb k1 k2 k3 (by rw [e1]; exact hce) hcv hcl T' rfl X'
    exact ⟨t2, st.trans a1, b1⟩
theorem vx_callv {S SX : Type} {post : S → Prop} {px : SX → Prop} {B : S → State → Prop} {BX : String → SX → State → Prop} {AX : Nat → Prop} (hr : vx_Run p l e R s m args below meth c H locs cells slots mc ms (F0 m pc ls st0) rest (va_Qv post B A1 a) (vx_X px BX AX) free) (hS : va_S A0 H0 H locs) (hA : ∀ q, q < H.size → A1 q → A0 q) (hf : ∀ q, free q → A0 q) (hAX : ∀ q, q < H.size → AX q → A0 q)
    (kx : ∀ (E : String) (ce : Cell) (q9 : Addr) (u : SX) (t : State) (H1 : Heap) (locs1 : List Loc), t.heap = H1 → s.vm.Alike t.vm → px u → BX E u t → H.size ≤ H1.size → (∀ q : Nat, q < H.size → ¬ AX q → H1[q]? = H[q]?) → va_S A0 H0 H1 locs1 → H1[q9]? = some ce → ce.vm = .none → s.vm.findClass E = some ce.cls → vx_W p l e R s m args below meth c H1 locs1 (cells + mc) (slots + ms) Q (F0 m pc ls rest) q9)
    (kk : ∀ (u : S) (t : State) (H1 : Heap) (locs1 : List Loc), t.heap = H1 → s.vm.Alike t.vm → post u → B u t → H.size ≤ H1.size → (∀ q : Nat, q < H.size → ¬ A1 q → H1[q]? = H[q]?) → va_S A0 H0 H1 locs1 → W p l e R s m args below meth c H1 locs1 (cells + mc) (slots + ms) Q (F0 m (pc + 3) ls (rest))) : W p l e R s m args below meth c H locs cells slots Q (F0 m pc ls st0) := by
  intro T hT X
  rcases hr T hT X with ⟨v, st₀, t, T', L, h0, X', hL, e1, e2, ⟨⟨u, hv, hp, hb⟩, hF⟩, st⟩ | ⟨q, st₀, t, T', L, E, ce, h0, X', hL, e1, e2, ⟨u, hp, hb, hF⟩, hce, hcv, hcl, st⟩
  · cases hv
    obtain ⟨k1, k2, k3⟩ := vx_keep h0 e1 hS hA hf hL hF
    obtain ⟨t2, a1, b1⟩ := kk u t T'.heap (locs ++ L) e1.symm (by rw [← e2]; exact X'.warmed.alike) hp hb k1 k2 k3 T' rfl X'
    exact ⟨t2, st t2 a1, b1⟩
  · obtain ⟨k1, k2, k3⟩ := vx_keep h0 e1 hS hAX hf hL hF
    obtain ⟨t2, a1, b1⟩ := kx E ce q u t T'.heap (locs ++ L) e1.symm (by rw [← e2]; exact X'.warmed.alike) hp hb k1 k2 k3 (by rw [e1]; exact hce) hcv hcl T' rfl X'
    exact ⟨t2, st.trans a1, b1⟩
/-- caught by the row x of this method's table; the rows ahead don't take it -/
theorem vx_catch {own name : String} {E : String} {ce : Cell} {q : Addr} (hown : s.vm.findClass own = some m.cls) (pre : List ExceptionTableEntry) (x : ExceptionTableEntry) (suf : List ExceptionTableEntry) (hsplit : c.exceptionTable.toList = pre ++ x :: suf)
    (hpass : ∀ z ∈ pre, covers z pc = false ∨ (z.catchType ≠ 0 ∧ ∃ nm : String, (Cond.classLink own z.catchType nm).before args s = true ∧ va_Nc E nm s)) (hx : covers x pc = true) (h0 : x.catchType ≠ 0)
    (hlink : (Cond.classLink own x.catchType name).before args s = true) (hcast : (Cond.castable E name).before args s = true) (hcell : H[q]? = some ce) (hv : ce.vm = .none) (hcl : s.vm.findClass E = some ce.cls)
    (kk : W p l e R s m args below meth c H locs cells slots Q (F0 m x.handlerPc ls [.ref q])) : vx_W p l e R s m args below meth c H locs cells slots Q (F0 m pc ls rest) q := by
  intro T hT X
  have hpl : e.platform.magicAccessors = ({} : Platform).magicAccessors := by rw [X.admits.platform]
  obtain ⟨c3, c4, hc3, hc4, hasg⟩ := Cond.castable_spec hcast
  cases Option.some.inj (hc3.symm.trans hcl)
  obtain ⟨c5, hc5, hcl5⟩ := Cond.classLink_spec hown hlink e.platform hpl
  cases Option.some.inj (hc4.symm.trans hc5)
  obtain ⟨vm', X', st⟩ := X.thenCaughtThrough q (g := F0 m pc ls rest) rfl (Steps.refl _) (by rw [hT]; exact hcell) (by rw [hv]; rfl) (by obtain ⟨k9, h9, -⟩ := Vm.findClass_spec hcl; exact ⟨k9, h9⟩) pre x suf hsplit
    (fun z hz => by
      rcases hpass z hz with h | ⟨hz0, nm, hl1, hn1⟩
      · exact Or.inl h
      · obtain ⟨c6, hc6, hcl6⟩ := Cond.classLink_spec hown hl1 e.platform hpl
        obtain ⟨a8, b8, h1, h2, h3⟩ := hn1
        cases Option.some.inj (h1.symm.trans hcl)
        cases Option.some.inj (h2.symm.trans hc6)
        exact Or.inr ⟨hz0, _, hcl6, h3⟩) hx (Or.inr ⟨h0, c4, hcl5, hasg⟩)
  obtain ⟨t, a1, b1⟩ := kk (T.setVm vm') hT X'
  exact ⟨t, st.trans a1, b1⟩
end Rows
section Ends
variable {p : Program} {l : Launch} {e : Env} {R : Room} {s : State} {m : MethodId} {args : Array Value} {below : List Frame} {meth : Method} {c : Code} {H : Heap} {locs : List Loc} {cells slots : Nat} {Q : State → Prop}
variable {mc ms : Nat} {free : Addr → Prop} {A0 A1 : Nat → Prop} {H0 : Heap} {a : Array Value} {ls : Array Slot} {st0 rest : List Value}
variable {Qc : Array Value → State → Outcome → State → Prop} {XC : String → State → State → Prop}
/-- what a body that may throw owes at its end -/
def vx_MQ (below : List Frame) (Qc : Array Value → State → Outcome → State → Prop) (XC : String → State → State → Prop) (a : Array Value) (s : State) (mc ms : Nat) (free : Addr → Prop) : State → Prop := fun t =>
  ∃ o, t.status = .running ∧ Ended t below o ∧ vx_Q Qc XC mc ms free a s o t
theorem vx_ret {g : JFrame} {mc ms : Nat} (k : W p l e R s m args below meth c H locs cells slots (MQ below Qc args s mc ms free) g) : W p l e R s m args below meth c H locs cells slots (vx_MQ below Qc XC args s mc ms free) g := by
  intro T hT X
  obtain ⟨t, a1, o, b1, b2, b3, b4⟩ := k T hT X
  exact ⟨t, a1, o, b1, b2, Or.inl ⟨b3, b4⟩⟩
/-- not caught here: it goes on to the caller -/
theorem vx_widen {g : JFrame} {q : Addr} {k n : Nat} (h1 : cells ≤ k) (h2 : slots ≤ n) (kk : vx_W p l e R s m args below meth c H locs k n Q g q) : vx_W p l e R s m args below meth c H locs cells slots Q g q := fun T hT X => kk T hT (stand_widen X h1 h2)
theorem vx_out {pc : Nat} {E : String} {ce : Cell} {q : Addr} {mc ms : Nat} (hout : ∀ x ∈ c.exceptionTable.toList, covers x pc = false) (hlocks : meth.locks = false) (hcell : H[q]? = some ce) (hv : ce.vm = .none) (hcl : s.vm.findClass E = some ce.cls)
    (hx : ∀ t : State, t.heap = H → s.vm.Alike t.vm → XC E s t) (hf : ∀ z ∈ locs, free z.base) (hc : cells ≤ mc) (hs : slots ≤ ms) :
    vx_W p l e R s m args below meth c H locs cells slots (vx_MQ below Qc XC args s mc ms free) (F0 m pc ls rest) q := by
  intro T hT X
  obtain ⟨st1, hrun, hend, hW, hsm⟩ := X.leaveThrown q (g := F0 m pc ls rest) rfl rfl rfl hout hlocks
  have hcell9 : (T.setFrames (.throwing q :: below)).heap[q]? = some ce := by
    show T.heap[q]? = some ce
    rw [hT]; exact hcell
  exact ⟨_, st1, .threw q, hrun, hend, Or.inr ⟨q, rfl, E, ce, locs, hx _ hT hW.alike, hcell9, hv, hcl, hW, hsm.mono hc hs, hf⟩⟩
theorem vx_frame {U : State} {k n : Nat} (h : s.sameButNew ({ U with vm := s.vm } : State) locs k n) : s.heap.size ≤ U.heap.size ∧ ∀ q : Nat, q < s.heap.size → (∀ z ∈ locs, z.base ≠ q) → U.heap[q]? = s.heap[q]? := by
  obtain ⟨-, h2, -, -, -, h6⟩ := h
  refine ⟨h2, fun q hq hz => ?_⟩
  obtain ⟨c9, e1, e2, e3, e4⟩ := h6 q _ (Array.getElem?_eq_getElem hq)
  have hs : c9.slots = (s.heap[q]).slots := Array.ext_getElem? fun i => e4 i fun hm => hz _ hm rfl
  have h9 : c9 = s.heap[q] := by
    rw [hs] at e2
    exact e2
  have e5 : U.heap[q]? = some c9 := e1
  rw [e5, h9, Array.getElem?_eq_getElem hq]
/-- the words of a throw but the four that speak of the heap -/
def vx_no (w : Cond) : Bool := decide (w ≠ .isRef (.static Bundle.tN "UNASSIGNED_STACK" Bundle.steD)) && decide (w ≠ .isRef (.static Bundle.tN "SUPPRESSED_SENTINEL" Bundle.listD)) && decide (w ≠ .laysStatic Bundle.tN "UNASSIGNED_STACK" Bundle.steD) && decide (w ≠ .laysStatic Bundle.tN "SUPPRESSED_SENTINEL" Bundle.listD)
def vx_at0 (own : String) (ic : Nat) (X : String) (names : List String) : List Cond := (Bundle.ownAtoms0 own ic X names).filter vx_no
def vx_atS (own : String) (ic : Nat) (X : String) (names : List String) : List Cond := (Bundle.ownAtoms own ic X names).filter vx_no
/-- a word that the tables alone decide, or a good one -/
def vx_ot (w : Cond) : Bool := w.onTables || goodWord w
theorem vx_ot_at {args a' : Array Value} {s U : State} {w : Cond} (hW : s.WarmedH U.vm) (hvm : s.vm = U.vm) (hg : vx_ot w = true) (h : w.before args s = true) : w.before a' U = true := by
  simp only [vx_ot, Bool.or_eq_true] at hg
  rcases hg with hg | hg
  · exact va_tabs hg hvm h
  · exact word_at hW (good_of_word hg) h
/-- a list's words: the good ones out of the method's own list, the others by premises of their own -/
theorem vx_hat {args : Array Value} {s : State} {L B : List Cond} (h1 : ∀ w ∈ L.filter goodWord, w.before args s = true) (h2 : ∀ w ∈ L.filter (fun w => !goodWord w), w ∈ B) (h3 : ∀ w ∈ B, w.before args s = true) : ∀ w ∈ L, w.before args s = true := by
  intro w hw
  by_cases g : goodWord w = true
  · exact h1 w (List.mem_filter.mpr ⟨hw, g⟩)
  · refine h3 w (h2 w (List.mem_filter.mpr ⟨hw, ?_⟩))
    show (!goodWord w) = true
    cases hgw : goodWord w
    · rfl
    · exact absurd hgw g
theorem vx_c {args : Array Value} {s : State} {w : Cond} {B : List Cond} (h : w.before args s = true) (t : ∀ w ∈ B, w.before args s = true) : ∀ w' ∈ w :: B, w'.before args s = true := fun w' h' => (List.mem_cons.mp h').elim (fun e => by rw [e]; exact h) (t w')
theorem vx_n {args : Array Value} {s : State} : ∀ w ∈ ([] : List Cond), w.before args s = true := fun _ h => nomatch h
theorem vx_own {args : Array Value} {s : State} {L : List Cond} (h1 : ∀ w ∈ L.filter vx_no, w.before args s = true)
    (hU : (Cond.isRef (.static Bundle.tN "UNASSIGNED_STACK" Bundle.steD)).before args s = true) (hN : (Cond.isRef (.static Bundle.tN "SUPPRESSED_SENTINEL" Bundle.listD)).before args s = true)
    (lU : (Cond.laysStatic Bundle.tN "UNASSIGNED_STACK" Bundle.steD).before args s = true) (lN : (Cond.laysStatic Bundle.tN "SUPPRESSED_SENTINEL" Bundle.listD).before args s = true) : ∀ w ∈ L, w.before args s = true := by
  intro w hw
  by_cases e1 : w = .isRef (.static Bundle.tN "UNASSIGNED_STACK" Bundle.steD)
  · rw [e1]; exact hU
  · by_cases e2 : w = .isRef (.static Bundle.tN "SUPPRESSED_SENTINEL" Bundle.listD)
    · rw [e2]; exact hN
    · by_cases e3 : w = .laysStatic Bundle.tN "UNASSIGNED_STACK" Bundle.steD
      · rw [e3]; exact lU
      · by_cases e4 : w = .laysStatic Bundle.tN "SUPPRESSED_SENTINEL" Bundle.listD
        · rw [e4]; exact lN
        · exact h1 w (List.mem_filter.mpr ⟨hw, by unfold vx_no; rw [decide_eq_true e1, decide_eq_true e2, decide_eq_true e3, decide_eq_true e4]; rfl⟩)
/-- where a static field lies, its class's statics cell in H -/
def vx_L (C n d : String) (A : Nat → Prop) (U : State) (H : Heap) : Prop := ∃ (c : ClassId) (k : Class) (i : Nat) (f : Field) (a : Nat) (cell : Cell), U.vm.findClass C = some c ∧ U.fieldFound? C n d = some (c, k, i, f) ∧ f.isStatic = true ∧ k.statics = some a ∧ H[a]? = some cell ∧ cell.vm.isStatics = true ∧ cell.cls = c ∧ f.slot < cell.slots.size ∧ k.staticTypes[f.slot]? = some f.type ∧ ¬ A a
theorem vx_L.moved {C n d : String} {A : Nat → Prop} {u U : State} {H : Heap} (hvm : u.vm.Alike U.vm) (h : vx_L C n d A u H) : vx_L C n d A U H := by
  obtain ⟨c, k, i, f, a, cell, h1, h2, h3, h4, h5, h6, h7, h8, h9, h10⟩ := h
  obtain ⟨k', hi', he⟩ := State.fieldFound?_setVm hvm h2
  exact ⟨c, k', i, f, a, cell, by rw [hvm.findClass]; exact h1, hi', h3, by rw [he]; exact h4, h5, h6, h7, h8, by rw [he]; exact h9, h10⟩
theorem vx_L.kept {C n d : String} {A : Nat → Prop} {U : State} {H H1 : Heap} (h : vx_L C n d A U H) (hq : ∀ a : Nat, a < H.size → ¬ A a → H1[a]? = H[a]?) : vx_L C n d A U H1 := by
  obtain ⟨c, k, i, f, a, cell, h1, h2, h3, h4, h5, h6, h7, h8, h9, h10⟩ := h
  exact ⟨c, k, i, f, a, cell, h1, h2, h3, h4, by rw [hq a (Array.getElem?_eq_some_iff.mp h5).1 h10]; exact h5, h6, h7, h8, h9, h10⟩
theorem vx_L.narrow {C n d : String} {A B : Nat → Prop} {U : State} {H : Heap} (h : vx_L C n d A U H) (hAB : ∀ q, B q → A q) : vx_L C n d B U H := by
  obtain ⟨c, k, i, f, a, cell, h1, h2, h3, h4, h5, h6, h7, h8, h9, h10⟩ := h
  exact ⟨c, k, i, f, a, cell, h1, h2, h3, h4, h5, h6, h7, h8, h9, fun z => h10 (hAB _ z)⟩
theorem vx_L.word {C n d : String} {A : Nat → Prop} {s : State} {args : Array Value} (h : vx_L C n d A s s.heap) : (Cond.laysStatic C n d).before args s = true := by
  obtain ⟨c, k, i, f, a, cell, h1, h2, h3, h4, h5, h6, h7, h8, h9, -⟩ := h
  show (Cond.laysStatic C n d).holds args s none s [] = true
  exact Cond.laysStatic_of h1 h2 h3 h4 h5 h6 h7 h8 h9
/-- .. and what it holds: null or some reference -/
def vx_Zq (C n d : String) (A : Nat → Prop) (U : State) (H : Heap) : Prop := va_Zq C n d A U H ∧ vx_L C n d A U H
theorem vx_Zq.moved {C n d : String} {A : Nat → Prop} {u U : State} {H : Heap} (hvm : u.vm.Alike U.vm) (h : vx_Zq C n d A u H) : vx_Zq C n d A U H := ⟨va_Zq.moved hvm h.1, vx_L.moved hvm h.2⟩
theorem vx_Zq.kept {C n d : String} {A : Nat → Prop} {U : State} {H H1 : Heap} (h : vx_Zq C n d A U H) (hq : ∀ a : Nat, a < H.size → ¬ A a → H1[a]? = H[a]?) : vx_Zq C n d A U H1 := ⟨va_Zq.kept h.1 hq, vx_L.kept h.2 hq⟩
theorem vx_Zq.narrow {C n d : String} {A B : Nat → Prop} {U : State} {H : Heap} (h : vx_Zq C n d A U H) (hAB : ∀ q, B q → A q) : vx_Zq C n d B U H := ⟨va_Zq.narrow h.1 hAB, vx_L.narrow h.2 hAB⟩
theorem vx_Zqof {args : Array Value} {s : State} {C n d : String} {A : Nat → Prop} (hl : (Cond.laysStatic C n d).before args s = true) (hini : (Cond.initialized C).before args s = true) (h : (Cond.isRef (.static C n d)).before args s = true) (hA : ∀ a : Nat, a < s.heap.size → ¬ A a) : vx_Zq C n d A s s.heap := by
  refine ⟨va_Zqof hl hini h hA, ?_⟩
  obtain ⟨c, k, i, f, a, cell, h1, h2, h3, h4, h5, h6, h7, h8, h9⟩ := Cond.laysStatic_spec hl
  exact ⟨c, k, i, f, a, cell, h1, h2, h3, h4, h5, h6, h7, h8, h9, hA a (Array.getElem?_eq_some_iff.mp h5).1⟩
theorem vx_isRef {C n d : String} {v : Value} {A : Nat → Prop} {s : State} {args : Array Value} (h : va_Z C n d v A s s.heap) (hv : v.isRef = true) : (Cond.isRef (.static C n d)).before args s = true := by
  obtain ⟨cf, kf, fi, f, a, cell, h1, h2, h3, h4, h5, h6, h7, -⟩ := h
  have he : (Term.static C n d).eval args s none [] s = some v := by
    simp [Term.eval, State.fieldNamed?, h1, h2, h4, h5, h6, h7]
  simp only [Cond.before, Cond.holds, Cond.value, he]
  cases v <;> simp_all [Value.isRef]
theorem vx_isRefq {C n d : String} {A : Nat → Prop} {s : State} {args : Array Value} (h : va_Zq C n d A s s.heap) : (Cond.isRef (.static C n d)).before args s = true := by
  rcases h with h | ⟨t, h⟩
  · exact vx_isRef h rfl
  · exact vx_isRef h rfl
/-- the same frame, seen from here: as if the method were called anew in this heap -/
theorem vx_rebase {T : State} (X : Stand p l e R s m args below meth c T locs cells slots) {R' : Room} (hf : R'.frames ≤ R.frames) (hl : R'.locals ≤ R.locals) (hc : cells + R'.cells ≤ R.cells) (hs : slots + R'.slots ≤ R.slots) :
    Stand p l e R' ((T.setVm s.vm).setFrames (.invoking m args :: below)) m args below meth c T [] 0 0 := by
  have htop : (T.setVm s.vm).topJava?.isSome := X.here.top
  have hF : ((T.setVm s.vm).setFrames (.invoking m args :: below)).frames = .invoking m args :: below := State.frames_setFrames _ (State.cur_lt_of_top htop)
  obtain ⟨g₀, hg0⟩ := Option.isSome_iff_exists.mp htop
  obtain ⟨r, hr⟩ := State.topJava?_eq_some.mp hg0
  have hl9 : e.platform.stackLimits (T.setVm s.vm).me = e.platform.stackLimits s.me := X.limits
  have hb9 : (T.setVm s.vm).me.stackBytes = s.me.stackBytes := X.bytes
  refine ⟨X.admits, X.cas, X.clock, hF, ?_, X.hears, X.method, X.code, X.here, X.tail, X.warmed, ?_, ?_, ?_⟩
  · have h := X.room
    have hU : ((T.setVm s.vm).setFrames (.invoking m args :: below)).localsInUse = s.localsInUse := by
      rw [State.localsInUse_invoking hF (meth := meth) (c := c) X.method X.code, State.localsInUse_invoking X.frames X.method X.code]
    simp only [State.hasRoom, Bool.and_eq_true, decide_eq_true_eq] at h ⊢
    obtain ⟨⟨⟨⟨h1, h2, h3, h4, h5, h6⟩, h7⟩, h8⟩, h9⟩ := h
    rw [X.frames, List.length_cons] at h2 h3
    have q1 := X.heapSize
    have q2 := X.used
    simp only [hF, hU, List.length_cons, State.stackLimits_setFrames, State.stackBytes_setFrames, hl9, hb9]
    refine ⟨⟨⟨⟨by omega, by omega, by omega, by omega, by omega, h6⟩, ?_⟩, ?_⟩, X.book⟩
    · show T.heap.size + R'.cells ≤ e.platform.maxCells
      omega
    · show T.slotsUsed + R'.slots ≤ e.platform.maxSlots
      omega
  · rw [State.stackLimits_setFrames]; rfl
  · rw [State.stackBytes_setFrames]; rfl
  · refine ⟨?_, Nat.le_refl _, Nat.le_refl _, ?_, ?_, fun a c9 h9 => ⟨c9, h9, rfl, rfl, fun _ _ => rfl⟩⟩
    · obtain ⟨t, ht, -⟩ := State.frames_cons hr
      show T.setVm s.vm = { ((T.setVm s.vm).setFrames (.invoking m args :: below)).setFrames (T.setVm s.vm).frames with heap := T.heap, slotsUsed := T.slotsUsed }
      rw [State.setFrames_setFrames, State.setFrames_self ht]
      rfl
    · show T.slotsUsed = T.slotsUsed + ((T.heap.toList.drop T.heap.size).map (·.slots.size)).sum
      rw [List.drop_eq_nil_of_le (Nat.le_of_eq Array.length_toList)]
      rfl
    · show ((T.heap.toList.drop T.heap.size).map (·.slots.size)).sum ≤ 0
      rw [List.drop_eq_nil_of_le (Nat.le_of_eq Array.length_toList)]
      exact Nat.le_refl _
/-- 'throw new E()': new; dup; invokespecial; athrow -/
theorem vx_throw0 {cc : ByteArray} {pc : Nat} (hexec : p.tables.exec = Jvm.exec) (hb : c.code = cc) (hl : l.stackTraces = false) {own cls : String} {names : List String} {ik ic mc ms : Nat} {A : Nat → Prop}
    (hown : s.vm.findClass own = some m.cls) (hcls : Bundle.fit cls = true) (hnames : ∀ n ∈ names, Bundle.fit n = true)
    (hk : (Cond.classLink own ik cls).before args s = true) (hini : (Cond.initialized cls).before args s = true) (hat : ∀ w ∈ vx_at0 own ic cls names, w.before args s = true)
    (hgood : ∀ w ∈ Cond.classLink own ik cls :: Cond.initialized cls :: vx_at0 own ic cls names, vx_ot w = true)
    (hU : vx_Zq Bundle.tN "UNASSIGNED_STACK" Bundle.steD A s s.heap) (hN : vx_Zq Bundle.tN "SUPPRESSED_SENTINEL" Bundle.listD A s s.heap) (hS : va_S A s.heap H locs) (hsize : ls.size = c.maxLocals)
    (d0 : decode cc pc = .ok (.new ik, 3)) (d3 : decode cc (pc + 3) = .ok (.dup, 1)) (d4 : decode cc (pc + 4) = .ok (.invokespecial ic, 3)) (d7 : decode cc (pc + 7) = .ok (.athrow, 1))
    (hout : ∀ x ∈ c.exceptionTable.toList, covers x (pc + 7) = false)
    (hRframes : names.length + 3 < R.frames) (hRlocals : (rest.map fun v => v.category).sum + (13 * (names.length + 1) + 42) ≤ R.locals) (hRcells : cells + 1 ≤ R.cells) (hRslots : slots + 6 ≤ R.slots) (hlocks : meth.locks = false)
    (hx : ∀ t : State, s.vm.Alike t.vm → H.size ≤ t.heap.size → (∀ q : Nat, q < H.size → t.heap[q]? = H[q]?) → XC cls s t)
    (hf : ∀ z ∈ locs, free z.base) (hc : cells + 1 ≤ mc) (hs : slots + 6 ≤ ms) :
    W p l e R s m args below meth c H locs cells slots (vx_MQ below Qc XC args s mc ms free) (F0 m pc ls rest) := by
  intro T hT X
  have htr : e.platform.stackTraces = false := (show e.platform.stackTraces = l.stackTraces by rw [X.admits.platform]).trans hl
  have Y := vx_rebase X (R' := { frames := R.frames, locals := R.locals, cells := 1, slots := 6 }) (Nat.le_refl _) (Nat.le_refl _) hRcells hRslots
  obtain ⟨s', hA⟩ : ∃ z, z = (T.setVm s.vm).setFrames (.invoking m args :: below) := ⟨_, rfl⟩
  rw [← hA] at Y
  have hvm : s'.vm = s.vm := by rw [hA]; rfl
  have hhp : s'.heap = H := by rw [hA]; exact hT
  have hW0 : s.WarmedH s'.vm := by rw [hvm]; exact State.WarmedH.refl s
  have hat' : ∀ w ∈ vx_at0 own ic cls names, w.before args s' = true := fun w hw => vx_ot_at hW0 hvm.symm (hgood w (List.mem_cons_of_mem _ (List.mem_cons_of_mem _ hw))) (hat w hw)
  have hk' : (Cond.classLink own ik cls).before args s' = true := vx_ot_at hW0 hvm.symm (hgood _ List.mem_cons_self) hk
  have hini' : (Cond.initialized cls).before args s' = true := vx_ot_at hW0 hvm.symm (hgood _ (List.mem_cons_of_mem _ List.mem_cons_self)) hini
  have hU' : vx_Zq Bundle.tN "UNASSIGNED_STACK" Bundle.steD A s' s'.heap := by rw [hhp]; exact vx_Zq.moved hW0.alike (hU.kept hS.2.1)
  have hN' : vx_Zq Bundle.tN "SUPPRESSED_SENTINEL" Bundle.listD A s' s'.heap := by rw [hhp]; exact vx_Zq.moved hW0.alike (hN.kept hS.2.1)
  have h : ∀ w ∈ Bundle.ownAtoms0 own ic cls names, w.before args s' = true := vx_own hat' (vx_isRefq hU'.1) (vx_isRefq hN'.1) hU'.2.word hN'.2.word
  have hown' : s'.vm.findClass own = some m.cls := by rw [hvm]; exact hown
  have hins : (Cond.instantiable cls 6).before args s' = true := h _ (by simp [Bundle.ownAtoms0])
  obtain ⟨vm₁, cX, kX, hfX, hkX, -, -, X₁, st1⟩ := Y.newCold hexec (own := own) (C := cls) (index := ik) (n := 6) hown' hk' hins hini'
    (g := F0 m pc ls rest) rfl (by rw [hb]; exact d0) (Nat.le_refl _) (Nat.le_refl _)
  generalize hT1 : (T.setVm vm₁).pushCell { cls := cX, slots := kX.instanceTypes.map defaultValue, vm := .none } = T1 at X₁ st1
  have hcat : (Value.ref T.heap.size).category = 1 := rfl
  have hcellA : T1.heap[T.heap.size]? = some (freshCell cX kX) := by rw [← hT1]; exact State.heap_pushCell_size _ _
  have d3' : decode c.code (pc + 3) = .ok (.dup, 1) := by rw [hb]; exact d3
  obtain ⟨U, hsteps, hrun, hend, hW, hsame, ce, hce, hO⟩ := X₁.ctorThrow0 hexec htr (own := own) (cls := cls) (names := names) (ic := ic) hown' hcls hnames h (fun x hx => nomatch hx) hfX hkX hcellA (by rw [hhp, hT]; exact Nat.le_refl _)
    (g := { method := m, pc := pc + 4, locals := ls, stack := .ref T.heap.size :: .ref T.heap.size :: rest, locked := none }) rfl hsize rfl rfl (rest := rest) rfl
    (by rw [hb]; exact d4) (by rw [hb]; exact d7) hout hRframes (by simp only [List.map_cons, List.sum_cons, hcat]; omega) hlocks
  obtain ⟨f1, f2⟩ := vx_frame hsame
  rw [hhp] at f1 f2
  have hWs : s.WarmedH U.vm := State.WarmedH.trans hW0 hW
  have hcl : s.vm.findClass cls = some ce.cls := by
    have h9 := hO.cls
    rw [hvm] at h9
    exact h9
  have hall : s.sameButNew ({ U with vm := s.vm } : State) locs mc ms := by
    subst hA
    obtain ⟨e1, e2⟩ := hsame
    rw [State.setFrames_setFrames] at e1
    have h2 : (T.setVm s.vm).sameButNew ({ U with vm := s.vm } : State) [] (0 + 1) (0 + 6) := ⟨e1, e2⟩
    have h3 := X.same.trans h2
    rw [List.append_nil] at h3
    exact h3.mono hc hs
  refine ⟨U, ?_, .threw T.heap.size, hrun, hend, Or.inr ⟨T.heap.size, rfl, cls, ce, locs, hx U hWs.alike f1 (fun q hq => f2 q hq (fun z hz => nomatch hz)), hce, hO.vm, hcl, hWs, hall, hf⟩⟩
  refine st1 _ ?_
  show Steps p.tables e below (T1.setTop { method := m, pc := pc + 3, locals := ls, stack := .ref T.heap.size :: rest, locked := none }) _
  jvm_step X₁.here [X₁.here.top, hexec, d3', Value.category]
  exact hsteps
/-- 'throw new E("text")': new; dup; ldc; invokespecial; athrow -/
theorem vx_throwS {cc : ByteArray} {pc : Nat} (hexec : p.tables.exec = Jvm.exec) (hb : c.code = cc) (hl : l.stackTraces = false) {own cls text : String} {names : List String} {ik is ic mc ms sa : Nat} {A : Nat → Prop}
    (hown : s.vm.findClass own = some m.cls) (hcls : Bundle.fit cls = true) (hnames : ∀ n ∈ names, Bundle.fit n = true)
    (hk : (Cond.classLink own ik cls).before args s = true) (hini : (Cond.initialized cls).before args s = true) (hstr : vk_R own is text sa s) (hat : ∀ w ∈ vx_atS own ic cls names, w.before args s = true)
    (hgood : ∀ w ∈ Cond.classLink own ik cls :: Cond.initialized cls :: vx_atS own ic cls names, vx_ot w = true)
    (hU : vx_Zq Bundle.tN "UNASSIGNED_STACK" Bundle.steD A s s.heap) (hN : vx_Zq Bundle.tN "SUPPRESSED_SENTINEL" Bundle.listD A s s.heap) (hS : va_S A s.heap H locs) (hsize : ls.size = c.maxLocals)
    (d0 : decode cc pc = .ok (.new ik, 3)) (d3 : decode cc (pc + 3) = .ok (.dup, 1)) (d4 : decode cc (pc + 4) = .ok (.ldc is, 2)) (d6 : decode cc (pc + 6) = .ok (.invokespecial ic, 3)) (d9 : decode cc (pc + 9) = .ok (.athrow, 1))
    (hout : ∀ x ∈ c.exceptionTable.toList, covers x (pc + 9) = false)
    (hRframes : names.length + 3 < R.frames) (hRlocals : (rest.map fun v => v.category).sum + (13 * (names.length + 1) + 43) ≤ R.locals) (hRcells : cells + 1 ≤ R.cells) (hRslots : slots + 6 ≤ R.slots) (hlocks : meth.locks = false)
    (hx : ∀ t : State, s.vm.Alike t.vm → H.size ≤ t.heap.size → (∀ q : Nat, q < H.size → t.heap[q]? = H[q]?) → XC cls s t)
    (hf : ∀ z ∈ locs, free z.base) (hc : cells + 1 ≤ mc) (hs : slots + 6 ≤ ms) :
    W p l e R s m args below meth c H locs cells slots (vx_MQ below Qc XC args s mc ms free) (F0 m pc ls rest) := by
  intro T hT X
  have htr : e.platform.stackTraces = false := (show e.platform.stackTraces = l.stackTraces by rw [X.admits.platform]).trans hl
  have Y := vx_rebase X (R' := { frames := R.frames, locals := R.locals, cells := 1, slots := 6 }) (Nat.le_refl _) (Nat.le_refl _) hRcells hRslots
  obtain ⟨s', hA⟩ : ∃ z, z = (T.setVm s.vm).setFrames (.invoking m args :: below) := ⟨_, rfl⟩
  rw [← hA] at Y
  have hvm : s'.vm = s.vm := by rw [hA]; rfl
  have hhp : s'.heap = H := by rw [hA]; exact hT
  have hW0 : s.WarmedH s'.vm := by rw [hvm]; exact State.WarmedH.refl s
  have hat' : ∀ w ∈ vx_atS own ic cls names, w.before args s' = true := fun w hw => vx_ot_at hW0 hvm.symm (hgood w (List.mem_cons_of_mem _ (List.mem_cons_of_mem _ hw))) (hat w hw)
  have hk' : (Cond.classLink own ik cls).before args s' = true := vx_ot_at hW0 hvm.symm (hgood _ List.mem_cons_self) hk
  have hini' : (Cond.initialized cls).before args s' = true := vx_ot_at hW0 hvm.symm (hgood _ (List.mem_cons_of_mem _ List.mem_cons_self)) hini
  have hU' : vx_Zq Bundle.tN "UNASSIGNED_STACK" Bundle.steD A s' s'.heap := by rw [hhp]; exact vx_Zq.moved hW0.alike (hU.kept hS.2.1)
  have hN' : vx_Zq Bundle.tN "SUPPRESSED_SENTINEL" Bundle.listD A s' s'.heap := by rw [hhp]; exact vx_Zq.moved hW0.alike (hN.kept hS.2.1)
  have h : ∀ w ∈ Bundle.ownAtoms own ic cls names, w.before args s' = true := vx_own hat' (vx_isRefq hU'.1) (vx_isRefq hN'.1) hU'.2.word hN'.2.word
  have hown' : s'.vm.findClass own = some m.cls := by rw [hvm]; exact hown
  have hins : (Cond.instantiable cls 6).before args s' = true := h _ (by simp [Bundle.ownAtoms])
  obtain ⟨vm₁, cX, kX, hfX, hkX, -, -, X₁, st1⟩ := Y.newCold hexec (own := own) (C := cls) (index := ik) (n := 6) hown' hk' hins hini'
    (g := F0 m pc ls rest) rfl (by rw [hb]; exact d0) (Nat.le_refl _) (Nat.le_refl _)
  generalize hT1 : (T.setVm vm₁).pushCell { cls := cX, slots := kX.instanceTypes.map defaultValue, vm := .none } = T1 at X₁ st1
  have hcat : (Value.ref T.heap.size).category = 1 := rfl
  have hcellA : T1.heap[T.heap.size]? = some (freshCell cX kX) := by rw [← hT1]; exact State.heap_pushCell_size _ _
  have d3' : decode c.code (pc + 3) = .ok (.dup, 1) := by rw [hb]; exact d3
  have d4' : decode c.code (pc + 4) = .ok (.ldc is, 2) := by rw [hb]; exact d4
  have hstr' : vk_R own is text sa s' := vk_R.warm hW0 hstr
  obtain ⟨U, hsteps, hrun, hend, hW, hsame, ce, hce, hO⟩ := X₁.ctorThrowS hexec htr (own := own) (cls := cls) (names := names) (ic := ic) hown' hcls hnames h (fun x hx => nomatch hx) hfX hkX hcellA (by rw [hhp, hT]; exact Nat.le_refl _) (msg := .ref sa) rfl
    (g := { method := m, pc := pc + 6, locals := ls, stack := .ref sa :: .ref T.heap.size :: .ref T.heap.size :: rest, locked := none }) rfl hsize rfl rfl (rest := rest) rfl
    (by rw [hb]; exact d6) (by rw [hb]; exact d9) hout hRframes (by simp only [List.map_cons, List.sum_cons, hcat]; omega) hlocks
  obtain ⟨f1, f2⟩ := vx_frame hsame
  rw [hhp] at f1 f2
  have hWs : s.WarmedH U.vm := State.WarmedH.trans hW0 hW
  have hcl : s.vm.findClass cls = some ce.cls := by
    have h9 := hO.cls
    rw [hvm] at h9
    exact h9
  have hall : s.sameButNew ({ U with vm := s.vm } : State) locs mc ms := by
    subst hA
    obtain ⟨e1, e2⟩ := hsame
    rw [State.setFrames_setFrames] at e1
    have h2 : (T.setVm s.vm).sameButNew ({ U with vm := s.vm } : State) [] (0 + 1) (0 + 6) := ⟨e1, e2⟩
    have h3 := X.same.trans h2
    rw [List.append_nil] at h3
    exact h3.mono hc hs
  refine ⟨U, ?_, .threw T.heap.size, hrun, hend, Or.inr ⟨T.heap.size, rfl, cls, ce, locs, hx U hWs.alike f1 (fun q hq => f2 q hq (fun z hz => nomatch hz)), hce, hO.vm, hcl, hWs, hall, hf⟩⟩
  refine st1 _ ?_
  show Steps p.tables e below (T1.setTop { method := m, pc := pc + 3, locals := ls, stack := .ref T.heap.size :: rest, locked := none }) _
  jvm_step X₁.here [X₁.here.top, hexec, d3', Value.category]
  exact X₁.ldcString hexec (own := own) (text := text) (index := is) (a := sa) hown' hstr'.1 hstr'.2
    (g := { method := m, pc := pc + 4, locals := ls, stack := .ref T.heap.size :: .ref T.heap.size :: rest, locked := none }) rfl d4' _ hsteps
/-- 'throw new E("text")', the text by a wide index -/
theorem vx_throwSW {cc : ByteArray} {pc : Nat} (hexec : p.tables.exec = Jvm.exec) (hb : c.code = cc) (hl : l.stackTraces = false) {own cls text : String} {names : List String} {ik is ic mc ms sa : Nat} {A : Nat → Prop}
    (hown : s.vm.findClass own = some m.cls) (hcls : Bundle.fit cls = true) (hnames : ∀ n ∈ names, Bundle.fit n = true)
    (hk : (Cond.classLink own ik cls).before args s = true) (hini : (Cond.initialized cls).before args s = true) (hstr : vk_R own is text sa s) (hat : ∀ w ∈ vx_atS own ic cls names, w.before args s = true)
    (hgood : ∀ w ∈ Cond.classLink own ik cls :: Cond.initialized cls :: vx_atS own ic cls names, vx_ot w = true)
    (hU : vx_Zq Bundle.tN "UNASSIGNED_STACK" Bundle.steD A s s.heap) (hN : vx_Zq Bundle.tN "SUPPRESSED_SENTINEL" Bundle.listD A s s.heap) (hS : va_S A s.heap H locs) (hsize : ls.size = c.maxLocals)
    (d0 : decode cc pc = .ok (.new ik, 3)) (d3 : decode cc (pc + 3) = .ok (.dup, 1)) (d4 : decode cc (pc + 4) = .ok (.ldc_w is, 3)) (d7 : decode cc (pc + 7) = .ok (.invokespecial ic, 3)) (d10 : decode cc (pc + 10) = .ok (.athrow, 1))
    (hout : ∀ x ∈ c.exceptionTable.toList, covers x (pc + 10) = false)
    (hRframes : names.length + 3 < R.frames) (hRlocals : (rest.map fun v => v.category).sum + (13 * (names.length + 1) + 43) ≤ R.locals) (hRcells : cells + 1 ≤ R.cells) (hRslots : slots + 6 ≤ R.slots) (hlocks : meth.locks = false)
    (hx : ∀ t : State, s.vm.Alike t.vm → H.size ≤ t.heap.size → (∀ q : Nat, q < H.size → t.heap[q]? = H[q]?) → XC cls s t)
    (hf : ∀ z ∈ locs, free z.base) (hc : cells + 1 ≤ mc) (hs : slots + 6 ≤ ms) :
    W p l e R s m args below meth c H locs cells slots (vx_MQ below Qc XC args s mc ms free) (F0 m pc ls rest) := by
  intro T hT X
  have htr : e.platform.stackTraces = false := (show e.platform.stackTraces = l.stackTraces by rw [X.admits.platform]).trans hl
  have Y := vx_rebase X (R' := { frames := R.frames, locals := R.locals, cells := 1, slots := 6 }) (Nat.le_refl _) (Nat.le_refl _) hRcells hRslots
  obtain ⟨s', hA⟩ : ∃ z, z = (T.setVm s.vm).setFrames (.invoking m args :: below) := ⟨_, rfl⟩
  rw [← hA] at Y
  have hvm : s'.vm = s.vm := by rw [hA]; rfl
  have hhp : s'.heap = H := by rw [hA]; exact hT
  have hW0 : s.WarmedH s'.vm := by rw [hvm]; exact State.WarmedH.refl s
  have hat' : ∀ w ∈ vx_atS own ic cls names, w.before args s' = true := fun w hw => vx_ot_at hW0 hvm.symm (hgood w (List.mem_cons_of_mem _ (List.mem_cons_of_mem _ hw))) (hat w hw)
  have hk' : (Cond.classLink own ik cls).before args s' = true := vx_ot_at hW0 hvm.symm (hgood _ List.mem_cons_self) hk
  have hini' : (Cond.initialized cls).before args s' = true := vx_ot_at hW0 hvm.symm (hgood _ (List.mem_cons_of_mem _ List.mem_cons_self)) hini
  have hU' : vx_Zq Bundle.tN "UNASSIGNED_STACK" Bundle.steD A s' s'.heap := by rw [hhp]; exact vx_Zq.moved hW0.alike (hU.kept hS.2.1)
  have hN' : vx_Zq Bundle.tN "SUPPRESSED_SENTINEL" Bundle.listD A s' s'.heap := by rw [hhp]; exact vx_Zq.moved hW0.alike (hN.kept hS.2.1)
  have h : ∀ w ∈ Bundle.ownAtoms own ic cls names, w.before args s' = true := vx_own hat' (vx_isRefq hU'.1) (vx_isRefq hN'.1) hU'.2.word hN'.2.word
  have hown' : s'.vm.findClass own = some m.cls := by rw [hvm]; exact hown
  have hins : (Cond.instantiable cls 6).before args s' = true := h _ (by simp [Bundle.ownAtoms])
  obtain ⟨vm₁, cX, kX, hfX, hkX, -, -, X₁, st1⟩ := Y.newCold hexec (own := own) (C := cls) (index := ik) (n := 6) hown' hk' hins hini'
    (g := F0 m pc ls rest) rfl (by rw [hb]; exact d0) (Nat.le_refl _) (Nat.le_refl _)
  generalize hT1 : (T.setVm vm₁).pushCell { cls := cX, slots := kX.instanceTypes.map defaultValue, vm := .none } = T1 at X₁ st1
  have hcat : (Value.ref T.heap.size).category = 1 := rfl
  have hcellA : T1.heap[T.heap.size]? = some (freshCell cX kX) := by rw [← hT1]; exact State.heap_pushCell_size _ _
  have d3' : decode c.code (pc + 3) = .ok (.dup, 1) := by rw [hb]; exact d3
  have d4' : decode c.code (pc + 4) = .ok (.ldc_w is, 3) := by rw [hb]; exact d4
  have hstr' : vk_R own is text sa s' := vk_R.warm hW0 hstr
  obtain ⟨U, hsteps, hrun, hend, hW, hsame, ce, hce, hO⟩ := X₁.ctorThrowS hexec htr (own := own) (cls := cls) (names := names) (ic := ic) hown' hcls hnames h (fun x hx => nomatch hx) hfX hkX hcellA (by rw [hhp, hT]; exact Nat.le_refl _) (msg := .ref sa) rfl
    (g := { method := m, pc := pc + 7, locals := ls, stack := .ref sa :: .ref T.heap.size :: .ref T.heap.size :: rest, locked := none }) rfl hsize rfl rfl (rest := rest) rfl
    (by rw [hb]; exact d7) (by rw [hb]; exact d10) hout hRframes (by simp only [List.map_cons, List.sum_cons, hcat]; omega) hlocks
  obtain ⟨f1, f2⟩ := vx_frame hsame
  rw [hhp] at f1 f2
  have hWs : s.WarmedH U.vm := State.WarmedH.trans hW0 hW
  have hcl : s.vm.findClass cls = some ce.cls := by
    have h9 := hO.cls
    rw [hvm] at h9
    exact h9
  have hall : s.sameButNew ({ U with vm := s.vm } : State) locs mc ms := by
    subst hA
    obtain ⟨e1, e2⟩ := hsame
    rw [State.setFrames_setFrames] at e1
    have h2 : (T.setVm s.vm).sameButNew ({ U with vm := s.vm } : State) [] (0 + 1) (0 + 6) := ⟨e1, e2⟩
    have h3 := X.same.trans h2
    rw [List.append_nil] at h3
    exact h3.mono hc hs
  refine ⟨U, ?_, .threw T.heap.size, hrun, hend, Or.inr ⟨T.heap.size, rfl, cls, ce, locs, hx U hWs.alike f1 (fun q hq => f2 q hq (fun z hz => nomatch hz)), hce, hO.vm, hcl, hWs, hall, hf⟩⟩
  refine st1 _ ?_
  show Steps p.tables e below (T1.setTop { method := m, pc := pc + 3, locals := ls, stack := .ref T.heap.size :: rest, locked := none }) _
  jvm_step X₁.here [X₁.here.top, hexec, d3', Value.category]
  exact X₁.ldcStringW hexec (own := own) (text := text) (index := is) (a := sa) hown' hstr'.1 hstr'.2
    (g := { method := m, pc := pc + 4, locals := ls, stack := .ref T.heap.size :: .ref T.heap.size :: rest, locked := none }) rfl d4' _ hsteps
end Ends
section Bodies
variable {l : Launch}
theorem vx_ofW {y : MethodName} {ws ws' : List Cond} {rm : Room} {Pc : Array Value → State → Prop} {Qc : Array Value → State → Outcome → State → Prop} {XC : String → State → State → Prop} {mc ms : Nat} {free : Addr → Prop} {cc : ByteArray} {maxL : Nat} {ret : Option FieldType}
    (hy : plainName y.cls = true) (hw : ws = Cond.code y cc maxL ret :: ws')
    (body : ∀ p e s m args below meth c s₁, BodyLoose p l y (headSpec ws rm) cc maxL ret e s m args below meth c s₁ → c.maxLocals = maxL → (∀ x ∈ c.exceptionTable.toList, False) → Pc args s →
      W p l e (headSpec ws rm).room s m args below meth c s.heap [] 0 0 (vx_MQ below Qc XC args s mc ms free) (entryFrame m args maxL)) : vx_Met l y ws rm Pc Qc XC mc ms free := by
  refine MetFree.of_bodyS (code := cc) (maxLocals := maxL) (ret := ret) hy ?_ ?_
  · intro args s m h hn
    obtain ⟨meth, c, h1, h2, h3, h4, h5, h6, -, -⟩ := Cond.code_spec hn (atoms_spec (ws := ws) h _ (by rw [hw]; exact List.mem_cons_self))
    exact ⟨meth, c, h1, h2, h3, h4, h5, h6⟩
  · intro p e s m args below meth c s₁ B hml hP _
    have hh0 : s₁.heap = s.heap := by rw [B.state]; rfl
    have ht : ∀ x ∈ c.exceptionTable.toList, False := by
      obtain ⟨meth9, c9, h1, h2, -, -, -, -, h7, -⟩ := Cond.code_spec B.named (atoms_spec (ws := ws) B.pre _ (by rw [hw]; exact List.mem_cons_self))
      cases Option.some.inj (h1.symm.trans B.method)
      cases Option.some.inj (h2.symm.trans (Stand.of_body B).code)
      intro x hx
      rw [Array.isEmpty_iff.mp h7] at hx
      cases hx
    obtain ⟨t, a1, o, b1, b2, b3⟩ := body p e s m args below meth c s₁ B hml ht hP s₁ hh0 (Stand.of_body B)
    exact ⟨t, o, a1, b1, b2, b3⟩
/-- the table of a body with handlers -/
theorem vx_table {p : Program} {x y : MethodName} {S : Spec} {cc bytes : ByteArray} {maxL maxL' : Nat} {ret ret' : Option FieldType} {e : Env} {s s₁ : State} {m : MethodId} {args : Array Value} {below : List Frame} {meth : Method} {c : Code} {hh : List (Nat × Nat × Nat × Nat)}
    (B : BodyLoose p l y S cc maxL ret e s m args below meth c s₁) (h : (Cond.codeWith y bytes maxL' ret' hh).before args s = true) : c.exceptionTable.toList = tableOf hh := by
  obtain ⟨m9, meth9, c9, hn9, h1, h2, -, -, h6, -⟩ := Cond.codeWith_spec h
  cases Option.some.inj (hn9.symm.trans B.named)
  cases Option.some.inj (h1.symm.trans B.method)
  cases Option.some.inj (h2.symm.trans (Stand.of_body B).code)
  rw [← h6, table_eq]
end Bodies
end VXA
/-! ===== END ===== -/
/-! ===== BEGIN a static call of a method with an exception table ===== -/
section VXS
variable {p : Program} {l : Launch} {e : Env} {R : Room} {s : State} {m : MethodId} {args : Array Value} {below : List Frame} {meth : Method} {c : Code} {T : State} {H : Heap} {locs : List Loc} {cells slots : Nat}
abbrev vx_CSW (R : Room) (s : State) (args : Array Value) (own : String) (index : Nat) (y : MethodName) (bytes : ByteArray) (maxL : Nat) (ret : Option FieldType) (hh : List (Nat × Nat × Nat × Nat)) (ws : List Cond) (rm : Room) (mc ms n : Nat) : Prop :=
  (rm.cells = mc ∧ rm.slots = ms ∧ rm.frames + 1 ≤ R.frames ∧ 8 + (maxL + 11) + rm.locals ≤ R.locals ∧ (∀ w ∈ ws, ∀ (a' : Array Value) (U : State), s.WarmedH U.vm → w.before a' U = true) ∧ Cond.codeWith y bytes maxL ret hh ∈ ws) ∧
  (Cond.codeWith y bytes maxL ret hh).before args s = true ∧ (Cond.initialized y.cls).before args s = true ∧ (y.cls ≠ "java/lang/invoke/MethodHandle" ∧ y.cls ≠ "java/lang/invoke/VarHandle") ∧
  (∀ sig, parseMethodDescriptor y.desc = some sig → n = sig.parameters.length) ∧ (Cond.methodLink own index y).before args s = true ∧ (Cond.static y).before args s = true
theorem vx_cwSW {own : String} {index maxL mc ms : Nat} {y : MethodName} {bytes : ByteArray} {ret : Option FieldType} {hh : List (Nat × Nat × Nat × Nat)} {Ts ws ws' : List Cond} {rm : Room} (n : Nat) (ht : ∀ w ∈ Ts, w.before args s = true) (hT : GoodIn Ts (va_wsS own index y ws)) (hw : ws = Cond.codeWith y bytes maxL ret hh :: ws') (hrc : rm.cells = mc) (hrs : rm.slots = ms)
    (hd : y.cls ≠ "java/lang/invoke/MethodHandle" ∧ y.cls ≠ "java/lang/invoke/VarHandle" ∧ (parseMethodDescriptor y.desc).map (fun d => d.parameters.length) = some n) (hR : rm.frames + 1 ≤ R.frames ∧ 8 + (maxL + 11) + rm.locals ≤ R.locals) :
    vx_CSW R s args own index y bytes maxL ret hh ws rm mc ms n := by
  have ok : ∀ w ∈ va_wsS own index y ws, w.before args s = true := fun w h => ht w (hT w h).1
  have hG : GoodIn Ts ws := fun w h => hT w (by unfold va_wsS; exact List.mem_append_right _ h)
  have hc : Cond.codeWith y bytes maxL ret hh ∈ ws := by rw [hw]; exact List.mem_cons_self
  refine ⟨⟨hrc, hrs, hR.1, hR.2, pay_in ht hG, hc⟩, ht _ (hG _ hc).1, ok _ (by simp [va_wsS]), ⟨hd.1, hd.2.1⟩, fun sig h => ?_, ok _ (by simp [va_wsS]), ok _ (by simp [va_wsS])⟩
  have h2 := hd.2.2
  rw [h] at h2
  exact (Option.some.inj h2).symm
theorem vx_callSW (X : Stand p l e R s m args below meth c T locs cells slots) (hexec : p.tables.exec = Jvm.exec) {own : String} {index : Nat} {y : MethodName} {bytes : ByteArray} {maxL : Nat} {ret : Option FieldType} {hh : List (Nat × Nat × Nat × Nat)}
    (hown : s.vm.findClass own = some m.cls) (hlink : (Cond.methodLink own index y).before args s = true) (hstat : (Cond.static y).before args s = true) (hinit : (Cond.initialized y.cls).before args s = true)
    (hcode : (Cond.codeWith y bytes maxL ret hh).before args s = true) (hy : y.cls ≠ "java/lang/invoke/MethodHandle" ∧ y.cls ≠ "java/lang/invoke/VarHandle")
    {W9 : Nat} {Pre : Pt → Array Value → Prop} {Post : Pt → Array Value → Option Value → Pt → Prop} (hK : Back l R p e below s args y 3 W9 Pre Post)
    {g : JFrame} (hg : g.method = m) (hsize : g.locals.size = c.maxLocals) {argsL rest : List Value} (hlen : ∀ sig, parseMethodDescriptor y.desc = some sig → argsL.length = sig.parameters.length)
    (hstack : g.stack = argsL.reverse ++ rest) (hW : 2 * g.monitorRoom + (rest.map fun v => v.category).sum ≤ W9) (hdg : decode c.code g.pc = .ok (.invokestatic index, 3))
    (hpre : ∀ vm₁, s.WarmedH vm₁ → Pre ⟨T.setVm vm₁, locs, cells, slots⟩ argsL.toArray) :
    ∃ (v : Option Value) (vm₁ : Vm) (B : Pt), s.WarmedH vm₁ ∧ Stand p l e R s m args below meth c B.U B.locs B.cells B.slots ∧ Post ⟨T.setVm vm₁, locs, cells, slots⟩ argsL.toArray v B ∧
      ∀ target, Steps p.tables e below (B.U.setTop { g with pc := g.pc + 3, stack := v.toList ++ rest }) target → Steps p.tables e below (T.setTop g) target := by
  obtain ⟨mk, methM, cM, hnamed, hmethM, -, -, -, -, -, -, hsigM⟩ := Cond.codeWith_spec hcode
  have hstatic : methM.isStatic = true := Cond.static_spec hnamed hmethM hstat
  obtain ⟨kP, hkP, -⟩ := className_of_methodNamed hnamed
  have hinitP : kP.init = .initialized := Cond.initialized_spec (findClass_of_methodNamed hnamed) hkP hinit
  obtain ⟨vm₁, X₁, hstep₁⟩ := X.invokestatic hexec hown hlink hnamed hmethM hstatic hkP hinitP hy (g := g) hg (argsL := argsL) (rest := rest) (hlen _ hsigM) hstack hdg
  obtain ⟨v, B, X', hpost, hsteps⟩ := hK m meth c ⟨T.setVm vm₁, locs, cells, slots⟩ { g with stack := rest } (.invokestatic index) mk argsL.toArray X₁ hg hsize hdg hW (X₁.named hnamed) (hpre vm₁ X₁.warmed)
  exact ⟨v, vm₁, B, X₁.warmed, X', hpost, fun target h => hstep₁ _ fun acts => by rw [doInvoke_state]; exact hsteps.trans h⟩
theorem vx_runSW {y : MethodName} {bytes cc : ByteArray} {maxL nL mc ms n index : Nat} {ret : Option FieldType} {hh : List (Nat × Nat × Nat × Nat)} {ws : List Cond} {rm : Room} {Pc : Array Value → State → Prop} {Qc : Array Value → State → Outcome → State → Prop} {free : Addr → Prop} {Ts : List Cond} {own : String} {As rest : List Value} {g : JFrame}
    (S : CallFix p m c cc nL s args Ts own) (hM : Met l y ws rm Pc Qc mc ms free) (cw : vx_CSW R s args own index y bytes maxL ret hh ws rm mc ms n) (hp : PreS s H Pc As)
    (hg : g.method = m) (hn : As.length = n) (hsize : g.locals.size = nL) (hstack : g.stack = As.reverse ++ rest) (hW : 2 * g.monitorRoom + (rest.map fun v => v.category).sum ≤ 8) (hdg : decode cc g.pc = .ok (.invokestatic index, 3)) (hf : cells + mc ≤ R.cells ∧ slots + ms ≤ R.slots) :
    va_Run p l e R s m args below meth c H locs cells slots mc ms g rest (Qc As.toArray) (free) := by
  obtain ⟨⟨hrc, hrs, hfr, hlo, hws, hcw⟩, hcode, hini, hy, hlen, hl, hstt⟩ := cw
  have hK : Back l R p e below s args y 3 8 (PreOf R mc ms Pc) (PostOf Qc mc ms free) := va_backW (hh := hh) (bytes := bytes) (maxL := maxL) (ret := ret) hM hp.1 hrc hrs hfr hlo hws hcw (fun a' U hW => word_at hW (Or.inl (by first | rfl | simp [Cond.onTables, Cond.keeps, Cond.steady])) hini)
  obtain ⟨hx, hb, hml, ho, -⟩ := S
  intro T hT X
  obtain ⟨v, vm₁, ⟨U', l2, c2, s2⟩, hW₁, X', ⟨g', mk, t, L, e1, e2, hq, h1, hL, h2, h3⟩, st⟩ := vx_callSW X hx (hh := hh) (bytes := bytes) (maxL := maxL) (ret := ret) ho hl hstt hini hcode hy hK hg (hsize.trans hml.symm) (argsL := As) (rest := rest) (fun sig h => hn.trans (hlen sig h)) hstack hW (by rw [hb]; exact hdg)
    (fun vm₁ hW₁ => ⟨hf.1, hf.2, hp.2 (T.setVm vm₁) hT hW₁⟩)
  dsimp only [Pt.U, Pt.locs, Pt.cells, Pt.slots] at X' e1 e2 h1 h2 h3 st
  subst h1; subst h2; subst h3
  exact ⟨v, (T.setVm vm₁).calling g' mk As.toArray, t, U', L, hT, X', hL, e1, e2, hq, st⟩
/-- not caught here, past rows that name other classes: it goes on to the caller -/
theorem vx_outP {p : Program} {l : Launch} {e : Env} {R : Room} {s : State} {m : MethodId} {args : Array Value} {below : List Frame} {meth : Method} {c : Code} {H : Heap} {locs : List Loc} {cells slots : Nat} {free : Addr → Prop} {ls : Array Slot} {rest : List Value} {Qc : Array Value → State → Outcome → State → Prop} {XC : String → State → State → Prop}
    {pc : Nat} {own E : String} {ce : Cell} {q : Addr} {mc ms : Nat} (hown : s.vm.findClass own = some m.cls) (hlocks : meth.locks = false)
    (hpass : ∀ z ∈ c.exceptionTable.toList, covers z pc = false ∨ (z.catchType ≠ 0 ∧ ∃ nm : String, (Cond.classLink own z.catchType nm).before args s = true ∧ va_Nc E nm s)) (hcell : H[q]? = some ce) (hv : ce.vm = .none) (hcl : s.vm.findClass E = some ce.cls)
    (hx : ∀ t : State, t.heap = H → s.vm.Alike t.vm → XC E s t) (hf : ∀ z ∈ locs, free z.base) (hc : cells ≤ mc) (hs : slots ≤ ms) :
    vx_W p l e R s m args below meth c H locs cells slots (vx_MQ below Qc XC args s mc ms free) (F0 m pc ls rest) q := by
  intro T hT X
  have hpl : e.platform.magicAccessors = ({} : Platform).magicAccessors := by rw [X.admits.platform]
  obtain ⟨vm', hW', X', st⟩ := X.outThrough hlocks q (g := F0 m pc ls rest) rfl rfl rfl (cell := ce) (by rw [hT]; exact hcell) (by rw [hv]; rfl)
    (by obtain ⟨k9, h9, -⟩ := Vm.findClass_spec hcl; exact ⟨k9, h9⟩) (fun z hz => by
      rcases hpass z hz with h | ⟨hz0, nm, hl1, hn1⟩
      · exact Or.inl h
      · obtain ⟨c6, hc6, hcl6⟩ := Cond.classLink_spec hown hl1 e.platform hpl
        obtain ⟨a8, b8, h1, h2, h3⟩ := hn1
        cases Option.some.inj (h1.symm.trans hcl)
        cases Option.some.inj (h2.symm.trans hc6)
        exact Or.inr ⟨hz0, _, hcl6, h3⟩)
  obtain ⟨g₀, hfr⟩ := X'.frames_eq
  have hcell9 : ((T.setVm vm').setFrames (.throwing q :: below)).heap[q]? = some ce := by
    show T.heap[q]? = some ce
    rw [hT]; exact hcell
  have hend : Ended ((T.setVm vm').setFrames (.throwing q :: below)) below (.threw q) := State.frames_setFrames _ (State.cur_lt_of_frames hfr)
  refine ⟨(T.setVm vm').setFrames (.throwing q :: below), ?_, .threw q, X'.here.running, hend, Or.inr ⟨q, rfl, E, ce, locs, hx _ hT (X'.ends _).1.alike, hcell9, hv, hcl, (X'.ends _).1, (X'.ends _).2.mono hc hs, hf⟩⟩
  rw [X.pushThrowing_eq]
  exact st
/-- a thing of a world lies in the heap -/
theorem vx_lt {D : va_G} {cl : List vw_C} {ws : va_W} {H1 : Heap} (h : va_P D cl ws H1) {k : Nat} {q : Nat × va_E} (hk : ws[k]? = some q) : q.1 < H1.size := (h k q hk).lt
end VXS
/-! ===== END ===== -/
/-! ===== BEGIN methods with a table of their own: called by a name, returning or throwing ===== -/
section VXH
/-! vx_backW, vx_callVX, vx_callSX, vx_callVW, vx_runVW, vx_runVX, vx_runSX, vx_ofWH follow the same proofs as their sisters above (Free/Laws.lean, Shelf42/LK1.lean); vx_outP calls Shelf42/NT130.lean (outThrough). -/
section
variable {l : Launch} {R : Room} {p : Program} {e : Env} {below : List Frame} {s : State} {sargs : Array Value} {y : MethodName} {len W9 : Nat}
theorem vx_backW {ws : List Cond} {rm : Room} {Pc : Array Value → State → Prop} {Qc : Array Value → State → Outcome → State → Prop} {XC : String → State → State → Prop} {mc ms : Nat} {free : Addr → Prop} {bytes : ByteArray} {maxL : Nat} {ret : Option FieldType} {hh : List (Nat × Nat × Nat × Nat)}
    (hM : vx_Met l y ws rm Pc Qc XC mc ms free) (hblind : FrameBlind Pc) (hrc : rm.cells = mc) (hrs : rm.slots = ms)
    (hframes : rm.frames + 1 ≤ R.frames) (hlocals : W9 + (maxL + 11) + rm.locals ≤ R.locals)
    (hws : ∀ w ∈ ws, ∀ a' U, s.WarmedH U.vm → w.before a' U = true) (hcode : Cond.codeWith y bytes maxL ret hh ∈ ws) (hinit : ∀ a' U, s.WarmedH U.vm → (Cond.initialized y.cls).before a' U = true) :
    vx_Back l R p e below s sargs y len W9 (PreOf R mc ms Pc) (PostOf Qc mc ms free) (vx_Post XC mc ms free) := by
  intro m meth c A g ig mk a X hg hsize hdg hW hn hp
  have h1 : (headSpec ws rm).pre.before a A.U = true := atoms_intro fun w hw => hws w hw _ _ X.warmed
  have h2 : (Cond.codeWith y bytes maxL ret hh).before a A.U = true := hws _ hcode _ _ X.warmed
  have h3 : (Cond.initialized y.cls).before a A.U = true := hinit _ _ X.warmed
  have h4 : A.cells + (headSpec ws rm).room.cells ≤ R.cells := by rw [show (headSpec ws rm).room.cells = mc from hrc]; exact hp.1
  have h5 : A.slots + (headSpec ws rm).room.slots ≤ R.slots := by rw [show (headSpec ws rm).room.slots = ms from hrs]; exact hp.2.1
  have hPc : Pc a (A.U.calling g mk a) := hblind _ _ _ _ hp.2.2
  obtain ⟨U, Ls, c0, s0⟩ := A
  dsimp only [Pt.U, Pt.locs, Pt.cells, Pt.slots] at h1 h2 h3 h4 h5 X hn hPc ⊢
  obtain ⟨m9, methY, cY, hn9, hmY, hcY, -, hlY, -⟩ := Cond.codeWith_spec h2
  cases Option.some.inj (hn9.symm.trans hn)
  obtain ⟨kY, hkY, -⟩ := className_of_methodNamed hn
  have hinitY : kY.init = .initialized := Cond.initialized_spec (findClass_of_methodNamed hn) hkY h3
  have h : At U g.method c below := by rw [hg]; exact X.here
  have hlocals9 : W9 + (maxL + 11) + (headSpec ws rm).room.locals ≤ R.locals := hlocals
  have happ : (headSpec ws rm).appliesLoose y e.platform (U.calling g mk a) = true :=
    Spec.appliesLoose_calling (g := g) h hdg hn hkY hinitY
      (X.room_calling (g := g) (R' := (headSpec ws rm).room) hsize hmY hcY hframes (by rw [hlY]; omega) h4 h5) h1
  obtain ⟨mid, hmid⟩ := h.above
  have hfr : (U.setTop g).frames = (.java g :: mid) ++ below := by rw [State.frames_setTop' g h.top, hmid]; rfl
  obtain ⟨o, s₂, hsteps, -, hend, hq⟩ := Steps.callFree hM p X.admits X.cas X.clock (acts := []) hfr happ hPc trivial
  have hq' : vx_Q Qc XC mc ms free a (U.calling g mk a) o s₂ := hq
  rw [State.frames_setTop' g h.top] at hend
  obtain ⟨g₀, hg0⟩ := Option.isSome_iff_exists.mp h.top
  obtain ⟨r, hr⟩ := State.topJava?_eq_some.mp hg0
  have hr' : (({ U with heap := s₂.heap, slotsUsed := s₂.slotsUsed } : State).setVm s₂.vm).frames = .java g₀ :: r := hr
  rcases hq' with ⟨hqc, L, hfe, hL⟩ | ⟨q, rfl, E, ce, L, hx, hce, hcv, hcl, hW₂, hsm, hL⟩
  · obtain ⟨⟨v, rfl⟩, hW₂, e2, q2, q3, q4, q5, q6⟩ := id hfe
    have e3 : s₂ = ({ (U.calling g mk a).setFrames s₂.frames with heap := s₂.heap, slotsUsed := s₂.slotsUsed } : State).setVm s₂.vm := by
      have : s₂ = ({ s₂ with vm := (U.calling g mk a).vm } : State).setVm s₂.vm := rfl
      rw [e2] at this
      exact this
    obtain ⟨c₂, i₂, len₂, hc₂, hd₂, hf₂⟩ := hend
    have hW' : U.WarmedH s₂.vm := hW₂
    have hcc : c₂ = c := by
      have h1 : s₂.code? g.method = U.code? g.method := by
        rw [State.code?_eq, State.code?_eq, hW'.alike.method?]
      exact Option.some.inj (hc₂.symm.trans (h1.trans h.code))
    subst hcc
    have hlen : len₂ = len := by rw [hdg] at hd₂; cases hd₂; rfl
    subst hlen
    have hs₂ : s₂ = (({ U with heap := s₂.heap, slotsUsed := s₂.slotsUsed } : State).setVm s₂.vm).setTop { g with pc := g.pc + len₂, stack := v.toList ++ g.stack } := by
      refine e3.trans ?_
      rw [hf₂, State.calling_eq h.top, State.setFrames_setFrames, State.setTop_of_frames _ hr', hr]
      rfl
    have hsame : U.sameButNew ({ U with heap := s₂.heap, slotsUsed := s₂.slotsUsed } : State) L mc ms := by
      refine ⟨?_, q2, q3, q4, q5, q6⟩
      obtain ⟨t, ht, -⟩ := State.frames_cons hr
      show ({ U with heap := s₂.heap, slotsUsed := s₂.slotsUsed } : State) = { U.setFrames U.frames with heap := s₂.heap, slotsUsed := s₂.slotsUsed }
      rw [State.setFrames_self ht]
    subst hg
    refine Or.inl ⟨v, ⟨(({ U with heap := s₂.heap, slotsUsed := s₂.slotsUsed } : State).setVm s₂.vm), Ls ++ L, c0 + mc, s0 + ms⟩,
      ⟨X.admits, X.cas, X.clock, X.frames, X.room, X.hears, X.method, X.code, (X.here.setHeapUsed s₂.heap s₂.slotsUsed).setVm hW'.alike, X.tail, State.WarmedH.trans X.warmed hW', X.limits, X.bytes, X.same.trans (hsame.setVm s.vm)⟩,
      ⟨g, mk, s₂, L, rfl, rfl, hqc, rfl, hL, rfl, rfl⟩, ?_⟩
    show Steps p.tables e below _ ((({ U with heap := s₂.heap, slotsUsed := s₂.slotsUsed } : State).setVm s₂.vm).setTop { g with pc := g.pc + len₂, stack := v.toList ++ g.stack })
    rw [← hs₂]
    exact hsteps
  · obtain ⟨e2, q2, q3, q4, q5, q6⟩ := id hsm
    have e3 : s₂ = ({ (U.calling g mk a).setFrames s₂.frames with heap := s₂.heap, slotsUsed := s₂.slotsUsed } : State).setVm s₂.vm := by
      have : s₂ = ({ s₂ with vm := (U.calling g mk a).vm } : State).setVm s₂.vm := rfl
      rw [e2] at this
      exact this
    have hf₂ : s₂.frames = .throwing q :: .java g :: U.frames.tail := hend
    have hW' : U.WarmedH s₂.vm := hW₂
    have hs₂ : s₂ = ((({ U with heap := s₂.heap, slotsUsed := s₂.slotsUsed } : State).setVm s₂.vm).setTop g).pushFrame (.throwing q) := by
      refine e3.trans ?_
      rw [hf₂, State.calling_eq h.top, State.setFrames_setFrames, State.pushFrame, State.frames_setTop _ hr', State.setTop_of_frames _ hr', State.setFrames_setFrames, hr]
      rfl
    have hsame : U.sameButNew ({ U with heap := s₂.heap, slotsUsed := s₂.slotsUsed } : State) L mc ms := by
      refine ⟨?_, q2, q3, q4, q5, q6⟩
      obtain ⟨t, ht, -⟩ := State.frames_cons hr
      show ({ U with heap := s₂.heap, slotsUsed := s₂.slotsUsed } : State) = { U.setFrames U.frames with heap := s₂.heap, slotsUsed := s₂.slotsUsed }
      rw [State.setFrames_self ht]
    subst hg
    refine Or.inr ⟨q, ⟨(({ U with heap := s₂.heap, slotsUsed := s₂.slotsUsed } : State).setVm s₂.vm), Ls ++ L, c0 + mc, s0 + ms⟩,
      ⟨X.admits, X.cas, X.clock, X.frames, X.room, X.hears, X.method, X.code, (X.here.setHeapUsed s₂.heap s₂.slotsUsed).setVm hW'.alike, X.tail, State.WarmedH.trans X.warmed hW', X.limits, X.bytes, X.same.trans (hsame.setVm s.vm)⟩,
      ⟨g, mk, s₂, L, E, ce, rfl, rfl, hx, hce, hcv, hcl, rfl, hL, rfl, rfl⟩, ?_⟩
    show Steps p.tables e below _ (((({ U with heap := s₂.heap, slotsUsed := s₂.slotsUsed } : State).setVm s₂.vm).setTop g).pushFrame (.throwing q))
    rw [← hs₂]
    exact hsteps
end
variable {p : Program} {l : Launch} {e : Env} {R : Room} {s : State} {m : MethodId} {args : Array Value} {below : List Frame} {meth : Method} {c : Code} {T : State} {H : Heap} {locs : List Loc} {cells slots : Nat}
theorem vx_callVX (X : Stand p l e R s m args below meth c T locs cells slots) (hexec : p.tables.exec = Jvm.exec) {own C : String} {index : Nat} {y : MethodName} {bytes : ByteArray} {maxL : Nat} {ret : Option FieldType} {hh : List (Nat × Nat × Nat × Nat)}
    (hown : s.vm.findClass own = some m.cls) (hlink : (Cond.methodLink own index y).before args s = true) (hinst : (Cond.instanceMethod y).before args s = true) (hsel : (Cond.selects C y y).before args s = true)
    (hcode : (Cond.codeWith y bytes maxL ret hh).before args s = true) (hy : y.cls ≠ "java/lang/invoke/MethodHandle" ∧ y.cls ≠ "java/lang/invoke/VarHandle")
    {W9 : Nat} {Pre : Pt → Array Value → Prop} {Post : Pt → Array Value → Option Value → Pt → Prop} {PostX : Pt → Array Value → Addr → Pt → Prop} (hK : vx_Back l R p e below s args y 3 W9 Pre Post PostX)
    {b : Addr} {cellB : Cell} (hcell : T.heap[b]? = some cellB) (hobj : cellB.vm.isStatics = false) (hcls : s.vm.findClass C = some cellB.cls)
    {g : JFrame} (hg : g.method = m) (hsize : g.locals.size = c.maxLocals) {argsL rest : List Value} (hlen : ∀ sig, parseMethodDescriptor y.desc = some sig → argsL.length = sig.parameters.length)
    (hstack : g.stack = argsL.reverse ++ .ref b :: rest) (hW : 2 * g.monitorRoom + (rest.map fun v => v.category).sum ≤ W9) (hdg : decode c.code g.pc = .ok (.invokevirtual index, 3))
    (hpre : ∀ vm₁, s.WarmedH vm₁ → Pre ⟨T.setVm vm₁, locs, cells, slots⟩ (Value.ref b :: argsL).toArray) :
    (∃ (v : Option Value) (vm₁ : Vm) (B : Pt), s.WarmedH vm₁ ∧ Stand p l e R s m args below meth c B.U B.locs B.cells B.slots ∧ Post ⟨T.setVm vm₁, locs, cells, slots⟩ (Value.ref b :: argsL).toArray v B ∧
      ∀ target, Steps p.tables e below (B.U.setTop { g with pc := g.pc + 3, stack := v.toList ++ rest }) target → Steps p.tables e below (T.setTop g) target) ∨
    (∃ (q : Addr) (vm₁ : Vm) (B : Pt), s.WarmedH vm₁ ∧ Stand p l e R s m args below meth c B.U B.locs B.cells B.slots ∧ PostX ⟨T.setVm vm₁, locs, cells, slots⟩ (Value.ref b :: argsL).toArray q B ∧
      Steps p.tables e below (T.setTop g) ((B.U.setTop { g with stack := rest }).pushFrame (.throwing q))) := by
  obtain ⟨mk, methM, hnamed, hmethM, hstM, habM⟩ := Cond.instanceMethod_spec hinst
  obtain ⟨m8, methM', cM, hn8, hmethM', -, -, -, -, -, -, hsigM⟩ := Cond.codeWith_spec hcode
  cases Option.some.inj (hn8.symm.trans hnamed)
  cases hmethM.symm.trans hmethM'
  obtain ⟨c2, r2, m2, q1, q2, q3, q4, kP, hkP, hkPi⟩ := Cond.selects_spec hsel
  cases hcls.symm.trans q1
  cases (State.methodFound?_of_named hnamed hy).symm.trans q2
  cases hnamed.symm.trans q3
  have hselP : selectMethod e.platform s.vm cellB.cls mk = .method mk := by rw [Launch.admits_selectMethod X.admits]; exact q4
  obtain ⟨vm₁, X₁, hstep₁⟩ := X.invokevirtual hexec hown hlink hnamed hmethM hstM hkP hkPi hy (a := b) (cell := cellB) hcell
    (fun z h => by rw [h] at hobj; cases hobj) hselP hmethM habM hkP hkPi (g := g) hg (argsL := argsL) (rest := rest) (hlen _ hsigM) hstack hdg
  rcases hK m meth c ⟨T.setVm vm₁, locs, cells, slots⟩ { g with stack := rest } (.invokevirtual index) mk (Value.ref b :: argsL).toArray X₁ hg hsize hdg hW (X₁.named hnamed) (hpre vm₁ X₁.warmed) with ⟨v, B, X', hpost, hsteps⟩ | ⟨q, B, X', hpost, hsteps⟩
  · exact Or.inl ⟨v, vm₁, B, X₁.warmed, X', hpost, fun target h => hstep₁ _ fun acts => by rw [doInvoke_state]; exact hsteps.trans h⟩
  · exact Or.inr ⟨q, vm₁, B, X₁.warmed, X', hpost, hstep₁ _ fun acts => by rw [doInvoke_state]; exact hsteps⟩
theorem vx_callSX (X : Stand p l e R s m args below meth c T locs cells slots) (hexec : p.tables.exec = Jvm.exec) {own : String} {index : Nat} {y : MethodName} {bytes : ByteArray} {maxL : Nat} {ret : Option FieldType} {hh : List (Nat × Nat × Nat × Nat)}
    (hown : s.vm.findClass own = some m.cls) (hlink : (Cond.methodLink own index y).before args s = true) (hstat : (Cond.static y).before args s = true) (hinit : (Cond.initialized y.cls).before args s = true)
    (hcode : (Cond.codeWith y bytes maxL ret hh).before args s = true) (hy : y.cls ≠ "java/lang/invoke/MethodHandle" ∧ y.cls ≠ "java/lang/invoke/VarHandle")
    {W9 : Nat} {Pre : Pt → Array Value → Prop} {Post : Pt → Array Value → Option Value → Pt → Prop} {PostX : Pt → Array Value → Addr → Pt → Prop} (hK : vx_Back l R p e below s args y 3 W9 Pre Post PostX)
    {g : JFrame} (hg : g.method = m) (hsize : g.locals.size = c.maxLocals) {argsL rest : List Value} (hlen : ∀ sig, parseMethodDescriptor y.desc = some sig → argsL.length = sig.parameters.length)
    (hstack : g.stack = argsL.reverse ++ rest) (hW : 2 * g.monitorRoom + (rest.map fun v => v.category).sum ≤ W9) (hdg : decode c.code g.pc = .ok (.invokestatic index, 3))
    (hpre : ∀ vm₁, s.WarmedH vm₁ → Pre ⟨T.setVm vm₁, locs, cells, slots⟩ argsL.toArray) :
    (∃ (v : Option Value) (vm₁ : Vm) (B : Pt), s.WarmedH vm₁ ∧ Stand p l e R s m args below meth c B.U B.locs B.cells B.slots ∧ Post ⟨T.setVm vm₁, locs, cells, slots⟩ argsL.toArray v B ∧
      ∀ target, Steps p.tables e below (B.U.setTop { g with pc := g.pc + 3, stack := v.toList ++ rest }) target → Steps p.tables e below (T.setTop g) target) ∨
    (∃ (q : Addr) (vm₁ : Vm) (B : Pt), s.WarmedH vm₁ ∧ Stand p l e R s m args below meth c B.U B.locs B.cells B.slots ∧ PostX ⟨T.setVm vm₁, locs, cells, slots⟩ argsL.toArray q B ∧
      Steps p.tables e below (T.setTop g) ((B.U.setTop { g with stack := rest }).pushFrame (.throwing q))) := by
  obtain ⟨mk, methM, cM, hnamed, hmethM, -, -, -, -, -, -, hsigM⟩ := Cond.codeWith_spec hcode
  have hstatic : methM.isStatic = true := Cond.static_spec hnamed hmethM hstat
  obtain ⟨kP, hkP, -⟩ := className_of_methodNamed hnamed
  have hinitP : kP.init = .initialized := Cond.initialized_spec (findClass_of_methodNamed hnamed) hkP hinit
  obtain ⟨vm₁, X₁, hstep₁⟩ := X.invokestatic hexec hown hlink hnamed hmethM hstatic hkP hinitP hy (g := g) hg (argsL := argsL) (rest := rest) (hlen _ hsigM) hstack hdg
  rcases hK m meth c ⟨T.setVm vm₁, locs, cells, slots⟩ { g with stack := rest } (.invokestatic index) mk argsL.toArray X₁ hg hsize hdg hW (X₁.named hnamed) (hpre vm₁ X₁.warmed) with ⟨v, B, X', hpost, hsteps⟩ | ⟨q, B, X', hpost, hsteps⟩
  · exact Or.inl ⟨v, vm₁, B, X₁.warmed, X', hpost, fun target h => hstep₁ _ fun acts => by rw [doInvoke_state]; exact hsteps.trans h⟩
  · exact Or.inr ⟨q, vm₁, B, X₁.warmed, X', hpost, hstep₁ _ fun acts => by rw [doInvoke_state]; exact hsteps⟩
theorem vx_callVW (X : Stand p l e R s m args below meth c T locs cells slots) (hexec : p.tables.exec = Jvm.exec) {own C : String} {index : Nat} {y : MethodName} {bytes : ByteArray} {maxL : Nat} {ret : Option FieldType} {hh : List (Nat × Nat × Nat × Nat)}
    (hown : s.vm.findClass own = some m.cls) (hlink : (Cond.methodLink own index y).before args s = true) (hinst : (Cond.instanceMethod y).before args s = true) (hsel : (Cond.selects C y y).before args s = true)
    (hcode : (Cond.codeWith y bytes maxL ret hh).before args s = true) (hy : y.cls ≠ "java/lang/invoke/MethodHandle" ∧ y.cls ≠ "java/lang/invoke/VarHandle")
    {W9 : Nat} {Pre : Pt → Array Value → Prop} {Post : Pt → Array Value → Option Value → Pt → Prop} (hK : Back l R p e below s args y 3 W9 Pre Post)
    {b : Addr} {cellB : Cell} (hcell : T.heap[b]? = some cellB) (hobj : cellB.vm.isStatics = false) (hcls : s.vm.findClass C = some cellB.cls)
    {g : JFrame} (hg : g.method = m) (hsize : g.locals.size = c.maxLocals) {argsL rest : List Value} (hlen : ∀ sig, parseMethodDescriptor y.desc = some sig → argsL.length = sig.parameters.length)
    (hstack : g.stack = argsL.reverse ++ .ref b :: rest) (hW : 2 * g.monitorRoom + (rest.map fun v => v.category).sum ≤ W9) (hdg : decode c.code g.pc = .ok (.invokevirtual index, 3))
    (hpre : ∀ vm₁, s.WarmedH vm₁ → Pre ⟨T.setVm vm₁, locs, cells, slots⟩ (Value.ref b :: argsL).toArray) :
    ∃ (v : Option Value) (vm₁ : Vm) (B : Pt), s.WarmedH vm₁ ∧ Stand p l e R s m args below meth c B.U B.locs B.cells B.slots ∧ Post ⟨T.setVm vm₁, locs, cells, slots⟩ (Value.ref b :: argsL).toArray v B ∧
      ∀ target, Steps p.tables e below (B.U.setTop { g with pc := g.pc + 3, stack := v.toList ++ rest }) target → Steps p.tables e below (T.setTop g) target := by
  obtain ⟨mk, methM, hnamed, hmethM, hstM, habM⟩ := Cond.instanceMethod_spec hinst
  obtain ⟨m8, methM', cM, hn8, hmethM', -, -, -, -, -, -, hsigM⟩ := Cond.codeWith_spec hcode
  cases Option.some.inj (hn8.symm.trans hnamed)
  cases hmethM.symm.trans hmethM'
  obtain ⟨c2, r2, m2, q1, q2, q3, q4, kP, hkP, hkPi⟩ := Cond.selects_spec hsel
  cases hcls.symm.trans q1
  cases (State.methodFound?_of_named hnamed hy).symm.trans q2
  cases hnamed.symm.trans q3
  have hselP : selectMethod e.platform s.vm cellB.cls mk = .method mk := by rw [Launch.admits_selectMethod X.admits]; exact q4
  obtain ⟨vm₁, X₁, hstep₁⟩ := X.invokevirtual hexec hown hlink hnamed hmethM hstM hkP hkPi hy (a := b) (cell := cellB) hcell
    (fun z h => by rw [h] at hobj; cases hobj) hselP hmethM habM hkP hkPi (g := g) hg (argsL := argsL) (rest := rest) (hlen _ hsigM) hstack hdg
  obtain ⟨v, B, X', hpost, hsteps⟩ := hK m meth c ⟨T.setVm vm₁, locs, cells, slots⟩ { g with stack := rest } (.invokevirtual index) mk (Value.ref b :: argsL).toArray X₁ hg hsize hdg hW (X₁.named hnamed) (hpre vm₁ X₁.warmed)
  exact ⟨v, vm₁, B, X₁.warmed, X', hpost, fun target h => hstep₁ _ fun acts => by rw [doInvoke_state]; exact hsteps.trans h⟩
abbrev vx_CVW (R : Room) (s : State) (args : Array Value) (own C : String) (index : Nat) (y : MethodName) (bytes : ByteArray) (maxL : Nat) (ret : Option FieldType) (hh : List (Nat × Nat × Nat × Nat)) (ws : List Cond) (rm : Room) (mc ms n : Nat) : Prop :=
  (rm.cells = mc ∧ rm.slots = ms ∧ rm.frames + 1 ≤ R.frames ∧ 8 + (maxL + 11) + rm.locals ≤ R.locals ∧ (∀ w ∈ ws, ∀ (a' : Array Value) (U : State), s.WarmedH U.vm → w.before a' U = true) ∧ Cond.codeWith y bytes maxL ret hh ∈ ws) ∧
  (Cond.codeWith y bytes maxL ret hh).before args s = true ∧ (Cond.initialized y.cls).before args s = true ∧ (y.cls ≠ "java/lang/invoke/MethodHandle" ∧ y.cls ≠ "java/lang/invoke/VarHandle") ∧
  (∀ sig, parseMethodDescriptor y.desc = some sig → n = sig.parameters.length) ∧ (Cond.methodLink own index y).before args s = true ∧ (Cond.instanceMethod y).before args s = true ∧ (Cond.selects C y y).before args s = true
theorem vx_cwVW {own C : String} {index maxL mc ms : Nat} {y : MethodName} {bytes : ByteArray} {ret : Option FieldType} {hh : List (Nat × Nat × Nat × Nat)} {Ts ws ws' : List Cond} {rm : Room} (n : Nat) (ht : ∀ w ∈ Ts, w.before args s = true) (hT : GoodIn Ts (wsV own index C y ws)) (hw : ws = Cond.codeWith y bytes maxL ret hh :: ws') (hrc : rm.cells = mc) (hrs : rm.slots = ms)
    (hd : y.cls = C ∧ y.cls ≠ "java/lang/invoke/MethodHandle" ∧ y.cls ≠ "java/lang/invoke/VarHandle" ∧ (parseMethodDescriptor y.desc).map (fun d => d.parameters.length) = some n) (hR : rm.frames + 1 ≤ R.frames ∧ 8 + (maxL + 11) + rm.locals ≤ R.locals) :
    vx_CVW R s args own C index y bytes maxL ret hh ws rm mc ms n := by
  obtain ⟨hC, hd⟩ := hd
  subst hC
  have ok : ∀ w ∈ wsV own index y.cls y ws, w.before args s = true := fun w h => ht w (hT w h).1
  have hG : GoodIn Ts ws := fun w h => hT w (by unfold wsV; exact List.mem_append_right _ h)
  have hc : Cond.codeWith y bytes maxL ret hh ∈ ws := by rw [hw]; exact List.mem_cons_self
  refine ⟨⟨hrc, hrs, hR.1, hR.2, pay_in ht hG, hc⟩, ht _ (hG _ hc).1, ok _ (by simp [wsV]), ⟨hd.1, hd.2.1⟩, fun sig h => ?_, ok _ (by simp [wsV]), ok _ (by simp [wsV]), ok _ (by simp [wsV])⟩
  have h2 := hd.2.2
  rw [h] at h2
  exact (Option.some.inj h2).symm
theorem vx_runVW {y : MethodName} {bytes cc : ByteArray} {maxL nL mc ms n index : Nat} {ret : Option FieldType} {hh : List (Nat × Nat × Nat × Nat)} {ws : List Cond} {rm : Room} {Pc : Array Value → State → Prop} {Qc : Array Value → State → Outcome → State → Prop} {free : Addr → Prop} {Ts : List Cond} {own C : String} {b : Addr} {As rest : List Value} {g : JFrame}
    (S : CallFix p m c cc nL s args Ts own) (hM : Met l y ws rm Pc Qc mc ms free) (cw : vx_CVW R s args own C index y bytes maxL ret hh ws rm mc ms n) (hp : PreV s H C b Pc As)
    (hg : g.method = m) (hn : As.length = n) (hsize : g.locals.size = nL) (hstack : g.stack = As.reverse ++ .ref b :: rest) (hW : 2 * g.monitorRoom + (rest.map fun v => v.category).sum ≤ 8) (hdg : decode cc g.pc = .ok (.invokevirtual index, 3)) (hf : cells + mc ≤ R.cells ∧ slots + ms ≤ R.slots) :
    va_Run p l e R s m args below meth c H locs cells slots mc ms g rest (Qc (Value.ref b :: As).toArray) free := by
  obtain ⟨⟨hrc, hrs, hfr, hlo, hws, hcw⟩, hcode, hini, hy, hlen, hl, hin, hse⟩ := cw
  have hK : Back l R p e below s args y 3 8 (PreOf R mc ms Pc) (PostOf Qc mc ms free) := va_backW (hh := hh) (bytes := bytes) (maxL := maxL) (ret := ret) hM hp.1 hrc hrs hfr hlo hws hcw (fun a' U hW => word_at hW (Or.inl (by first | rfl | simp [Cond.onTables, Cond.keeps, Cond.steady])) hini)
  obtain ⟨hx, hb, hml, ho, -⟩ := S
  obtain ⟨-, ⟨cellB, hcB, hoB, hclB⟩, hPc⟩ := hp
  intro T hT X
  obtain ⟨v, vm₁, ⟨U', l2, c2, s2⟩, hW₁, X', ⟨g', mk, t, L, e1, e2, hq, h1, hL, h2, h3⟩, st⟩ := vx_callVW X hx (C := C) (hh := hh) (bytes := bytes) (maxL := maxL) (ret := ret) ho hl hin hse hcode hy hK (by rw [hT]; exact hcB) hoB hclB hg (hsize.trans hml.symm) (argsL := As) (rest := rest) (fun sig h => hn.trans (hlen sig h)) hstack hW (by rw [hb]; exact hdg)
    (fun vm₁ hW₁ => ⟨hf.1, hf.2, hPc (T.setVm vm₁) hT hW₁⟩)
  dsimp only [Pt.U, Pt.locs, Pt.cells, Pt.slots] at X' e1 e2 h1 h2 h3 st
  subst h1; subst h2; subst h3
  exact ⟨v, (T.setVm vm₁).calling g' mk (Value.ref b :: As).toArray, t, U', L, hT, X', hL, e1, e2, hq, st⟩
section
variable {y : MethodName} {bytes cc : ByteArray} {maxL nL mc ms n index : Nat} {ret : Option FieldType} {ws : List Cond} {rm : Room} {Pc : Array Value → State → Prop} {Qc : Array Value → State → Outcome → State → Prop} {XC : String → State → State → Prop} {free : Addr → Prop} {Ts : List Cond} {own C : String} {b : Addr} {As rest : List Value} {g : JFrame}
theorem vx_runVX {hh : List (Nat × Nat × Nat × Nat)} (S : CallFix p m c cc nL s args Ts own) (hM : vx_Met l y ws rm Pc Qc XC mc ms free) (cw : vx_CVW R s args own C index y bytes maxL ret hh ws rm mc ms n) (hp : PreV s H C b Pc As)
    (hg : g.method = m) (hn : As.length = n) (hsize : g.locals.size = nL) (hstack : g.stack = As.reverse ++ .ref b :: rest) (hW : 2 * g.monitorRoom + (rest.map fun v => v.category).sum ≤ 8) (hdg : decode cc g.pc = .ok (.invokevirtual index, 3)) (hf : cells + mc ≤ R.cells ∧ slots + ms ≤ R.slots) :
    vx_Run p l e R s m args below meth c H locs cells slots mc ms g rest (Qc (Value.ref b :: As).toArray) XC free := by
  obtain ⟨⟨hrc, hrs, hfr, hlo, hws, hcw⟩, hcode, hini, hy, hlen, hl, hin, hse⟩ := cw
  have hK : vx_Back l R p e below s args y 3 8 (PreOf R mc ms Pc) (PostOf Qc mc ms free) (vx_Post XC mc ms free) := vx_backW (hh := hh) (bytes := bytes) (maxL := maxL) (ret := ret) hM hp.1 hrc hrs hfr hlo hws hcw (fun a' U hW => word_at hW (Or.inl (by first | rfl | simp [Cond.onTables, Cond.keeps, Cond.steady])) hini)
  obtain ⟨hx, hb, hml, ho, -⟩ := S
  obtain ⟨-, ⟨cellB, hcB, hoB, hclB⟩, hPc⟩ := hp
  intro T hT X
  rcases vx_callVX X hx (C := C) (hh := hh) (bytes := bytes) (maxL := maxL) (ret := ret) ho hl hin hse hcode hy hK (by rw [hT]; exact hcB) hoB hclB hg (hsize.trans hml.symm) (argsL := As) (rest := rest) (fun sig h => hn.trans (hlen sig h)) hstack hW (by rw [hb]; exact hdg)
    (fun vm₁ hW₁ => ⟨hf.1, hf.2, hPc (T.setVm vm₁) hT hW₁⟩) with ⟨v, vm₁, ⟨U', l2, c2, s2⟩, hW₁, X', ⟨g', mk, t, L, e1, e2, hq, h1, hL, h2, h3⟩, st⟩ | ⟨q, vm₁, ⟨U', l2, c2, s2⟩, hW₁, X', ⟨g', mk, t, L, E, ce, e1, e2, hq, hce, hcv, hcl, h1, hL, h2, h3⟩, st⟩
  · dsimp only [Pt.U, Pt.locs, Pt.cells, Pt.slots] at X' e1 e2 h1 h2 h3 st
    subst h1; subst h2; subst h3
    exact Or.inl ⟨v, (T.setVm vm₁).calling g' mk (Value.ref b :: As).toArray, t, U', L, hT, X', hL, e1, e2, hq, st⟩
  · dsimp only [Pt.U, Pt.locs, Pt.cells, Pt.slots] at X' e1 e2 h1 h2 h3 st hcl
    subst h1; subst h2; subst h3
    exact Or.inr ⟨q, (T.setVm vm₁).calling g' mk (Value.ref b :: As).toArray, t, U', L, E, ce, hT, X', hL, e1, e2, hq, hce, hcv, vx_cls hW₁ hcl, st⟩
theorem vx_runSX {hh : List (Nat × Nat × Nat × Nat)} (S : CallFix p m c cc nL s args Ts own) (hM : vx_Met l y ws rm Pc Qc XC mc ms free) (cw : vx_CSW R s args own index y bytes maxL ret hh ws rm mc ms n) (hp : PreS s H Pc As)
    (hg : g.method = m) (hn : As.length = n) (hsize : g.locals.size = nL) (hstack : g.stack = As.reverse ++ rest) (hW : 2 * g.monitorRoom + (rest.map fun v => v.category).sum ≤ 8) (hdg : decode cc g.pc = .ok (.invokestatic index, 3)) (hf : cells + mc ≤ R.cells ∧ slots + ms ≤ R.slots) :
    vx_Run p l e R s m args below meth c H locs cells slots mc ms g rest (Qc As.toArray) XC free := by
  obtain ⟨⟨hrc, hrs, hfr, hlo, hws, hcw⟩, hcode, hini, hy, hlen, hl, hstt⟩ := cw
  have hK : vx_Back l R p e below s args y 3 8 (PreOf R mc ms Pc) (PostOf Qc mc ms free) (vx_Post XC mc ms free) := vx_backW (hh := hh) (bytes := bytes) (maxL := maxL) (ret := ret) hM hp.1 hrc hrs hfr hlo hws hcw (fun a' U hW => word_at hW (Or.inl (by first | rfl | simp [Cond.onTables, Cond.keeps, Cond.steady])) hini)
  obtain ⟨hx, hb, hml, ho, -⟩ := S
  intro T hT X
  rcases vx_callSX X hx (hh := hh) (bytes := bytes) (maxL := maxL) (ret := ret) ho hl hstt hini hcode hy hK hg (hsize.trans hml.symm) (argsL := As) (rest := rest) (fun sig h => hn.trans (hlen sig h)) hstack hW (by rw [hb]; exact hdg)
    (fun vm₁ hW₁ => ⟨hf.1, hf.2, hp.2 (T.setVm vm₁) hT hW₁⟩) with ⟨v, vm₁, ⟨U', l2, c2, s2⟩, hW₁, X', ⟨g', mk, t, L, e1, e2, hq, h1, hL, h2, h3⟩, st⟩ | ⟨q, vm₁, ⟨U', l2, c2, s2⟩, hW₁, X', ⟨g', mk, t, L, E, ce, e1, e2, hq, hce, hcv, hcl, h1, hL, h2, h3⟩, st⟩
  · dsimp only [Pt.U, Pt.locs, Pt.cells, Pt.slots] at X' e1 e2 h1 h2 h3 st
    subst h1; subst h2; subst h3
    exact Or.inl ⟨v, (T.setVm vm₁).calling g' mk As.toArray, t, U', L, hT, X', hL, e1, e2, hq, st⟩
  · dsimp only [Pt.U, Pt.locs, Pt.cells, Pt.slots] at X' e1 e2 h1 h2 h3 st hcl
    subst h1; subst h2; subst h3
    exact Or.inr ⟨q, (T.setVm vm₁).calling g' mk As.toArray, t, U', L, E, ce, hT, X', hL, e1, e2, hq, hce, hcv, vx_cls hW₁ hcl, st⟩
end
end VXH
theorem vx_ofWH {l : Launch} {y : MethodName} {ws ws' : List Cond} {rm : Room} {Pc : Array Value → State → Prop} {Qc : Array Value → State → Outcome → State → Prop} {XC : String → State → State → Prop} {mc ms : Nat} {free : Addr → Prop} {cc : ByteArray} {maxL : Nat} {ret : Option FieldType} {hh : List (Nat × Nat × Nat × Nat)}
    (hy : plainName y.cls = true) (hw : ws = Cond.codeWith y cc maxL ret hh :: ws')
    (body : ∀ p e s m args below meth c s₁, BodyLoose p l y (headSpec ws rm) cc maxL ret e s m args below meth c s₁ → c.maxLocals = maxL → Pc args s →
      W p l e (headSpec ws rm).room s m args below meth c s.heap [] 0 0 (vx_MQ below Qc XC args s mc ms free) (entryFrame m args maxL)) : vx_Met l y ws rm Pc Qc XC mc ms free := by
  refine MetFree.of_bodyS (code := cc) (maxLocals := maxL) (ret := ret) hy ?_ ?_
  · intro args s m h hn
    obtain ⟨m9, meth, c, hn9, h1, h2, h3, h4, -, h5, h6, -⟩ := Cond.codeWith_spec (atoms_spec (ws := ws) h _ (by rw [hw]; exact List.mem_cons_self))
    cases hn.symm.trans hn9
    exact ⟨meth, c, h1, h2, h3, h4, h5, h6⟩
  · intro p e s m args below meth c s₁ B hml hP _
    have hh0 : s₁.heap = s.heap := by rw [B.state]; rfl
    obtain ⟨t, a1, o, b1, b2, b3⟩ := body p e s m args below meth c s₁ B hml hP s₁ hh0 (Stand.of_body B)
    exact ⟨t, o, a1, b1, b2, b3⟩
/-! ===== END ===== -/
end
section
def RX0 : String := "Portinghall$Centre"
def TX0 : u_T := fun k => match k with
  | 0 => ("Portinghall$Centre", "minutes", "[I", true)
  | 1 => ("Portinghall$Centre", "numbers", "[I", true)
  | 2 => ("Portinghall$Centre", "places", "[I", true)
  | 3 => ("Portinghall$Centre", "count", "I", false)
  | 4 => ("Portinghall$Centre", "learned", "[I", true)
  | _ => ("Portinghall$Centre", "tables", "[[I", true)
def tyX0 : Nat → FieldType := fun k => match k with
  | 0 => .array .int
  | 1 => .array .int
  | 2 => .array .int
  | 3 => .int
  | 4 => .array .int
  | _ => .array (.array .int)
abbrev wsX00 : List Cond := u_ws RX0 TX0 6
theorem nmX0 : ∀ a, a < 6 → ∀ b, b < 6 → a ≠ b → (TX0 a).2.1 ≠ (TX0 b).2.1 := by decide +kernel
theorem tyX0_ok : ∀ k, k < 6 → parseFieldDescriptor (TX0 k).2.2.1 = some (tyX0 k) := by decide +kernel
abbrev cX0_init : ByteArray := prog_2_method_1_code
def yX0_init : MethodName := ⟨RX0, "<init>", "()V"⟩
abbrev cX0_add : ByteArray := prog_2_method_2_code
def yX0_add : MethodName := ⟨RX0, "add", "(III)V"⟩
abbrev cX0_countUnknown : ByteArray := prog_2_method_3_code
def yX0_countUnknown : MethodName := ⟨RX0, "countUnknown", "(I)I"⟩
abbrev cX0_learnAll : ByteArray := prog_2_method_4_code
def yX0_learnAll : MethodName := ⟨RX0, "learnAll", "(I)V"⟩
abbrev cX0_learnUpTo : ByteArray := prog_2_method_5_code
def yX0_learnUpTo : MethodName := ⟨RX0, "learnUpTo", "(II)V"⟩
def RX1 : String := "Portinghall$Contracts"
def TX1 : u_T := fun k => match k with
  | 0 => ("Portinghall$Contracts", "server", "[I", true)
  | 1 => ("Portinghall$Contracts", "secret", "[I", true)
  | 2 => ("Portinghall$Contracts", "quarantineUntil", "[I", true)
  | 3 => ("Portinghall$Contracts", "silentUntil", "[I", true)
  | 4 => ("Portinghall$Contracts", "callBackUntil", "[I", true)
  | _ => ("Portinghall$Contracts", "lastOrder", "[I", true)
def tyX1 : Nat → FieldType := fun k => match k with
  | 0 => .array .int
  | 1 => .array .int
  | 2 => .array .int
  | 3 => .array .int
  | 4 => .array .int
  | _ => .array .int
abbrev wsX10 : List Cond := u_ws RX1 TX1 6
theorem nmX1 : ∀ a, a < 6 → ∀ b, b < 6 → a ≠ b → (TX1 a).2.1 ≠ (TX1 b).2.1 := by decide +kernel
theorem tyX1_ok : ∀ k, k < 6 → parseFieldDescriptor (TX1 k).2.2.1 = some (tyX1 k) := by decide +kernel
abbrev cX1_init : ByteArray := prog_3_method_1_code
def yX1_init : MethodName := ⟨RX1, "<init>", "()V"⟩
abbrev cX1_isInUse : ByteArray := prog_3_method_2_code
def yX1_isInUse : MethodName := ⟨RX1, "isInUse", "(I)Z"⟩
abbrev cX1_isInQuarantine : ByteArray := prog_3_method_3_code
def yX1_isInQuarantine : MethodName := ⟨RX1, "isInQuarantine", "(II)Z"⟩
abbrev cX1_isSilent : ByteArray := prog_3_method_4_code
def yX1_isSilent : MethodName := ⟨RX1, "isSilent", "(II)Z"⟩
abbrev cX1_mayBeCalledBack : ByteArray := prog_3_method_5_code
def yX1_mayBeCalledBack : MethodName := ⟨RX1, "mayBeCalledBack", "(II)Z"⟩
abbrev cX1_begin : ByteArray := prog_3_method_6_code
def yX1_begin : MethodName := ⟨RX1, "begin", "(III)V"⟩
abbrev cX1_finish : ByteArray := prog_3_method_7_code
def yX1_finish : MethodName := ⟨RX1, "finish", "(II)V"⟩
abbrev cX1_countServedBy : ByteArray := prog_3_method_8_code
def yX1_countServedBy : MethodName := ⟨RX1, "countServedBy", "(I)I"⟩
def RX2 : String := "Portinghall$Firms"
def TX2 : u_T := fun k => match k with
  | 0 => ("Portinghall$Firms", "gone", "[Z", true)
  | 1 => ("Portinghall$Firms", "down", "[Z", true)
  | 2 => ("Portinghall$Firms", "lag", "[I", true)
  | _ => ("Portinghall$Firms", "account", "[I", true)
def tyX2 : Nat → FieldType := fun k => match k with
  | 0 => .array .boolean
  | 1 => .array .boolean
  | 2 => .array .int
  | _ => .array .int
abbrev wsX20 : List Cond := u_ws RX2 TX2 4
theorem nmX2 : ∀ a, a < 4 → ∀ b, b < 4 → a ≠ b → (TX2 a).2.1 ≠ (TX2 b).2.1 := by decide +kernel
theorem tyX2_ok : ∀ k, k < 4 → parseFieldDescriptor (TX2 k).2.2.1 = some (tyX2 k) := by decide +kernel
abbrev cX2_init : ByteArray := prog_4_method_1_code
def yX2_init : MethodName := ⟨RX2, "<init>", "()V"⟩
abbrev cX2_pay : ByteArray := prog_4_method_2_code
def yX2_pay : MethodName := ⟨RX2, "pay", "(III)V"⟩
def RX3 : String := "Portinghall$History"
def TX3 : u_T := fun k => match k with
  | 0 => ("Portinghall$History", "isFirmsEnd", "[Z", true)
  | 1 => ("Portinghall$History", "subject", "[I", true)
  | 2 => ("Portinghall$History", "successor", "[I", true)
  | _ => ("Portinghall$History", "count", "I", false)
def tyX3 : Nat → FieldType := fun k => match k with
  | 0 => .array .boolean
  | 1 => .array .int
  | 2 => .array .int
  | _ => .int
abbrev wsX30 : List Cond := u_ws RX3 TX3 4
theorem nmX3 : ∀ a, a < 4 → ∀ b, b < 4 → a ≠ b → (TX3 a).2.1 ≠ (TX3 b).2.1 := by decide +kernel
theorem tyX3_ok : ∀ k, k < 4 → parseFieldDescriptor (TX3 k).2.2.1 = some (tyX3 k) := by decide +kernel
abbrev cX3_init : ByteArray := prog_5_method_1_code
def yX3_init : MethodName := ⟨RX3, "<init>", "()V"⟩
abbrev cX3_serves : ByteArray := prog_5_method_2_code
def yX3_serves : MethodName := ⟨RX3, "serves", "(II)V"⟩
abbrev cX3_firmEnds : ByteArray := prog_5_method_3_code
def yX3_firmEnds : MethodName := ⟨RX3, "firmEnds", "(II)V"⟩
abbrev cX3_note : ByteArray := prog_5_method_4_code
def yX3_note : MethodName := ⟨RX3, "note", "(ZII)V"⟩
abbrev cX3_replay : ByteArray := prog_5_method_5_code
def yX3_replay : MethodName := ⟨RX3, "replay", "(I)I"⟩
def RX4 : String := "Portinghall$Orders"
def TX4 : u_T := fun k => match k with
  | 0 => ("Portinghall$Orders", "state", "[I", true)
  | 1 => ("Portinghall$Orders", "reason", "[I", true)
  | 2 => ("Portinghall$Orders", "number", "[I", true)
  | 3 => ("Portinghall$Orders", "winner", "[I", true)
  | 4 => ("Portinghall$Orders", "donor", "[I", true)
  | 5 => ("Portinghall$Orders", "due", "[I", true)
  | _ => ("Portinghall$Orders", "count", "I", false)
def tyX4 : Nat → FieldType := fun k => match k with
  | 0 => .array .int
  | 1 => .array .int
  | 2 => .array .int
  | 3 => .array .int
  | 4 => .array .int
  | 5 => .array .int
  | _ => .int
abbrev wsX40 : List Cond := u_ws RX4 TX4 7
theorem nmX4 : ∀ a, a < 7 → ∀ b, b < 7 → a ≠ b → (TX4 a).2.1 ≠ (TX4 b).2.1 := by decide +kernel
theorem tyX4_ok : ∀ k, k < 7 → parseFieldDescriptor (TX4 k).2.2.1 = some (tyX4 k) := by decide +kernel
abbrev cX4_init : ByteArray := prog_6_method_1_code
def yX4_init : MethodName := ⟨RX4, "<init>", "()V"⟩
abbrev cX4_add : ByteArray := prog_6_method_2_code
def yX4_add : MethodName := ⟨RX4, "add", "(IIIII)I"⟩
abbrev cX4_waitingFor : ByteArray := prog_6_method_3_code
def yX4_waitingFor : MethodName := ⟨RX4, "waitingFor", "(I)I"⟩
abbrev cX4_countWaiting : ByteArray := prog_6_method_4_code
def yX4_countWaiting : MethodName := ⟨RX4, "countWaiting", "()I"⟩
abbrev cX4_countWaitingAt : ByteArray := prog_6_method_5_code
def yX4_countWaitingAt : MethodName := ⟨RX4, "countWaitingAt", "(I)I"⟩
abbrev cX4_cancelFor : ByteArray := prog_6_method_6_code
def yX4_cancelFor : MethodName := ⟨RX4, "cancelFor", "(I)V"⟩
abbrev cX4_cancelBy : ByteArray := prog_6_method_7_code
def yX4_cancelBy : MethodName := ⟨RX4, "cancelBy", "(I)V"⟩
abbrev cX4_putOff : ByteArray := prog_6_method_8_code
def yX4_putOff : MethodName := ⟨RX4, "putOff", "(I)V"⟩
def RX5 : String := "Portinghall$Route"
def TX5 : u_T := fun k => match k with
  | 0 => ("Portinghall$Route", "hops", "[I", true)
  | _ => ("Portinghall$Route", "length", "I", false)
def tyX5 : Nat → FieldType := fun k => match k with
  | 0 => .array .int
  | _ => .int
abbrev wsX50 : List Cond := u_ws RX5 TX5 2
theorem nmX5 : ∀ a, a < 2 → ∀ b, b < 2 → a ≠ b → (TX5 a).2.1 ≠ (TX5 b).2.1 := by decide +kernel
theorem tyX5_ok : ∀ k, k < 2 → parseFieldDescriptor (TX5 k).2.2.1 = some (tyX5 k) := by decide +kernel
abbrev cX5_init : ByteArray := prog_7_method_1_code
def yX5_init : MethodName := ⟨RX5, "<init>", "()V"⟩
abbrev cX5_begin : ByteArray := prog_7_method_2_code
def yX5_begin : MethodName := ⟨RX5, "begin", "(I)V"⟩
abbrev cX5_add : ByteArray := prog_7_method_3_code
def yX5_add : MethodName := ⟨RX5, "add", "(I)V"⟩
abbrev cX5_hopAt : ByteArray := prog_7_method_4_code
def yX5_hopAt : MethodName := ⟨RX5, "hopAt", "(I)I"⟩
abbrev cX5_has : ByteArray := prog_7_method_5_code
def yX5_has : MethodName := ⟨RX5, "has", "(I)Z"⟩
def RX6 : String := "Portinghall"
def TX6 : u_T := fun k => match k with
  | 0 => ("Portinghall", "holders", "[I", true)
  | 1 => ("Portinghall", "firms", "LPortinghall$Firms;", true)
  | 2 => ("Portinghall", "contracts", "LPortinghall$Contracts;", true)
  | 3 => ("Portinghall", "orders", "LPortinghall$Orders;", true)
  | 4 => ("Portinghall", "centre", "LPortinghall$Centre;", true)
  | 5 => ("Portinghall", "history", "LPortinghall$History;", true)
  | 6 => ("Portinghall", "route", "LPortinghall$Route;", true)
  | _ => ("Portinghall", "now", "I", false)
def tyX6 : Nat → FieldType := fun k => match k with
  | 0 => .array .int
  | 1 => .object "Portinghall$Firms"
  | 2 => .object "Portinghall$Contracts"
  | 3 => .object "Portinghall$Orders"
  | 4 => .object "Portinghall$Centre"
  | 5 => .object "Portinghall$History"
  | 6 => .object "Portinghall$Route"
  | _ => .int
abbrev wsX60 : List Cond := u_ws RX6 TX6 8
theorem nmX6 : ∀ a, a < 8 → ∀ b, b < 8 → a ≠ b → (TX6 a).2.1 ≠ (TX6 b).2.1 := by decide +kernel
theorem tyX6_ok : ∀ k, k < 8 → parseFieldDescriptor (TX6 k).2.2.1 = some (tyX6 k) := by decide +kernel
abbrev cX6_init : ByteArray := prog_1_method_1_code
def yX6_init : MethodName := ⟨RX6, "<init>", "()V"⟩
abbrev cX6_give : ByteArray := prog_1_method_2_code
def yX6_give : MethodName := ⟨RX6, "give", "(II)I"⟩
abbrev cX6_giveBack : ByteArray := prog_1_method_3_code
def yX6_giveBack : MethodName := ⟨RX6, "giveBack", "(I)I"⟩
abbrev cX6_assign : ByteArray := prog_1_method_4_code
def yX6_assign : MethodName := ⟨RX6, "assign", "(II)I"⟩
abbrev cX6_end : ByteArray := prog_1_method_5_code
def yX6_end : MethodName := ⟨RX6, "end", "(I)I"⟩
abbrev cX6_swap : ByteArray := prog_1_method_6_code
def yX6_swap : MethodName := ⟨RX6, "swap", "(II)I"⟩
abbrev cX6_emergency : ByteArray := prog_1_method_7_code
def yX6_emergency : MethodName := ⟨RX6, "emergency", "(I)I"⟩
abbrev cX6_endFirm : ByteArray := prog_1_method_8_code
def yX6_endFirm : MethodName := ⟨RX6, "endFirm", "(II)I"⟩
abbrev cX6_order : ByteArray := prog_1_method_9_code
def yX6_order : MethodName := ⟨RX6, "order", "(IIII)I"⟩
abbrev cX6_cancel : ByteArray := prog_1_method_10_code
def yX6_cancel : MethodName := ⟨RX6, "cancel", "(I)I"⟩
abbrev cX6_reverse : ByteArray := prog_1_method_11_code
def yX6_reverse : MethodName := ⟨RX6, "reverse", "(I)I"⟩
abbrev cX6_pass : ByteArray := prog_1_method_12_code
def yX6_pass : MethodName := ⟨RX6, "pass", "(I)I"⟩
abbrev cX6_setLag : ByteArray := prog_1_method_13_code
def yX6_setLag : MethodName := ⟨RX6, "setLag", "(II)I"⟩
abbrev cX6_setDown : ByteArray := prog_1_method_14_code
def yX6_setDown : MethodName := ⟨RX6, "setDown", "(IZ)Z"⟩
abbrev cX6_correct : ByteArray := prog_1_method_15_code
def yX6_correct : MethodName := ⟨RX6, "correct", "(I)I"⟩
abbrev cX6_server : ByteArray := prog_1_method_16_code
def yX6_server : MethodName := ⟨RX6, "server", "(I)I"⟩
abbrev cX6_serverAnew : ByteArray := prog_1_method_17_code
def yX6_serverAnew : MethodName := ⟨RX6, "serverAnew", "(I)I"⟩
abbrev cX6_number : ByteArray := prog_1_method_18_code
def yX6_number : MethodName := ⟨RX6, "number", "(II)I"⟩
abbrev cX6_of : ByteArray := prog_1_method_19_code
def yX6_of : MethodName := ⟨RX6, "of", "(II)I"⟩
abbrev cX6_room : ByteArray := prog_1_method_20_code
def yX6_room : MethodName := ⟨RX6, "room", "(I)I"⟩
abbrev cX6_firm : ByteArray := prog_1_method_21_code
def yX6_firm : MethodName := ⟨RX6, "firm", "(II)I"⟩
abbrev cX6_known : ByteArray := prog_1_method_22_code
def yX6_known : MethodName := ⟨RX6, "known", "(II)I"⟩
abbrev cX6_audit : ByteArray := prog_1_method_23_code
def yX6_audit : MethodName := ⟨RX6, "audit", "(I)I"⟩
abbrev cX6_hop : ByteArray := prog_1_method_24_code
def yX6_hop : MethodName := ⟨RX6, "hop", "(IIII)I"⟩
abbrev cX6_why : ByteArray := prog_1_method_25_code
def yX6_why : MethodName := ⟨RX6, "why", "(III)I"⟩
abbrev cX6_dial : ByteArray := prog_1_method_26_code
def yX6_dial : MethodName := ⟨RX6, "dial", "(III)I"⟩
abbrev cX6_minute : ByteArray := prog_1_method_27_code
def yX6_minute : MethodName := ⟨RX6, "minute", "()I"⟩
abbrev cX6_isFirm : ByteArray := prog_1_method_28_code
def yX6_isFirm : MethodName := ⟨RX6, "isFirm", "(I)Z"⟩
abbrev cX6_isBlock : ByteArray := prog_1_method_29_code
def yX6_isBlock : MethodName := ⟨RX6, "isBlock", "(I)Z"⟩
abbrev cX6_requireFirm : ByteArray := prog_1_method_30_code
def yX6_requireFirm : MethodName := ⟨RX6, "requireFirm", "(I)V"⟩
abbrev cX6_requireNumber : ByteArray := prog_1_method_31_code
def yX6_requireNumber : MethodName := ⟨RX6, "requireNumber", "(I)V"⟩
abbrev cX6_requireOrder : ByteArray := prog_1_method_32_code
def yX6_requireOrder : MethodName := ⟨RX6, "requireOrder", "(I)V"⟩
abbrev cX6_requireSecret : ByteArray := prog_1_method_33_code
def yX6_requireSecret : MethodName := ⟨RX6, "requireSecret", "(I)V"⟩
abbrev cX6_requireWhat : ByteArray := prog_1_method_34_code
def yX6_requireWhat : MethodName := ⟨RX6, "requireWhat", "(II)V"⟩
abbrev cX6_requireWay : ByteArray := prog_1_method_35_code
def yX6_requireWay : MethodName := ⟨RX6, "requireWay", "(I)V"⟩
abbrev cX6_requireInUse : ByteArray := prog_1_method_36_code
def yX6_requireInUse : MethodName := ⟨RX6, "requireInUse", "(I)V"⟩
abbrev cX6_asInt : ByteArray := prog_1_method_37_code
def yX6_asInt : MethodName := ⟨RX6, "asInt", "(Z)I"⟩
abbrev cX6_holderOf : ByteArray := prog_1_method_38_code
def yX6_holderOf : MethodName := ⟨RX6, "holderOf", "(I)I"⟩
abbrev cX6_countBlocksOf : ByteArray := prog_1_method_39_code
def yX6_countBlocksOf : MethodName := ⟨RX6, "countBlocksOf", "(I)I"⟩
abbrev cX6_isBlockBusy : ByteArray := prog_1_method_40_code
def yX6_isBlockBusy : MethodName := ⟨RX6, "isBlockBusy", "(I)Z"⟩
abbrev cX6_inheritBlock : ByteArray := prog_1_method_41_code
def yX6_inheritBlock : MethodName := ⟨RX6, "inheritBlock", "(III)I"⟩
abbrev cX6_announceHeir : ByteArray := prog_1_method_42_code
def yX6_announceHeir : MethodName := ⟨RX6, "announceHeir", "(IIII)V"⟩
abbrev cX6_isInWindow : ByteArray := prog_1_method_43_code
def yX6_isInWindow : MethodName := ⟨RX6, "isInWindow", "(I)Z"⟩
abbrev cX6_reasonToReject : ByteArray := prog_1_method_44_code
def yX6_reasonToReject : MethodName := ⟨RX6, "reasonToReject", "(IIII)I"⟩
abbrev cX6_canReverse : ByteArray := prog_1_method_45_code
def yX6_canReverse : MethodName := ⟨RX6, "canReverse", "(I)Z"⟩
abbrev cX6_carryOutDueOrders : ByteArray := prog_1_method_46_code
def yX6_carryOutDueOrders : MethodName := ⟨RX6, "carryOutDueOrders", "()I"⟩
abbrev cX6_carryOut : ByteArray := prog_1_method_47_code
def yX6_carryOut : MethodName := ⟨RX6, "carryOut", "(I)V"⟩
abbrev cX6_moveTo : ByteArray := prog_1_method_48_code
def yX6_moveTo : MethodName := ⟨RX6, "moveTo", "(II)V"⟩
abbrev cX6_learnInTime : ByteArray := prog_1_method_49_code
def yX6_learnInTime : MethodName := ⟨RX6, "learnInTime", "()V"⟩
abbrev cX6_placeByTable : ByteArray := prog_1_method_50_code
def yX6_placeByTable : MethodName := ⟨RX6, "placeByTable", "(II)I"⟩
abbrev cX6_traceCall : ByteArray := prog_1_method_51_code
def yX6_traceCall : MethodName := ⟨RX6, "traceCall", "(III)I"⟩
abbrev cX6_followTables : ByteArray := prog_1_method_52_code
def yX6_followTables : MethodName := ⟨RX6, "followTables", "(III)I"⟩
abbrev cX6_payForCall : ByteArray := prog_1_method_53_code
def yX6_payForCall : MethodName := ⟨RX6, "payForCall", "()V"⟩
def RJ7 : String := "java/util/Arrays"
abbrev cJ7_fill_53178 : ByteArray := prog_17_method_103_code
def yJ7_fill_53178 : MethodName := ⟨RJ7, "fill", "([II)V"⟩
def RL : String := "PortinghallLaw"
abbrev cL_cell : ByteArray := method_2_code
def yL_cell : MethodName := ⟨RL, "cell", "([II)I"⟩
abbrev cL_low : ByteArray := method_3_code
def yL_low : MethodName := ⟨RL, "low", "(II)I"⟩
abbrev cL_give : ByteArray := method_4_code
def yL_give : MethodName := ⟨RL, "give", "(LPortinghall;II)I"⟩
abbrev cL_giveBack : ByteArray := method_5_code
def yL_giveBack : MethodName := ⟨RL, "giveBack", "(LPortinghall;I)I"⟩
abbrev cL_assign : ByteArray := method_6_code
def yL_assign : MethodName := ⟨RL, "assign", "(LPortinghall;II)I"⟩
abbrev cL_end : ByteArray := method_7_code
def yL_end : MethodName := ⟨RL, "end", "(LPortinghall;I)I"⟩
abbrev cL_swap : ByteArray := method_8_code
def yL_swap : MethodName := ⟨RL, "swap", "(LPortinghall;II)I"⟩
abbrev cL_emergency : ByteArray := method_9_code
def yL_emergency : MethodName := ⟨RL, "emergency", "(LPortinghall;I)I"⟩
abbrev cL_endFirm : ByteArray := method_10_code
def yL_endFirm : MethodName := ⟨RL, "endFirm", "(LPortinghall;II)I"⟩
abbrev cL_order : ByteArray := method_11_code
def yL_order : MethodName := ⟨RL, "order", "(LPortinghall;IIII)I"⟩
abbrev cL_cancel : ByteArray := method_12_code
def yL_cancel : MethodName := ⟨RL, "cancel", "(LPortinghall;I)I"⟩
abbrev cL_reverse : ByteArray := method_13_code
def yL_reverse : MethodName := ⟨RL, "reverse", "(LPortinghall;I)I"⟩
abbrev cL_pass : ByteArray := method_14_code
def yL_pass : MethodName := ⟨RL, "pass", "(LPortinghall;I)I"⟩
abbrev cL_setLag : ByteArray := method_15_code
def yL_setLag : MethodName := ⟨RL, "setLag", "(LPortinghall;II)I"⟩
abbrev cL_setDown : ByteArray := method_16_code
def yL_setDown : MethodName := ⟨RL, "setDown", "(LPortinghall;IZ)I"⟩
abbrev cL_correct : ByteArray := method_17_code
def yL_correct : MethodName := ⟨RL, "correct", "(LPortinghall;I)I"⟩
abbrev cL_server : ByteArray := method_18_code
def yL_server : MethodName := ⟨RL, "server", "(LPortinghall;I)I"⟩
abbrev cL_serverAnew : ByteArray := method_19_code
def yL_serverAnew : MethodName := ⟨RL, "serverAnew", "(LPortinghall;I)I"⟩
abbrev cL_number : ByteArray := method_20_code
def yL_number : MethodName := ⟨RL, "number", "(LPortinghall;II)I"⟩
abbrev cL_of : ByteArray := method_21_code
def yL_of : MethodName := ⟨RL, "of", "(LPortinghall;II)I"⟩
abbrev cL_room : ByteArray := method_22_code
def yL_room : MethodName := ⟨RL, "room", "(LPortinghall;I)I"⟩
abbrev cL_firm : ByteArray := method_23_code
def yL_firm : MethodName := ⟨RL, "firm", "(LPortinghall;II)I"⟩
abbrev cL_known : ByteArray := method_24_code
def yL_known : MethodName := ⟨RL, "known", "(LPortinghall;II)I"⟩
abbrev cL_audit : ByteArray := method_25_code
def yL_audit : MethodName := ⟨RL, "audit", "(LPortinghall;I)I"⟩
abbrev cL_hop : ByteArray := method_26_code
def yL_hop : MethodName := ⟨RL, "hop", "(LPortinghall;IIII)I"⟩
abbrev cL_why : ByteArray := method_27_code
def yL_why : MethodName := ⟨RL, "why", "(LPortinghall;III)I"⟩
abbrev cL_dial : ByteArray := method_28_code
def yL_dial : MethodName := ⟨RL, "dial", "(LPortinghall;III)I"⟩
abbrev cL_digits : ByteArray := method_29_code
def yL_digits : MethodName := ⟨RL, "digits", "(I)I"⟩
abbrev cL_state : ByteArray := method_30_code
def yL_state : MethodName := ⟨RL, "state", "(I)I"⟩
abbrev cL_winner : ByteArray := method_31_code
def yL_winner : MethodName := ⟨RL, "winner", "(I)I"⟩
abbrev cL_minute : ByteArray := method_32_code
def yL_minute : MethodName := ⟨RL, "minute", "(I)I"⟩
abbrev cL_isDown : ByteArray := method_33_code
def yL_isDown : MethodName := ⟨RL, "isDown", "(I)Z"⟩
abbrev cL_isGone : ByteArray := method_34_code
def yL_isGone : MethodName := ⟨RL, "isGone", "(I)Z"⟩
abbrev cL_account : ByteArray := method_35_code
def yL_account : MethodName := ⟨RL, "account", "(I)I"⟩
abbrev cL_waits : ByteArray := method_36_code
def yL_waits : MethodName := ⟨RL, "waits", "(I[I[I)I"⟩
abbrev cL_waitAt : ByteArray := method_37_code
def yL_waitAt : MethodName := ⟨RL, "waitAt", "(I[I[I)I"⟩
abbrev cL_goesTo : ByteArray := method_38_code
def yL_goesTo : MethodName := ⟨RL, "goesTo", "(II[I[I[I[I)V"⟩
abbrev cL_learns : ByteArray := method_39_code
def yL_learns : MethodName := ⟨RL, "learns", "(IZ[I[J[I[I[I)I"⟩
abbrev cL_isWith : ByteArray := method_40_code
def yL_isWith : MethodName := ⟨RL, "isWith", "(II[I[J)I"⟩
abbrev cL_goes : ByteArray := method_41_code
def yL_goes : MethodName := ⟨RL, "goes", "(III[I[I[J[I)J"⟩
abbrev cL_isTold : ByteArray := method_42_code
def yL_isTold : MethodName := ⟨RL, "isTold", "(LPortinghall;I[I[I[I[J[I[I[I)Z"⟩
abbrev cL_law : ByteArray := code
def yL_law : MethodName := ⟨RL, "law", "([I)Z"⟩
abbrev vwCl : List vw_C := [(RX0, TX0, 6), (RX1, TX1, 6), (RX2, TX2, 4), (RX3, TX3, 4), (RX4, TX4, 7), (RX5, TX5, 2), (RX6, TX6, 8)]
end
section
theorem dX0_init_0 : decode cX0_init 0 = .ok (.aload_n 0, 1) := by decide +kernel
theorem dX0_init_1 : decode cX0_init 1 = .ok (.invokespecial 3, 3) := by decide +kernel
theorem dX0_init_4 : decode cX0_init 4 = .ok (.aload_n 0, 1) := by decide +kernel
theorem dX0_init_5 : decode cX0_init 5 = .ok (.sipush 600, 3) := by decide +kernel
theorem dX0_init_8 : decode cX0_init 8 = .ok (.newarray .int, 2) := by decide +kernel
theorem dX0_init_10 : decode cX0_init 10 = .ok (.putfield 11, 3) := by decide +kernel
theorem dX0_init_13 : decode cX0_init 13 = .ok (.aload_n 0, 1) := by decide +kernel
theorem dX0_init_14 : decode cX0_init 14 = .ok (.sipush 600, 3) := by decide +kernel
theorem dX0_init_17 : decode cX0_init 17 = .ok (.newarray .int, 2) := by decide +kernel
theorem dX0_init_19 : decode cX0_init 19 = .ok (.putfield 15, 3) := by decide +kernel
theorem dX0_init_22 : decode cX0_init 22 = .ok (.aload_n 0, 1) := by decide +kernel
theorem dX0_init_23 : decode cX0_init 23 = .ok (.sipush 600, 3) := by decide +kernel
theorem dX0_init_26 : decode cX0_init 26 = .ok (.newarray .int, 2) := by decide +kernel
theorem dX0_init_28 : decode cX0_init 28 = .ok (.putfield 18, 3) := by decide +kernel
theorem dX0_init_31 : decode cX0_init 31 = .ok (.aload_n 0, 1) := by decide +kernel
theorem dX0_init_32 : decode cX0_init 32 = .ok (.iconst 0, 1) := by decide +kernel
theorem dX0_init_33 : decode cX0_init 33 = .ok (.putfield 21, 3) := by decide +kernel
theorem dX0_init_36 : decode cX0_init 36 = .ok (.aload_n 0, 1) := by decide +kernel
theorem dX0_init_37 : decode cX0_init 37 = .ok (.bipush 6, 2) := by decide +kernel
theorem dX0_init_39 : decode cX0_init 39 = .ok (.newarray .int, 2) := by decide +kernel
theorem dX0_init_41 : decode cX0_init 41 = .ok (.putfield 25, 3) := by decide +kernel
theorem dX0_init_44 : decode cX0_init 44 = .ok (.aload_n 0, 1) := by decide +kernel
theorem dX0_init_45 : decode cX0_init 45 = .ok (.bipush 6, 2) := by decide +kernel
theorem dX0_init_47 : decode cX0_init 47 = .ok (.sipush 200, 3) := by decide +kernel
theorem dX0_init_50 : decode cX0_init 50 = .ok (.multianewarray 28 2, 4) := by decide +kernel
theorem dX0_init_54 : decode cX0_init 54 = .ok (.putfield 30, 3) := by decide +kernel
theorem dX0_init_57 : decode cX0_init 57 = .ok (.iconst 0, 1) := by decide +kernel
theorem dX0_init_58 : decode cX0_init 58 = .ok (.istore_n 1, 1) := by decide +kernel
theorem dX0_init_59 : decode cX0_init 59 = .ok (.iload_n 1, 1) := by decide +kernel
theorem dX0_init_60 : decode cX0_init 60 = .ok (.bipush 6, 2) := by decide +kernel
theorem dX0_init_62 : decode cX0_init 62 = .ok (.if_icmp .ge 20, 3) := by decide +kernel
theorem dX0_init_65 : decode cX0_init 65 = .ok (.aload_n 0, 1) := by decide +kernel
theorem dX0_init_66 : decode cX0_init 66 = .ok (.getfield 30, 3) := by decide +kernel
theorem dX0_init_69 : decode cX0_init 69 = .ok (.iload_n 1, 1) := by decide +kernel
theorem dX0_init_70 : decode cX0_init 70 = .ok (.aaload, 1) := by decide +kernel
theorem dX0_init_71 : decode cX0_init 71 = .ok (.bipush 6, 2) := by decide +kernel
theorem dX0_init_73 : decode cX0_init 73 = .ok (.invokestatic 33, 3) := by decide +kernel
theorem dX0_init_76 : decode cX0_init 76 = .ok (.iinc 1 1, 3) := by decide +kernel
theorem dX0_init_79 : decode cX0_init 79 = .ok (.goto (-20), 3) := by decide +kernel
theorem dX0_init_82 : decode cX0_init 82 = .ok (.return_, 1) := by decide +kernel
theorem dX0_add_0 : decode cX0_add 0 = .ok (.aload_n 0, 1) := by decide +kernel
theorem dX0_add_1 : decode cX0_add 1 = .ok (.getfield 21, 3) := by decide +kernel
theorem dX0_add_4 : decode cX0_add 4 = .ok (.sipush 600, 3) := by decide +kernel
theorem dX0_add_7 : decode cX0_add 7 = .ok (.if_icmp .ge 43, 3) := by decide +kernel
theorem dX0_add_10 : decode cX0_add 10 = .ok (.aload_n 0, 1) := by decide +kernel
theorem dX0_add_11 : decode cX0_add 11 = .ok (.getfield 11, 3) := by decide +kernel
theorem dX0_add_14 : decode cX0_add 14 = .ok (.aload_n 0, 1) := by decide +kernel
theorem dX0_add_15 : decode cX0_add 15 = .ok (.getfield 21, 3) := by decide +kernel
theorem dX0_add_18 : decode cX0_add 18 = .ok (.iload_n 1, 1) := by decide +kernel
theorem dX0_add_19 : decode cX0_add 19 = .ok (.iastore, 1) := by decide +kernel
theorem dX0_add_20 : decode cX0_add 20 = .ok (.aload_n 0, 1) := by decide +kernel
theorem dX0_add_21 : decode cX0_add 21 = .ok (.getfield 15, 3) := by decide +kernel
theorem dX0_add_24 : decode cX0_add 24 = .ok (.aload_n 0, 1) := by decide +kernel
theorem dX0_add_25 : decode cX0_add 25 = .ok (.getfield 21, 3) := by decide +kernel
theorem dX0_add_28 : decode cX0_add 28 = .ok (.iload_n 2, 1) := by decide +kernel
theorem dX0_add_29 : decode cX0_add 29 = .ok (.iastore, 1) := by decide +kernel
theorem dX0_add_30 : decode cX0_add 30 = .ok (.aload_n 0, 1) := by decide +kernel
theorem dX0_add_31 : decode cX0_add 31 = .ok (.getfield 18, 3) := by decide +kernel
theorem dX0_add_34 : decode cX0_add 34 = .ok (.aload_n 0, 1) := by decide +kernel
theorem dX0_add_35 : decode cX0_add 35 = .ok (.getfield 21, 3) := by decide +kernel
theorem dX0_add_38 : decode cX0_add 38 = .ok (.iload_n 3, 1) := by decide +kernel
theorem dX0_add_39 : decode cX0_add 39 = .ok (.iastore, 1) := by decide +kernel
theorem dX0_add_40 : decode cX0_add 40 = .ok (.aload_n 0, 1) := by decide +kernel
theorem dX0_add_41 : decode cX0_add 41 = .ok (.dup, 1) := by decide +kernel
theorem dX0_add_42 : decode cX0_add 42 = .ok (.getfield 21, 3) := by decide +kernel
theorem dX0_add_45 : decode cX0_add 45 = .ok (.iconst 1, 1) := by decide +kernel
theorem dX0_add_46 : decode cX0_add 46 = .ok (.iadd, 1) := by decide +kernel
theorem dX0_add_47 : decode cX0_add 47 = .ok (.putfield 21, 3) := by decide +kernel
theorem dX0_add_50 : decode cX0_add 50 = .ok (.return_, 1) := by decide +kernel
theorem dX0_countUnknown_0 : decode cX0_countUnknown 0 = .ok (.aload_n 0, 1) := by decide +kernel
theorem dX0_countUnknown_1 : decode cX0_countUnknown 1 = .ok (.getfield 21, 3) := by decide +kernel
theorem dX0_countUnknown_4 : decode cX0_countUnknown 4 = .ok (.aload_n 0, 1) := by decide +kernel
theorem dX0_countUnknown_5 : decode cX0_countUnknown 5 = .ok (.getfield 25, 3) := by decide +kernel
theorem dX0_countUnknown_8 : decode cX0_countUnknown 8 = .ok (.iload_n 1, 1) := by decide +kernel
theorem dX0_countUnknown_9 : decode cX0_countUnknown 9 = .ok (.iaload, 1) := by decide +kernel
theorem dX0_countUnknown_10 : decode cX0_countUnknown 10 = .ok (.isub, 1) := by decide +kernel
theorem dX0_countUnknown_11 : decode cX0_countUnknown 11 = .ok (.ireturn, 1) := by decide +kernel
theorem dX0_learnAll_0 : decode cX0_learnAll 0 = .ok (.aload_n 0, 1) := by decide +kernel
theorem dX0_learnAll_1 : decode cX0_learnAll 1 = .ok (.getfield 25, 3) := by decide +kernel
theorem dX0_learnAll_4 : decode cX0_learnAll 4 = .ok (.iload_n 1, 1) := by decide +kernel
theorem dX0_learnAll_5 : decode cX0_learnAll 5 = .ok (.iaload, 1) := by decide +kernel
theorem dX0_learnAll_6 : decode cX0_learnAll 6 = .ok (.istore_n 2, 1) := by decide +kernel
theorem dX0_learnAll_7 : decode cX0_learnAll 7 = .ok (.iload_n 2, 1) := by decide +kernel
theorem dX0_learnAll_8 : decode cX0_learnAll 8 = .ok (.aload_n 0, 1) := by decide +kernel
theorem dX0_learnAll_9 : decode cX0_learnAll 9 = .ok (.getfield 21, 3) := by decide +kernel
theorem dX0_learnAll_12 : decode cX0_learnAll 12 = .ok (.if_icmp .ge 28, 3) := by decide +kernel
theorem dX0_learnAll_15 : decode cX0_learnAll 15 = .ok (.aload_n 0, 1) := by decide +kernel
theorem dX0_learnAll_16 : decode cX0_learnAll 16 = .ok (.getfield 30, 3) := by decide +kernel
theorem dX0_learnAll_19 : decode cX0_learnAll 19 = .ok (.iload_n 1, 1) := by decide +kernel
theorem dX0_learnAll_20 : decode cX0_learnAll 20 = .ok (.aaload, 1) := by decide +kernel
theorem dX0_learnAll_21 : decode cX0_learnAll 21 = .ok (.aload_n 0, 1) := by decide +kernel
theorem dX0_learnAll_22 : decode cX0_learnAll 22 = .ok (.getfield 15, 3) := by decide +kernel
theorem dX0_learnAll_25 : decode cX0_learnAll 25 = .ok (.iload_n 2, 1) := by decide +kernel
theorem dX0_learnAll_26 : decode cX0_learnAll 26 = .ok (.iaload, 1) := by decide +kernel
theorem dX0_learnAll_27 : decode cX0_learnAll 27 = .ok (.aload_n 0, 1) := by decide +kernel
theorem dX0_learnAll_28 : decode cX0_learnAll 28 = .ok (.getfield 18, 3) := by decide +kernel
theorem dX0_learnAll_31 : decode cX0_learnAll 31 = .ok (.iload_n 2, 1) := by decide +kernel
theorem dX0_learnAll_32 : decode cX0_learnAll 32 = .ok (.iaload, 1) := by decide +kernel
theorem dX0_learnAll_33 : decode cX0_learnAll 33 = .ok (.iastore, 1) := by decide +kernel
theorem dX0_learnAll_34 : decode cX0_learnAll 34 = .ok (.iinc 2 1, 3) := by decide +kernel
theorem dX0_learnAll_37 : decode cX0_learnAll 37 = .ok (.goto (-30), 3) := by decide +kernel
theorem dX0_learnAll_40 : decode cX0_learnAll 40 = .ok (.aload_n 0, 1) := by decide +kernel
theorem dX0_learnAll_41 : decode cX0_learnAll 41 = .ok (.getfield 25, 3) := by decide +kernel
theorem dX0_learnAll_44 : decode cX0_learnAll 44 = .ok (.iload_n 1, 1) := by decide +kernel
theorem dX0_learnAll_45 : decode cX0_learnAll 45 = .ok (.aload_n 0, 1) := by decide +kernel
theorem dX0_learnAll_46 : decode cX0_learnAll 46 = .ok (.getfield 21, 3) := by decide +kernel
theorem dX0_learnAll_49 : decode cX0_learnAll 49 = .ok (.iastore, 1) := by decide +kernel
theorem dX0_learnAll_50 : decode cX0_learnAll 50 = .ok (.return_, 1) := by decide +kernel
theorem dX0_learnUpTo_0 : decode cX0_learnUpTo 0 = .ok (.aload_n 0, 1) := by decide +kernel
theorem dX0_learnUpTo_1 : decode cX0_learnUpTo 1 = .ok (.getfield 25, 3) := by decide +kernel
theorem dX0_learnUpTo_4 : decode cX0_learnUpTo 4 = .ok (.iload_n 1, 1) := by decide +kernel
theorem dX0_learnUpTo_5 : decode cX0_learnUpTo 5 = .ok (.iaload, 1) := by decide +kernel
theorem dX0_learnUpTo_6 : decode cX0_learnUpTo 6 = .ok (.istore_n 3, 1) := by decide +kernel
theorem dX0_learnUpTo_7 : decode cX0_learnUpTo 7 = .ok (.iload_n 3, 1) := by decide +kernel
theorem dX0_learnUpTo_8 : decode cX0_learnUpTo 8 = .ok (.aload_n 0, 1) := by decide +kernel
theorem dX0_learnUpTo_9 : decode cX0_learnUpTo 9 = .ok (.getfield 21, 3) := by decide +kernel
theorem dX0_learnUpTo_12 : decode cX0_learnUpTo 12 = .ok (.if_icmp .ge 38, 3) := by decide +kernel
theorem dX0_learnUpTo_15 : decode cX0_learnUpTo 15 = .ok (.aload_n 0, 1) := by decide +kernel
theorem dX0_learnUpTo_16 : decode cX0_learnUpTo 16 = .ok (.getfield 11, 3) := by decide +kernel
theorem dX0_learnUpTo_19 : decode cX0_learnUpTo 19 = .ok (.iload_n 3, 1) := by decide +kernel
theorem dX0_learnUpTo_20 : decode cX0_learnUpTo 20 = .ok (.iaload, 1) := by decide +kernel
theorem dX0_learnUpTo_21 : decode cX0_learnUpTo 21 = .ok (.iload_n 2, 1) := by decide +kernel
theorem dX0_learnUpTo_22 : decode cX0_learnUpTo 22 = .ok (.if_icmp .gt 28, 3) := by decide +kernel
theorem dX0_learnUpTo_25 : decode cX0_learnUpTo 25 = .ok (.aload_n 0, 1) := by decide +kernel
theorem dX0_learnUpTo_26 : decode cX0_learnUpTo 26 = .ok (.getfield 30, 3) := by decide +kernel
theorem dX0_learnUpTo_29 : decode cX0_learnUpTo 29 = .ok (.iload_n 1, 1) := by decide +kernel
theorem dX0_learnUpTo_30 : decode cX0_learnUpTo 30 = .ok (.aaload, 1) := by decide +kernel
theorem dX0_learnUpTo_31 : decode cX0_learnUpTo 31 = .ok (.aload_n 0, 1) := by decide +kernel
theorem dX0_learnUpTo_32 : decode cX0_learnUpTo 32 = .ok (.getfield 15, 3) := by decide +kernel
theorem dX0_learnUpTo_35 : decode cX0_learnUpTo 35 = .ok (.iload_n 3, 1) := by decide +kernel
theorem dX0_learnUpTo_36 : decode cX0_learnUpTo 36 = .ok (.iaload, 1) := by decide +kernel
theorem dX0_learnUpTo_37 : decode cX0_learnUpTo 37 = .ok (.aload_n 0, 1) := by decide +kernel
theorem dX0_learnUpTo_38 : decode cX0_learnUpTo 38 = .ok (.getfield 18, 3) := by decide +kernel
theorem dX0_learnUpTo_41 : decode cX0_learnUpTo 41 = .ok (.iload_n 3, 1) := by decide +kernel
theorem dX0_learnUpTo_42 : decode cX0_learnUpTo 42 = .ok (.iaload, 1) := by decide +kernel
theorem dX0_learnUpTo_43 : decode cX0_learnUpTo 43 = .ok (.iastore, 1) := by decide +kernel
theorem dX0_learnUpTo_44 : decode cX0_learnUpTo 44 = .ok (.iinc 3 1, 3) := by decide +kernel
theorem dX0_learnUpTo_47 : decode cX0_learnUpTo 47 = .ok (.goto (-40), 3) := by decide +kernel
theorem dX0_learnUpTo_50 : decode cX0_learnUpTo 50 = .ok (.aload_n 0, 1) := by decide +kernel
theorem dX0_learnUpTo_51 : decode cX0_learnUpTo 51 = .ok (.getfield 25, 3) := by decide +kernel
theorem dX0_learnUpTo_54 : decode cX0_learnUpTo 54 = .ok (.iload_n 1, 1) := by decide +kernel
theorem dX0_learnUpTo_55 : decode cX0_learnUpTo 55 = .ok (.iload_n 3, 1) := by decide +kernel
theorem dX0_learnUpTo_56 : decode cX0_learnUpTo 56 = .ok (.iastore, 1) := by decide +kernel
theorem dX0_learnUpTo_57 : decode cX0_learnUpTo 57 = .ok (.return_, 1) := by decide +kernel
theorem dX1_init_0 : decode cX1_init 0 = .ok (.aload_n 0, 1) := by decide +kernel
theorem dX1_init_1 : decode cX1_init 1 = .ok (.invokespecial 3, 3) := by decide +kernel
theorem dX1_init_4 : decode cX1_init 4 = .ok (.aload_n 0, 1) := by decide +kernel
theorem dX1_init_5 : decode cX1_init 5 = .ok (.sipush 200, 3) := by decide +kernel
theorem dX1_init_8 : decode cX1_init 8 = .ok (.newarray .int, 2) := by decide +kernel
theorem dX1_init_10 : decode cX1_init 10 = .ok (.putfield 9, 3) := by decide +kernel
theorem dX1_init_13 : decode cX1_init 13 = .ok (.aload_n 0, 1) := by decide +kernel
theorem dX1_init_14 : decode cX1_init 14 = .ok (.sipush 200, 3) := by decide +kernel
theorem dX1_init_17 : decode cX1_init 17 = .ok (.newarray .int, 2) := by decide +kernel
theorem dX1_init_19 : decode cX1_init 19 = .ok (.putfield 15, 3) := by decide +kernel
theorem dX1_init_22 : decode cX1_init 22 = .ok (.aload_n 0, 1) := by decide +kernel
theorem dX1_init_23 : decode cX1_init 23 = .ok (.sipush 200, 3) := by decide +kernel
theorem dX1_init_26 : decode cX1_init 26 = .ok (.newarray .int, 2) := by decide +kernel
theorem dX1_init_28 : decode cX1_init 28 = .ok (.putfield 18, 3) := by decide +kernel
theorem dX1_init_31 : decode cX1_init 31 = .ok (.aload_n 0, 1) := by decide +kernel
theorem dX1_init_32 : decode cX1_init 32 = .ok (.sipush 200, 3) := by decide +kernel
theorem dX1_init_35 : decode cX1_init 35 = .ok (.newarray .int, 2) := by decide +kernel
theorem dX1_init_37 : decode cX1_init 37 = .ok (.putfield 21, 3) := by decide +kernel
theorem dX1_init_40 : decode cX1_init 40 = .ok (.aload_n 0, 1) := by decide +kernel
theorem dX1_init_41 : decode cX1_init 41 = .ok (.sipush 200, 3) := by decide +kernel
theorem dX1_init_44 : decode cX1_init 44 = .ok (.newarray .int, 2) := by decide +kernel
theorem dX1_init_46 : decode cX1_init 46 = .ok (.putfield 24, 3) := by decide +kernel
theorem dX1_init_49 : decode cX1_init 49 = .ok (.aload_n 0, 1) := by decide +kernel
theorem dX1_init_50 : decode cX1_init 50 = .ok (.sipush 200, 3) := by decide +kernel
theorem dX1_init_53 : decode cX1_init 53 = .ok (.newarray .int, 2) := by decide +kernel
theorem dX1_init_55 : decode cX1_init 55 = .ok (.putfield 27, 3) := by decide +kernel
theorem dX1_init_58 : decode cX1_init 58 = .ok (.aload_n 0, 1) := by decide +kernel
theorem dX1_init_59 : decode cX1_init 59 = .ok (.getfield 9, 3) := by decide +kernel
theorem dX1_init_62 : decode cX1_init 62 = .ok (.iconst (-1), 1) := by decide +kernel
theorem dX1_init_63 : decode cX1_init 63 = .ok (.invokestatic 30, 3) := by decide +kernel
theorem dX1_init_66 : decode cX1_init 66 = .ok (.aload_n 0, 1) := by decide +kernel
theorem dX1_init_67 : decode cX1_init 67 = .ok (.getfield 18, 3) := by decide +kernel
theorem dX1_init_70 : decode cX1_init 70 = .ok (.iconst (-1), 1) := by decide +kernel
theorem dX1_init_71 : decode cX1_init 71 = .ok (.invokestatic 30, 3) := by decide +kernel
theorem dX1_init_74 : decode cX1_init 74 = .ok (.aload_n 0, 1) := by decide +kernel
theorem dX1_init_75 : decode cX1_init 75 = .ok (.getfield 21, 3) := by decide +kernel
theorem dX1_init_78 : decode cX1_init 78 = .ok (.iconst (-1), 1) := by decide +kernel
theorem dX1_init_79 : decode cX1_init 79 = .ok (.invokestatic 30, 3) := by decide +kernel
theorem dX1_init_82 : decode cX1_init 82 = .ok (.aload_n 0, 1) := by decide +kernel
theorem dX1_init_83 : decode cX1_init 83 = .ok (.getfield 24, 3) := by decide +kernel
theorem dX1_init_86 : decode cX1_init 86 = .ok (.iconst (-1), 1) := by decide +kernel
theorem dX1_init_87 : decode cX1_init 87 = .ok (.invokestatic 30, 3) := by decide +kernel
theorem dX1_init_90 : decode cX1_init 90 = .ok (.aload_n 0, 1) := by decide +kernel
theorem dX1_init_91 : decode cX1_init 91 = .ok (.getfield 27, 3) := by decide +kernel
theorem dX1_init_94 : decode cX1_init 94 = .ok (.iconst (-1), 1) := by decide +kernel
theorem dX1_init_95 : decode cX1_init 95 = .ok (.invokestatic 30, 3) := by decide +kernel
theorem dX1_init_98 : decode cX1_init 98 = .ok (.return_, 1) := by decide +kernel
theorem dX1_isInUse_0 : decode cX1_isInUse 0 = .ok (.aload_n 0, 1) := by decide +kernel
theorem dX1_isInUse_1 : decode cX1_isInUse 1 = .ok (.getfield 9, 3) := by decide +kernel
theorem dX1_isInUse_4 : decode cX1_isInUse 4 = .ok (.iload_n 1, 1) := by decide +kernel
theorem dX1_isInUse_5 : decode cX1_isInUse 5 = .ok (.iaload, 1) := by decide +kernel
theorem dX1_isInUse_6 : decode cX1_isInUse 6 = .ok (.iconst (-1), 1) := by decide +kernel
theorem dX1_isInUse_7 : decode cX1_isInUse 7 = .ok (.if_icmp .eq 7, 3) := by decide +kernel
theorem dX1_isInUse_10 : decode cX1_isInUse 10 = .ok (.iconst 1, 1) := by decide +kernel
theorem dX1_isInUse_11 : decode cX1_isInUse 11 = .ok (.goto 4, 3) := by decide +kernel
theorem dX1_isInUse_14 : decode cX1_isInUse 14 = .ok (.iconst 0, 1) := by decide +kernel
theorem dX1_isInUse_15 : decode cX1_isInUse 15 = .ok (.ireturn, 1) := by decide +kernel
theorem dX1_isInQuarantine_0 : decode cX1_isInQuarantine 0 = .ok (.iload_n 2, 1) := by decide +kernel
theorem dX1_isInQuarantine_1 : decode cX1_isInQuarantine 1 = .ok (.aload_n 0, 1) := by decide +kernel
theorem dX1_isInQuarantine_2 : decode cX1_isInQuarantine 2 = .ok (.getfield 18, 3) := by decide +kernel
theorem dX1_isInQuarantine_5 : decode cX1_isInQuarantine 5 = .ok (.iload_n 1, 1) := by decide +kernel
theorem dX1_isInQuarantine_6 : decode cX1_isInQuarantine 6 = .ok (.iaload, 1) := by decide +kernel
theorem dX1_isInQuarantine_7 : decode cX1_isInQuarantine 7 = .ok (.if_icmp .gt 7, 3) := by decide +kernel
theorem dX1_isInQuarantine_10 : decode cX1_isInQuarantine 10 = .ok (.iconst 1, 1) := by decide +kernel
theorem dX1_isInQuarantine_11 : decode cX1_isInQuarantine 11 = .ok (.goto 4, 3) := by decide +kernel
theorem dX1_isInQuarantine_14 : decode cX1_isInQuarantine 14 = .ok (.iconst 0, 1) := by decide +kernel
theorem dX1_isInQuarantine_15 : decode cX1_isInQuarantine 15 = .ok (.ireturn, 1) := by decide +kernel
theorem dX1_isSilent_0 : decode cX1_isSilent 0 = .ok (.iload_n 2, 1) := by decide +kernel
theorem dX1_isSilent_1 : decode cX1_isSilent 1 = .ok (.aload_n 0, 1) := by decide +kernel
theorem dX1_isSilent_2 : decode cX1_isSilent 2 = .ok (.getfield 21, 3) := by decide +kernel
theorem dX1_isSilent_5 : decode cX1_isSilent 5 = .ok (.iload_n 1, 1) := by decide +kernel
theorem dX1_isSilent_6 : decode cX1_isSilent 6 = .ok (.iaload, 1) := by decide +kernel
theorem dX1_isSilent_7 : decode cX1_isSilent 7 = .ok (.if_icmp .gt 7, 3) := by decide +kernel
theorem dX1_isSilent_10 : decode cX1_isSilent 10 = .ok (.iconst 1, 1) := by decide +kernel
theorem dX1_isSilent_11 : decode cX1_isSilent 11 = .ok (.goto 4, 3) := by decide +kernel
theorem dX1_isSilent_14 : decode cX1_isSilent 14 = .ok (.iconst 0, 1) := by decide +kernel
theorem dX1_isSilent_15 : decode cX1_isSilent 15 = .ok (.ireturn, 1) := by decide +kernel
theorem dX1_mayBeCalledBack_0 : decode cX1_mayBeCalledBack 0 = .ok (.iload_n 2, 1) := by decide +kernel
theorem dX1_mayBeCalledBack_1 : decode cX1_mayBeCalledBack 1 = .ok (.aload_n 0, 1) := by decide +kernel
theorem dX1_mayBeCalledBack_2 : decode cX1_mayBeCalledBack 2 = .ok (.getfield 24, 3) := by decide +kernel
theorem dX1_mayBeCalledBack_5 : decode cX1_mayBeCalledBack 5 = .ok (.iload_n 1, 1) := by decide +kernel
theorem dX1_mayBeCalledBack_6 : decode cX1_mayBeCalledBack 6 = .ok (.iaload, 1) := by decide +kernel
theorem dX1_mayBeCalledBack_7 : decode cX1_mayBeCalledBack 7 = .ok (.if_icmp .gt 7, 3) := by decide +kernel
theorem dX1_mayBeCalledBack_10 : decode cX1_mayBeCalledBack 10 = .ok (.iconst 1, 1) := by decide +kernel
theorem dX1_mayBeCalledBack_11 : decode cX1_mayBeCalledBack 11 = .ok (.goto 4, 3) := by decide +kernel
theorem dX1_mayBeCalledBack_14 : decode cX1_mayBeCalledBack 14 = .ok (.iconst 0, 1) := by decide +kernel
theorem dX1_mayBeCalledBack_15 : decode cX1_mayBeCalledBack 15 = .ok (.ireturn, 1) := by decide +kernel
theorem dX1_begin_0 : decode cX1_begin 0 = .ok (.aload_n 0, 1) := by decide +kernel
theorem dX1_begin_1 : decode cX1_begin 1 = .ok (.getfield 9, 3) := by decide +kernel
theorem dX1_begin_4 : decode cX1_begin 4 = .ok (.iload_n 1, 1) := by decide +kernel
theorem dX1_begin_5 : decode cX1_begin 5 = .ok (.iload_n 2, 1) := by decide +kernel
theorem dX1_begin_6 : decode cX1_begin 6 = .ok (.iastore, 1) := by decide +kernel
theorem dX1_begin_7 : decode cX1_begin 7 = .ok (.aload_n 0, 1) := by decide +kernel
theorem dX1_begin_8 : decode cX1_begin 8 = .ok (.getfield 15, 3) := by decide +kernel
theorem dX1_begin_11 : decode cX1_begin 11 = .ok (.iload_n 1, 1) := by decide +kernel
theorem dX1_begin_12 : decode cX1_begin 12 = .ok (.iload_n 3, 1) := by decide +kernel
theorem dX1_begin_13 : decode cX1_begin 13 = .ok (.iastore, 1) := by decide +kernel
theorem dX1_begin_14 : decode cX1_begin 14 = .ok (.return_, 1) := by decide +kernel
theorem dX1_finish_0 : decode cX1_finish 0 = .ok (.aload_n 0, 1) := by decide +kernel
theorem dX1_finish_1 : decode cX1_finish 1 = .ok (.getfield 9, 3) := by decide +kernel
theorem dX1_finish_4 : decode cX1_finish 4 = .ok (.iload_n 1, 1) := by decide +kernel
theorem dX1_finish_5 : decode cX1_finish 5 = .ok (.iconst (-1), 1) := by decide +kernel
theorem dX1_finish_6 : decode cX1_finish 6 = .ok (.iastore, 1) := by decide +kernel
theorem dX1_finish_7 : decode cX1_finish 7 = .ok (.aload_n 0, 1) := by decide +kernel
theorem dX1_finish_8 : decode cX1_finish 8 = .ok (.getfield 18, 3) := by decide +kernel
theorem dX1_finish_11 : decode cX1_finish 11 = .ok (.iload_n 1, 1) := by decide +kernel
theorem dX1_finish_12 : decode cX1_finish 12 = .ok (.iload_n 2, 1) := by decide +kernel
theorem dX1_finish_13 : decode cX1_finish 13 = .ok (.bipush 99, 2) := by decide +kernel
theorem dX1_finish_15 : decode cX1_finish 15 = .ok (.iadd, 1) := by decide +kernel
theorem dX1_finish_16 : decode cX1_finish 16 = .ok (.iastore, 1) := by decide +kernel
theorem dX1_finish_17 : decode cX1_finish 17 = .ok (.aload_n 0, 1) := by decide +kernel
theorem dX1_finish_18 : decode cX1_finish 18 = .ok (.getfield 21, 3) := by decide +kernel
theorem dX1_finish_21 : decode cX1_finish 21 = .ok (.iload_n 1, 1) := by decide +kernel
theorem dX1_finish_22 : decode cX1_finish 22 = .ok (.iconst (-1), 1) := by decide +kernel
theorem dX1_finish_23 : decode cX1_finish 23 = .ok (.iastore, 1) := by decide +kernel
theorem dX1_finish_24 : decode cX1_finish 24 = .ok (.aload_n 0, 1) := by decide +kernel
theorem dX1_finish_25 : decode cX1_finish 25 = .ok (.getfield 24, 3) := by decide +kernel
theorem dX1_finish_28 : decode cX1_finish 28 = .ok (.iload_n 1, 1) := by decide +kernel
theorem dX1_finish_29 : decode cX1_finish 29 = .ok (.iconst (-1), 1) := by decide +kernel
theorem dX1_finish_30 : decode cX1_finish 30 = .ok (.iastore, 1) := by decide +kernel
theorem dX1_finish_31 : decode cX1_finish 31 = .ok (.aload_n 0, 1) := by decide +kernel
theorem dX1_finish_32 : decode cX1_finish 32 = .ok (.getfield 27, 3) := by decide +kernel
theorem dX1_finish_35 : decode cX1_finish 35 = .ok (.iload_n 1, 1) := by decide +kernel
theorem dX1_finish_36 : decode cX1_finish 36 = .ok (.iconst (-1), 1) := by decide +kernel
theorem dX1_finish_37 : decode cX1_finish 37 = .ok (.iastore, 1) := by decide +kernel
theorem dX1_finish_38 : decode cX1_finish 38 = .ok (.return_, 1) := by decide +kernel
theorem dX1_countServedBy_0 : decode cX1_countServedBy 0 = .ok (.iconst 0, 1) := by decide +kernel
theorem dX1_countServedBy_1 : decode cX1_countServedBy 1 = .ok (.istore_n 2, 1) := by decide +kernel
theorem dX1_countServedBy_2 : decode cX1_countServedBy 2 = .ok (.iconst 0, 1) := by decide +kernel
theorem dX1_countServedBy_3 : decode cX1_countServedBy 3 = .ok (.istore_n 3, 1) := by decide +kernel
theorem dX1_countServedBy_4 : decode cX1_countServedBy 4 = .ok (.iload_n 3, 1) := by decide +kernel
theorem dX1_countServedBy_5 : decode cX1_countServedBy 5 = .ok (.sipush 200, 3) := by decide +kernel
theorem dX1_countServedBy_8 : decode cX1_countServedBy 8 = .ok (.if_icmp .ge 22, 3) := by decide +kernel
theorem dX1_countServedBy_11 : decode cX1_countServedBy 11 = .ok (.aload_n 0, 1) := by decide +kernel
theorem dX1_countServedBy_12 : decode cX1_countServedBy 12 = .ok (.getfield 9, 3) := by decide +kernel
theorem dX1_countServedBy_15 : decode cX1_countServedBy 15 = .ok (.iload_n 3, 1) := by decide +kernel
theorem dX1_countServedBy_16 : decode cX1_countServedBy 16 = .ok (.iaload, 1) := by decide +kernel
theorem dX1_countServedBy_17 : decode cX1_countServedBy 17 = .ok (.iload_n 1, 1) := by decide +kernel
theorem dX1_countServedBy_18 : decode cX1_countServedBy 18 = .ok (.if_icmp .ne 6, 3) := by decide +kernel
theorem dX1_countServedBy_21 : decode cX1_countServedBy 21 = .ok (.iinc 2 1, 3) := by decide +kernel
theorem dX1_countServedBy_24 : decode cX1_countServedBy 24 = .ok (.iinc 3 1, 3) := by decide +kernel
theorem dX1_countServedBy_27 : decode cX1_countServedBy 27 = .ok (.goto (-23), 3) := by decide +kernel
theorem dX1_countServedBy_30 : decode cX1_countServedBy 30 = .ok (.iload_n 2, 1) := by decide +kernel
theorem dX1_countServedBy_31 : decode cX1_countServedBy 31 = .ok (.ireturn, 1) := by decide +kernel
theorem dX2_init_0 : decode cX2_init 0 = .ok (.aload_n 0, 1) := by decide +kernel
theorem dX2_init_1 : decode cX2_init 1 = .ok (.invokespecial 3, 3) := by decide +kernel
theorem dX2_init_4 : decode cX2_init 4 = .ok (.aload_n 0, 1) := by decide +kernel
theorem dX2_init_5 : decode cX2_init 5 = .ok (.bipush 6, 2) := by decide +kernel
theorem dX2_init_7 : decode cX2_init 7 = .ok (.newarray .boolean, 2) := by decide +kernel
theorem dX2_init_9 : decode cX2_init 9 = .ok (.putfield 9, 3) := by decide +kernel
theorem dX2_init_12 : decode cX2_init 12 = .ok (.aload_n 0, 1) := by decide +kernel
theorem dX2_init_13 : decode cX2_init 13 = .ok (.bipush 6, 2) := by decide +kernel
theorem dX2_init_15 : decode cX2_init 15 = .ok (.newarray .boolean, 2) := by decide +kernel
theorem dX2_init_17 : decode cX2_init 17 = .ok (.putfield 15, 3) := by decide +kernel
theorem dX2_init_20 : decode cX2_init 20 = .ok (.aload_n 0, 1) := by decide +kernel
theorem dX2_init_21 : decode cX2_init 21 = .ok (.bipush 6, 2) := by decide +kernel
theorem dX2_init_23 : decode cX2_init 23 = .ok (.newarray .int, 2) := by decide +kernel
theorem dX2_init_25 : decode cX2_init 25 = .ok (.putfield 18, 3) := by decide +kernel
theorem dX2_init_28 : decode cX2_init 28 = .ok (.aload_n 0, 1) := by decide +kernel
theorem dX2_init_29 : decode cX2_init 29 = .ok (.bipush 6, 2) := by decide +kernel
theorem dX2_init_31 : decode cX2_init 31 = .ok (.newarray .int, 2) := by decide +kernel
theorem dX2_init_33 : decode cX2_init 33 = .ok (.putfield 22, 3) := by decide +kernel
theorem dX2_init_36 : decode cX2_init 36 = .ok (.return_, 1) := by decide +kernel
theorem dX2_pay_0 : decode cX2_pay 0 = .ok (.iload_n 1, 1) := by decide +kernel
theorem dX2_pay_1 : decode cX2_pay 1 = .ok (.invokestatic 25, 3) := by decide +kernel
theorem dX2_pay_4 : decode cX2_pay 4 = .ok (.ifCond .eq 30, 3) := by decide +kernel
theorem dX2_pay_7 : decode cX2_pay 7 = .ok (.iload_n 2, 1) := by decide +kernel
theorem dX2_pay_8 : decode cX2_pay 8 = .ok (.invokestatic 25, 3) := by decide +kernel
theorem dX2_pay_11 : decode cX2_pay 11 = .ok (.ifCond .eq 23, 3) := by decide +kernel
theorem dX2_pay_14 : decode cX2_pay 14 = .ok (.aload_n 0, 1) := by decide +kernel
theorem dX2_pay_15 : decode cX2_pay 15 = .ok (.getfield 22, 3) := by decide +kernel
theorem dX2_pay_18 : decode cX2_pay 18 = .ok (.iload_n 1, 1) := by decide +kernel
theorem dX2_pay_19 : decode cX2_pay 19 = .ok (.dup2, 1) := by decide +kernel
theorem dX2_pay_20 : decode cX2_pay 20 = .ok (.iaload, 1) := by decide +kernel
theorem dX2_pay_21 : decode cX2_pay 21 = .ok (.iload_n 3, 1) := by decide +kernel
theorem dX2_pay_22 : decode cX2_pay 22 = .ok (.isub, 1) := by decide +kernel
theorem dX2_pay_23 : decode cX2_pay 23 = .ok (.iastore, 1) := by decide +kernel
theorem dX2_pay_24 : decode cX2_pay 24 = .ok (.aload_n 0, 1) := by decide +kernel
theorem dX2_pay_25 : decode cX2_pay 25 = .ok (.getfield 22, 3) := by decide +kernel
theorem dX2_pay_28 : decode cX2_pay 28 = .ok (.iload_n 2, 1) := by decide +kernel
theorem dX2_pay_29 : decode cX2_pay 29 = .ok (.dup2, 1) := by decide +kernel
theorem dX2_pay_30 : decode cX2_pay 30 = .ok (.iaload, 1) := by decide +kernel
theorem dX2_pay_31 : decode cX2_pay 31 = .ok (.iload_n 3, 1) := by decide +kernel
theorem dX2_pay_32 : decode cX2_pay 32 = .ok (.iadd, 1) := by decide +kernel
theorem dX2_pay_33 : decode cX2_pay 33 = .ok (.iastore, 1) := by decide +kernel
theorem dX2_pay_34 : decode cX2_pay 34 = .ok (.return_, 1) := by decide +kernel
theorem dX3_init_0 : decode cX3_init 0 = .ok (.aload_n 0, 1) := by decide +kernel
theorem dX3_init_1 : decode cX3_init 1 = .ok (.invokespecial 3, 3) := by decide +kernel
theorem dX3_init_4 : decode cX3_init 4 = .ok (.aload_n 0, 1) := by decide +kernel
theorem dX3_init_5 : decode cX3_init 5 = .ok (.sipush 572, 3) := by decide +kernel
theorem dX3_init_8 : decode cX3_init 8 = .ok (.newarray .boolean, 2) := by decide +kernel
theorem dX3_init_10 : decode cX3_init 10 = .ok (.putfield 11, 3) := by decide +kernel
theorem dX3_init_13 : decode cX3_init 13 = .ok (.aload_n 0, 1) := by decide +kernel
theorem dX3_init_14 : decode cX3_init 14 = .ok (.sipush 572, 3) := by decide +kernel
theorem dX3_init_17 : decode cX3_init 17 = .ok (.newarray .int, 2) := by decide +kernel
theorem dX3_init_19 : decode cX3_init 19 = .ok (.putfield 15, 3) := by decide +kernel
theorem dX3_init_22 : decode cX3_init 22 = .ok (.aload_n 0, 1) := by decide +kernel
theorem dX3_init_23 : decode cX3_init 23 = .ok (.sipush 572, 3) := by decide +kernel
theorem dX3_init_26 : decode cX3_init 26 = .ok (.newarray .int, 2) := by decide +kernel
theorem dX3_init_28 : decode cX3_init 28 = .ok (.putfield 19, 3) := by decide +kernel
theorem dX3_init_31 : decode cX3_init 31 = .ok (.aload_n 0, 1) := by decide +kernel
theorem dX3_init_32 : decode cX3_init 32 = .ok (.iconst 0, 1) := by decide +kernel
theorem dX3_init_33 : decode cX3_init 33 = .ok (.putfield 22, 3) := by decide +kernel
theorem dX3_init_36 : decode cX3_init 36 = .ok (.return_, 1) := by decide +kernel
theorem dX3_serves_0 : decode cX3_serves 0 = .ok (.aload_n 0, 1) := by decide +kernel
theorem dX3_serves_1 : decode cX3_serves 1 = .ok (.iconst 0, 1) := by decide +kernel
theorem dX3_serves_2 : decode cX3_serves 2 = .ok (.iload_n 1, 1) := by decide +kernel
theorem dX3_serves_3 : decode cX3_serves 3 = .ok (.iload_n 2, 1) := by decide +kernel
theorem dX3_serves_4 : decode cX3_serves 4 = .ok (.invokevirtual 26, 3) := by decide +kernel
theorem dX3_serves_7 : decode cX3_serves 7 = .ok (.return_, 1) := by decide +kernel
theorem dX3_firmEnds_0 : decode cX3_firmEnds 0 = .ok (.aload_n 0, 1) := by decide +kernel
theorem dX3_firmEnds_1 : decode cX3_firmEnds 1 = .ok (.iconst 1, 1) := by decide +kernel
theorem dX3_firmEnds_2 : decode cX3_firmEnds 2 = .ok (.iload_n 1, 1) := by decide +kernel
theorem dX3_firmEnds_3 : decode cX3_firmEnds 3 = .ok (.iload_n 2, 1) := by decide +kernel
theorem dX3_firmEnds_4 : decode cX3_firmEnds 4 = .ok (.invokevirtual 26, 3) := by decide +kernel
theorem dX3_firmEnds_7 : decode cX3_firmEnds 7 = .ok (.return_, 1) := by decide +kernel
theorem dX3_note_0 : decode cX3_note 0 = .ok (.aload_n 0, 1) := by decide +kernel
theorem dX3_note_1 : decode cX3_note 1 = .ok (.getfield 22, 3) := by decide +kernel
theorem dX3_note_4 : decode cX3_note 4 = .ok (.sipush 572, 3) := by decide +kernel
theorem dX3_note_7 : decode cX3_note 7 = .ok (.if_icmp .ge 43, 3) := by decide +kernel
theorem dX3_note_10 : decode cX3_note 10 = .ok (.aload_n 0, 1) := by decide +kernel
theorem dX3_note_11 : decode cX3_note 11 = .ok (.getfield 11, 3) := by decide +kernel
theorem dX3_note_14 : decode cX3_note 14 = .ok (.aload_n 0, 1) := by decide +kernel
theorem dX3_note_15 : decode cX3_note 15 = .ok (.getfield 22, 3) := by decide +kernel
theorem dX3_note_18 : decode cX3_note 18 = .ok (.iload_n 1, 1) := by decide +kernel
theorem dX3_note_19 : decode cX3_note 19 = .ok (.bastore, 1) := by decide +kernel
theorem dX3_note_20 : decode cX3_note 20 = .ok (.aload_n 0, 1) := by decide +kernel
theorem dX3_note_21 : decode cX3_note 21 = .ok (.getfield 15, 3) := by decide +kernel
theorem dX3_note_24 : decode cX3_note 24 = .ok (.aload_n 0, 1) := by decide +kernel
theorem dX3_note_25 : decode cX3_note 25 = .ok (.getfield 22, 3) := by decide +kernel
theorem dX3_note_28 : decode cX3_note 28 = .ok (.iload_n 2, 1) := by decide +kernel
theorem dX3_note_29 : decode cX3_note 29 = .ok (.iastore, 1) := by decide +kernel
theorem dX3_note_30 : decode cX3_note 30 = .ok (.aload_n 0, 1) := by decide +kernel
theorem dX3_note_31 : decode cX3_note 31 = .ok (.getfield 19, 3) := by decide +kernel
theorem dX3_note_34 : decode cX3_note 34 = .ok (.aload_n 0, 1) := by decide +kernel
theorem dX3_note_35 : decode cX3_note 35 = .ok (.getfield 22, 3) := by decide +kernel
theorem dX3_note_38 : decode cX3_note 38 = .ok (.iload_n 3, 1) := by decide +kernel
theorem dX3_note_39 : decode cX3_note 39 = .ok (.iastore, 1) := by decide +kernel
theorem dX3_note_40 : decode cX3_note 40 = .ok (.aload_n 0, 1) := by decide +kernel
theorem dX3_note_41 : decode cX3_note 41 = .ok (.dup, 1) := by decide +kernel
theorem dX3_note_42 : decode cX3_note 42 = .ok (.getfield 22, 3) := by decide +kernel
theorem dX3_note_45 : decode cX3_note 45 = .ok (.iconst 1, 1) := by decide +kernel
theorem dX3_note_46 : decode cX3_note 46 = .ok (.iadd, 1) := by decide +kernel
theorem dX3_note_47 : decode cX3_note 47 = .ok (.putfield 22, 3) := by decide +kernel
theorem dX3_note_50 : decode cX3_note 50 = .ok (.return_, 1) := by decide +kernel
theorem dX3_replay_0 : decode cX3_replay 0 = .ok (.iconst (-1), 1) := by decide +kernel
theorem dX3_replay_1 : decode cX3_replay 1 = .ok (.istore_n 2, 1) := by decide +kernel
theorem dX3_replay_2 : decode cX3_replay 2 = .ok (.iconst 0, 1) := by decide +kernel
theorem dX3_replay_3 : decode cX3_replay 3 = .ok (.istore_n 3, 1) := by decide +kernel
theorem dX3_replay_4 : decode cX3_replay 4 = .ok (.iload_n 3, 1) := by decide +kernel
theorem dX3_replay_5 : decode cX3_replay 5 = .ok (.aload_n 0, 1) := by decide +kernel
theorem dX3_replay_6 : decode cX3_replay 6 = .ok (.getfield 22, 3) := by decide +kernel
theorem dX3_replay_9 : decode cX3_replay 9 = .ok (.if_icmp .ge 43, 3) := by decide +kernel
theorem dX3_replay_12 : decode cX3_replay 12 = .ok (.aload_n 0, 1) := by decide +kernel
theorem dX3_replay_13 : decode cX3_replay 13 = .ok (.getfield 11, 3) := by decide +kernel
theorem dX3_replay_16 : decode cX3_replay 16 = .ok (.iload_n 3, 1) := by decide +kernel
theorem dX3_replay_17 : decode cX3_replay 17 = .ok (.baload, 1) := by decide +kernel
theorem dX3_replay_18 : decode cX3_replay 18 = .ok (.ifCond .eq 7, 3) := by decide +kernel
theorem dX3_replay_21 : decode cX3_replay 21 = .ok (.iload_n 2, 1) := by decide +kernel
theorem dX3_replay_22 : decode cX3_replay 22 = .ok (.goto 4, 3) := by decide +kernel
theorem dX3_replay_25 : decode cX3_replay 25 = .ok (.iload_n 1, 1) := by decide +kernel
theorem dX3_replay_26 : decode cX3_replay 26 = .ok (.istore 4, 2) := by decide +kernel
theorem dX3_replay_28 : decode cX3_replay 28 = .ok (.aload_n 0, 1) := by decide +kernel
theorem dX3_replay_29 : decode cX3_replay 29 = .ok (.getfield 15, 3) := by decide +kernel
theorem dX3_replay_32 : decode cX3_replay 32 = .ok (.iload_n 3, 1) := by decide +kernel
theorem dX3_replay_33 : decode cX3_replay 33 = .ok (.iaload, 1) := by decide +kernel
theorem dX3_replay_34 : decode cX3_replay 34 = .ok (.iload 4, 2) := by decide +kernel
theorem dX3_replay_36 : decode cX3_replay 36 = .ok (.if_icmp .ne 10, 3) := by decide +kernel
theorem dX3_replay_39 : decode cX3_replay 39 = .ok (.aload_n 0, 1) := by decide +kernel
theorem dX3_replay_40 : decode cX3_replay 40 = .ok (.getfield 19, 3) := by decide +kernel
theorem dX3_replay_43 : decode cX3_replay 43 = .ok (.iload_n 3, 1) := by decide +kernel
theorem dX3_replay_44 : decode cX3_replay 44 = .ok (.iaload, 1) := by decide +kernel
theorem dX3_replay_45 : decode cX3_replay 45 = .ok (.istore_n 2, 1) := by decide +kernel
theorem dX3_replay_46 : decode cX3_replay 46 = .ok (.iinc 3 1, 3) := by decide +kernel
theorem dX3_replay_49 : decode cX3_replay 49 = .ok (.goto (-45), 3) := by decide +kernel
theorem dX3_replay_52 : decode cX3_replay 52 = .ok (.iload_n 2, 1) := by decide +kernel
theorem dX3_replay_53 : decode cX3_replay 53 = .ok (.ireturn, 1) := by decide +kernel
theorem dX4_init_0 : decode cX4_init 0 = .ok (.aload_n 0, 1) := by decide +kernel
theorem dX4_init_1 : decode cX4_init 1 = .ok (.invokespecial 3, 3) := by decide +kernel
theorem dX4_init_4 : decode cX4_init 4 = .ok (.aload_n 0, 1) := by decide +kernel
theorem dX4_init_5 : decode cX4_init 5 = .ok (.bipush 60, 2) := by decide +kernel
theorem dX4_init_7 : decode cX4_init 7 = .ok (.newarray .int, 2) := by decide +kernel
theorem dX4_init_9 : decode cX4_init 9 = .ok (.putfield 9, 3) := by decide +kernel
theorem dX4_init_12 : decode cX4_init 12 = .ok (.aload_n 0, 1) := by decide +kernel
theorem dX4_init_13 : decode cX4_init 13 = .ok (.bipush 60, 2) := by decide +kernel
theorem dX4_init_15 : decode cX4_init 15 = .ok (.newarray .int, 2) := by decide +kernel
theorem dX4_init_17 : decode cX4_init 17 = .ok (.putfield 15, 3) := by decide +kernel
theorem dX4_init_20 : decode cX4_init 20 = .ok (.aload_n 0, 1) := by decide +kernel
theorem dX4_init_21 : decode cX4_init 21 = .ok (.bipush 60, 2) := by decide +kernel
theorem dX4_init_23 : decode cX4_init 23 = .ok (.newarray .int, 2) := by decide +kernel
theorem dX4_init_25 : decode cX4_init 25 = .ok (.putfield 18, 3) := by decide +kernel
theorem dX4_init_28 : decode cX4_init 28 = .ok (.aload_n 0, 1) := by decide +kernel
theorem dX4_init_29 : decode cX4_init 29 = .ok (.bipush 60, 2) := by decide +kernel
theorem dX4_init_31 : decode cX4_init 31 = .ok (.newarray .int, 2) := by decide +kernel
theorem dX4_init_33 : decode cX4_init 33 = .ok (.putfield 21, 3) := by decide +kernel
theorem dX4_init_36 : decode cX4_init 36 = .ok (.aload_n 0, 1) := by decide +kernel
theorem dX4_init_37 : decode cX4_init 37 = .ok (.bipush 60, 2) := by decide +kernel
theorem dX4_init_39 : decode cX4_init 39 = .ok (.newarray .int, 2) := by decide +kernel
theorem dX4_init_41 : decode cX4_init 41 = .ok (.putfield 24, 3) := by decide +kernel
theorem dX4_init_44 : decode cX4_init 44 = .ok (.aload_n 0, 1) := by decide +kernel
theorem dX4_init_45 : decode cX4_init 45 = .ok (.bipush 60, 2) := by decide +kernel
theorem dX4_init_47 : decode cX4_init 47 = .ok (.newarray .int, 2) := by decide +kernel
theorem dX4_init_49 : decode cX4_init 49 = .ok (.putfield 27, 3) := by decide +kernel
theorem dX4_init_52 : decode cX4_init 52 = .ok (.aload_n 0, 1) := by decide +kernel
theorem dX4_init_53 : decode cX4_init 53 = .ok (.iconst 0, 1) := by decide +kernel
theorem dX4_init_54 : decode cX4_init 54 = .ok (.putfield 30, 3) := by decide +kernel
theorem dX4_init_57 : decode cX4_init 57 = .ok (.return_, 1) := by decide +kernel
theorem dX4_add_0 : decode cX4_add 0 = .ok (.aload_n 0, 1) := by decide +kernel
theorem dX4_add_1 : decode cX4_add 1 = .ok (.getfield 30, 3) := by decide +kernel
theorem dX4_add_4 : decode cX4_add 4 = .ok (.bipush 60, 2) := by decide +kernel
theorem dX4_add_6 : decode cX4_add 6 = .ok (.if_icmp .lt 5, 3) := by decide +kernel
theorem dX4_add_9 : decode cX4_add 9 = .ok (.iconst (-1), 1) := by decide +kernel
theorem dX4_add_10 : decode cX4_add 10 = .ok (.ireturn, 1) := by decide +kernel
theorem dX4_add_11 : decode cX4_add 11 = .ok (.aload_n 0, 1) := by decide +kernel
theorem dX4_add_12 : decode cX4_add 12 = .ok (.getfield 30, 3) := by decide +kernel
theorem dX4_add_15 : decode cX4_add 15 = .ok (.istore 6, 2) := by decide +kernel
theorem dX4_add_17 : decode cX4_add 17 = .ok (.aload_n 0, 1) := by decide +kernel
theorem dX4_add_18 : decode cX4_add 18 = .ok (.getfield 9, 3) := by decide +kernel
theorem dX4_add_21 : decode cX4_add 21 = .ok (.iload 6, 2) := by decide +kernel
theorem dX4_add_23 : decode cX4_add 23 = .ok (.iload 5, 2) := by decide +kernel
theorem dX4_add_25 : decode cX4_add 25 = .ok (.ifCond .ne 7, 3) := by decide +kernel
theorem dX4_add_28 : decode cX4_add 28 = .ok (.iconst 1, 1) := by decide +kernel
theorem dX4_add_29 : decode cX4_add 29 = .ok (.goto 4, 3) := by decide +kernel
theorem dX4_add_32 : decode cX4_add 32 = .ok (.iconst 0, 1) := by decide +kernel
theorem dX4_add_33 : decode cX4_add 33 = .ok (.iastore, 1) := by decide +kernel
theorem dX4_add_34 : decode cX4_add 34 = .ok (.aload_n 0, 1) := by decide +kernel
theorem dX4_add_35 : decode cX4_add 35 = .ok (.getfield 15, 3) := by decide +kernel
theorem dX4_add_38 : decode cX4_add 38 = .ok (.iload 6, 2) := by decide +kernel
theorem dX4_add_40 : decode cX4_add 40 = .ok (.iload 5, 2) := by decide +kernel
theorem dX4_add_42 : decode cX4_add 42 = .ok (.iastore, 1) := by decide +kernel
theorem dX4_add_43 : decode cX4_add 43 = .ok (.aload_n 0, 1) := by decide +kernel
theorem dX4_add_44 : decode cX4_add 44 = .ok (.getfield 18, 3) := by decide +kernel
theorem dX4_add_47 : decode cX4_add 47 = .ok (.iload 6, 2) := by decide +kernel
theorem dX4_add_49 : decode cX4_add 49 = .ok (.iload_n 2, 1) := by decide +kernel
theorem dX4_add_50 : decode cX4_add 50 = .ok (.iastore, 1) := by decide +kernel
theorem dX4_add_51 : decode cX4_add 51 = .ok (.aload_n 0, 1) := by decide +kernel
theorem dX4_add_52 : decode cX4_add 52 = .ok (.getfield 21, 3) := by decide +kernel
theorem dX4_add_55 : decode cX4_add 55 = .ok (.iload 6, 2) := by decide +kernel
theorem dX4_add_57 : decode cX4_add 57 = .ok (.iload_n 1, 1) := by decide +kernel
theorem dX4_add_58 : decode cX4_add 58 = .ok (.iastore, 1) := by decide +kernel
theorem dX4_add_59 : decode cX4_add 59 = .ok (.aload_n 0, 1) := by decide +kernel
theorem dX4_add_60 : decode cX4_add 60 = .ok (.getfield 24, 3) := by decide +kernel
theorem dX4_add_63 : decode cX4_add 63 = .ok (.iload 6, 2) := by decide +kernel
theorem dX4_add_65 : decode cX4_add 65 = .ok (.iload_n 3, 1) := by decide +kernel
theorem dX4_add_66 : decode cX4_add 66 = .ok (.iastore, 1) := by decide +kernel
theorem dX4_add_67 : decode cX4_add 67 = .ok (.aload_n 0, 1) := by decide +kernel
theorem dX4_add_68 : decode cX4_add 68 = .ok (.getfield 27, 3) := by decide +kernel
theorem dX4_add_71 : decode cX4_add 71 = .ok (.iload 6, 2) := by decide +kernel
theorem dX4_add_73 : decode cX4_add 73 = .ok (.iload 4, 2) := by decide +kernel
theorem dX4_add_75 : decode cX4_add 75 = .ok (.iastore, 1) := by decide +kernel
theorem dX4_add_76 : decode cX4_add 76 = .ok (.aload_n 0, 1) := by decide +kernel
theorem dX4_add_77 : decode cX4_add 77 = .ok (.dup, 1) := by decide +kernel
theorem dX4_add_78 : decode cX4_add 78 = .ok (.getfield 30, 3) := by decide +kernel
theorem dX4_add_81 : decode cX4_add 81 = .ok (.iconst 1, 1) := by decide +kernel
theorem dX4_add_82 : decode cX4_add 82 = .ok (.iadd, 1) := by decide +kernel
theorem dX4_add_83 : decode cX4_add 83 = .ok (.putfield 30, 3) := by decide +kernel
theorem dX4_add_86 : decode cX4_add 86 = .ok (.iload 6, 2) := by decide +kernel
theorem dX4_add_88 : decode cX4_add 88 = .ok (.ireturn, 1) := by decide +kernel
theorem dX4_waitingFor_0 : decode cX4_waitingFor 0 = .ok (.iconst 0, 1) := by decide +kernel
theorem dX4_waitingFor_1 : decode cX4_waitingFor 1 = .ok (.istore_n 2, 1) := by decide +kernel
theorem dX4_waitingFor_2 : decode cX4_waitingFor 2 = .ok (.iload_n 2, 1) := by decide +kernel
theorem dX4_waitingFor_3 : decode cX4_waitingFor 3 = .ok (.aload_n 0, 1) := by decide +kernel
theorem dX4_waitingFor_4 : decode cX4_waitingFor 4 = .ok (.getfield 30, 3) := by decide +kernel
theorem dX4_waitingFor_7 : decode cX4_waitingFor 7 = .ok (.if_icmp .ge 31, 3) := by decide +kernel
theorem dX4_waitingFor_10 : decode cX4_waitingFor 10 = .ok (.aload_n 0, 1) := by decide +kernel
theorem dX4_waitingFor_11 : decode cX4_waitingFor 11 = .ok (.getfield 9, 3) := by decide +kernel
theorem dX4_waitingFor_14 : decode cX4_waitingFor 14 = .ok (.iload_n 2, 1) := by decide +kernel
theorem dX4_waitingFor_15 : decode cX4_waitingFor 15 = .ok (.iaload, 1) := by decide +kernel
theorem dX4_waitingFor_16 : decode cX4_waitingFor 16 = .ok (.iconst 1, 1) := by decide +kernel
theorem dX4_waitingFor_17 : decode cX4_waitingFor 17 = .ok (.if_icmp .ne 15, 3) := by decide +kernel
theorem dX4_waitingFor_20 : decode cX4_waitingFor 20 = .ok (.aload_n 0, 1) := by decide +kernel
theorem dX4_waitingFor_21 : decode cX4_waitingFor 21 = .ok (.getfield 18, 3) := by decide +kernel
theorem dX4_waitingFor_24 : decode cX4_waitingFor 24 = .ok (.iload_n 2, 1) := by decide +kernel
theorem dX4_waitingFor_25 : decode cX4_waitingFor 25 = .ok (.iaload, 1) := by decide +kernel
theorem dX4_waitingFor_26 : decode cX4_waitingFor 26 = .ok (.iload_n 1, 1) := by decide +kernel
theorem dX4_waitingFor_27 : decode cX4_waitingFor 27 = .ok (.if_icmp .ne 5, 3) := by decide +kernel
theorem dX4_waitingFor_30 : decode cX4_waitingFor 30 = .ok (.iload_n 2, 1) := by decide +kernel
theorem dX4_waitingFor_31 : decode cX4_waitingFor 31 = .ok (.ireturn, 1) := by decide +kernel
theorem dX4_waitingFor_32 : decode cX4_waitingFor 32 = .ok (.iinc 2 1, 3) := by decide +kernel
theorem dX4_waitingFor_35 : decode cX4_waitingFor 35 = .ok (.goto (-33), 3) := by decide +kernel
theorem dX4_waitingFor_38 : decode cX4_waitingFor 38 = .ok (.iconst (-1), 1) := by decide +kernel
theorem dX4_waitingFor_39 : decode cX4_waitingFor 39 = .ok (.ireturn, 1) := by decide +kernel
theorem dX4_countWaiting_0 : decode cX4_countWaiting 0 = .ok (.iconst 0, 1) := by decide +kernel
theorem dX4_countWaiting_1 : decode cX4_countWaiting 1 = .ok (.istore_n 1, 1) := by decide +kernel
theorem dX4_countWaiting_2 : decode cX4_countWaiting 2 = .ok (.iconst 0, 1) := by decide +kernel
theorem dX4_countWaiting_3 : decode cX4_countWaiting 3 = .ok (.istore_n 2, 1) := by decide +kernel
theorem dX4_countWaiting_4 : decode cX4_countWaiting 4 = .ok (.iload_n 2, 1) := by decide +kernel
theorem dX4_countWaiting_5 : decode cX4_countWaiting 5 = .ok (.aload_n 0, 1) := by decide +kernel
theorem dX4_countWaiting_6 : decode cX4_countWaiting 6 = .ok (.getfield 30, 3) := by decide +kernel
theorem dX4_countWaiting_9 : decode cX4_countWaiting 9 = .ok (.if_icmp .ge 22, 3) := by decide +kernel
theorem dX4_countWaiting_12 : decode cX4_countWaiting 12 = .ok (.aload_n 0, 1) := by decide +kernel
theorem dX4_countWaiting_13 : decode cX4_countWaiting 13 = .ok (.getfield 9, 3) := by decide +kernel
theorem dX4_countWaiting_16 : decode cX4_countWaiting 16 = .ok (.iload_n 2, 1) := by decide +kernel
theorem dX4_countWaiting_17 : decode cX4_countWaiting 17 = .ok (.iaload, 1) := by decide +kernel
theorem dX4_countWaiting_18 : decode cX4_countWaiting 18 = .ok (.iconst 1, 1) := by decide +kernel
theorem dX4_countWaiting_19 : decode cX4_countWaiting 19 = .ok (.if_icmp .ne 6, 3) := by decide +kernel
theorem dX4_countWaiting_22 : decode cX4_countWaiting 22 = .ok (.iinc 1 1, 3) := by decide +kernel
theorem dX4_countWaiting_25 : decode cX4_countWaiting 25 = .ok (.iinc 2 1, 3) := by decide +kernel
theorem dX4_countWaiting_28 : decode cX4_countWaiting 28 = .ok (.goto (-24), 3) := by decide +kernel
theorem dX4_countWaiting_31 : decode cX4_countWaiting 31 = .ok (.iload_n 1, 1) := by decide +kernel
theorem dX4_countWaiting_32 : decode cX4_countWaiting 32 = .ok (.ireturn, 1) := by decide +kernel
theorem dX4_countWaitingAt_0 : decode cX4_countWaitingAt 0 = .ok (.iconst 0, 1) := by decide +kernel
theorem dX4_countWaitingAt_1 : decode cX4_countWaitingAt 1 = .ok (.istore_n 2, 1) := by decide +kernel
theorem dX4_countWaitingAt_2 : decode cX4_countWaitingAt 2 = .ok (.iconst 0, 1) := by decide +kernel
theorem dX4_countWaitingAt_3 : decode cX4_countWaitingAt 3 = .ok (.istore_n 3, 1) := by decide +kernel
theorem dX4_countWaitingAt_4 : decode cX4_countWaitingAt 4 = .ok (.iload_n 3, 1) := by decide +kernel
theorem dX4_countWaitingAt_5 : decode cX4_countWaitingAt 5 = .ok (.aload_n 0, 1) := by decide +kernel
theorem dX4_countWaitingAt_6 : decode cX4_countWaitingAt 6 = .ok (.getfield 30, 3) := by decide +kernel
theorem dX4_countWaitingAt_9 : decode cX4_countWaitingAt 9 = .ok (.if_icmp .ge 32, 3) := by decide +kernel
theorem dX4_countWaitingAt_12 : decode cX4_countWaitingAt 12 = .ok (.aload_n 0, 1) := by decide +kernel
theorem dX4_countWaitingAt_13 : decode cX4_countWaitingAt 13 = .ok (.getfield 9, 3) := by decide +kernel
theorem dX4_countWaitingAt_16 : decode cX4_countWaitingAt 16 = .ok (.iload_n 3, 1) := by decide +kernel
theorem dX4_countWaitingAt_17 : decode cX4_countWaitingAt 17 = .ok (.iaload, 1) := by decide +kernel
theorem dX4_countWaitingAt_18 : decode cX4_countWaitingAt 18 = .ok (.iconst 1, 1) := by decide +kernel
theorem dX4_countWaitingAt_19 : decode cX4_countWaitingAt 19 = .ok (.if_icmp .ne 16, 3) := by decide +kernel
theorem dX4_countWaitingAt_22 : decode cX4_countWaitingAt 22 = .ok (.aload_n 0, 1) := by decide +kernel
theorem dX4_countWaitingAt_23 : decode cX4_countWaitingAt 23 = .ok (.getfield 27, 3) := by decide +kernel
theorem dX4_countWaitingAt_26 : decode cX4_countWaitingAt 26 = .ok (.iload_n 3, 1) := by decide +kernel
theorem dX4_countWaitingAt_27 : decode cX4_countWaitingAt 27 = .ok (.iaload, 1) := by decide +kernel
theorem dX4_countWaitingAt_28 : decode cX4_countWaitingAt 28 = .ok (.iload_n 1, 1) := by decide +kernel
theorem dX4_countWaitingAt_29 : decode cX4_countWaitingAt 29 = .ok (.if_icmp .ne 6, 3) := by decide +kernel
theorem dX4_countWaitingAt_32 : decode cX4_countWaitingAt 32 = .ok (.iinc 2 1, 3) := by decide +kernel
theorem dX4_countWaitingAt_35 : decode cX4_countWaitingAt 35 = .ok (.iinc 3 1, 3) := by decide +kernel
theorem dX4_countWaitingAt_38 : decode cX4_countWaitingAt 38 = .ok (.goto (-34), 3) := by decide +kernel
theorem dX4_countWaitingAt_41 : decode cX4_countWaitingAt 41 = .ok (.iload_n 2, 1) := by decide +kernel
theorem dX4_countWaitingAt_42 : decode cX4_countWaitingAt 42 = .ok (.ireturn, 1) := by decide +kernel
theorem dX4_cancelFor_0 : decode cX4_cancelFor 0 = .ok (.aload_n 0, 1) := by decide +kernel
theorem dX4_cancelFor_1 : decode cX4_cancelFor 1 = .ok (.iload_n 1, 1) := by decide +kernel
theorem dX4_cancelFor_2 : decode cX4_cancelFor 2 = .ok (.invokevirtual 34, 3) := by decide +kernel
theorem dX4_cancelFor_5 : decode cX4_cancelFor 5 = .ok (.istore_n 2, 1) := by decide +kernel
theorem dX4_cancelFor_6 : decode cX4_cancelFor 6 = .ok (.iload_n 2, 1) := by decide +kernel
theorem dX4_cancelFor_7 : decode cX4_cancelFor 7 = .ok (.iconst (-1), 1) := by decide +kernel
theorem dX4_cancelFor_8 : decode cX4_cancelFor 8 = .ok (.if_icmp .eq 10, 3) := by decide +kernel
theorem dX4_cancelFor_11 : decode cX4_cancelFor 11 = .ok (.aload_n 0, 1) := by decide +kernel
theorem dX4_cancelFor_12 : decode cX4_cancelFor 12 = .ok (.getfield 9, 3) := by decide +kernel
theorem dX4_cancelFor_15 : decode cX4_cancelFor 15 = .ok (.iload_n 2, 1) := by decide +kernel
theorem dX4_cancelFor_16 : decode cX4_cancelFor 16 = .ok (.iconst 3, 1) := by decide +kernel
theorem dX4_cancelFor_17 : decode cX4_cancelFor 17 = .ok (.iastore, 1) := by decide +kernel
theorem dX4_cancelFor_18 : decode cX4_cancelFor 18 = .ok (.return_, 1) := by decide +kernel
theorem dX4_cancelBy_0 : decode cX4_cancelBy 0 = .ok (.iconst 0, 1) := by decide +kernel
theorem dX4_cancelBy_1 : decode cX4_cancelBy 1 = .ok (.istore_n 2, 1) := by decide +kernel
theorem dX4_cancelBy_2 : decode cX4_cancelBy 2 = .ok (.iload_n 2, 1) := by decide +kernel
theorem dX4_cancelBy_3 : decode cX4_cancelBy 3 = .ok (.aload_n 0, 1) := by decide +kernel
theorem dX4_cancelBy_4 : decode cX4_cancelBy 4 = .ok (.getfield 30, 3) := by decide +kernel
theorem dX4_cancelBy_7 : decode cX4_cancelBy 7 = .ok (.if_icmp .ge 36, 3) := by decide +kernel
theorem dX4_cancelBy_10 : decode cX4_cancelBy 10 = .ok (.aload_n 0, 1) := by decide +kernel
theorem dX4_cancelBy_11 : decode cX4_cancelBy 11 = .ok (.getfield 9, 3) := by decide +kernel
theorem dX4_cancelBy_14 : decode cX4_cancelBy 14 = .ok (.iload_n 2, 1) := by decide +kernel
theorem dX4_cancelBy_15 : decode cX4_cancelBy 15 = .ok (.iaload, 1) := by decide +kernel
theorem dX4_cancelBy_16 : decode cX4_cancelBy 16 = .ok (.iconst 1, 1) := by decide +kernel
theorem dX4_cancelBy_17 : decode cX4_cancelBy 17 = .ok (.if_icmp .ne 20, 3) := by decide +kernel
theorem dX4_cancelBy_20 : decode cX4_cancelBy 20 = .ok (.aload_n 0, 1) := by decide +kernel
theorem dX4_cancelBy_21 : decode cX4_cancelBy 21 = .ok (.getfield 21, 3) := by decide +kernel
theorem dX4_cancelBy_24 : decode cX4_cancelBy 24 = .ok (.iload_n 2, 1) := by decide +kernel
theorem dX4_cancelBy_25 : decode cX4_cancelBy 25 = .ok (.iaload, 1) := by decide +kernel
theorem dX4_cancelBy_26 : decode cX4_cancelBy 26 = .ok (.iload_n 1, 1) := by decide +kernel
theorem dX4_cancelBy_27 : decode cX4_cancelBy 27 = .ok (.if_icmp .ne 10, 3) := by decide +kernel
theorem dX4_cancelBy_30 : decode cX4_cancelBy 30 = .ok (.aload_n 0, 1) := by decide +kernel
theorem dX4_cancelBy_31 : decode cX4_cancelBy 31 = .ok (.getfield 9, 3) := by decide +kernel
theorem dX4_cancelBy_34 : decode cX4_cancelBy 34 = .ok (.iload_n 2, 1) := by decide +kernel
theorem dX4_cancelBy_35 : decode cX4_cancelBy 35 = .ok (.iconst 3, 1) := by decide +kernel
theorem dX4_cancelBy_36 : decode cX4_cancelBy 36 = .ok (.iastore, 1) := by decide +kernel
theorem dX4_cancelBy_37 : decode cX4_cancelBy 37 = .ok (.iinc 2 1, 3) := by decide +kernel
theorem dX4_cancelBy_40 : decode cX4_cancelBy 40 = .ok (.goto (-38), 3) := by decide +kernel
theorem dX4_cancelBy_43 : decode cX4_cancelBy 43 = .ok (.return_, 1) := by decide +kernel
theorem dX4_putOff_0 : decode cX4_putOff 0 = .ok (.aload_n 0, 1) := by decide +kernel
theorem dX4_putOff_1 : decode cX4_putOff 1 = .ok (.getfield 27, 3) := by decide +kernel
theorem dX4_putOff_4 : decode cX4_putOff 4 = .ok (.iload_n 1, 1) := by decide +kernel
theorem dX4_putOff_5 : decode cX4_putOff 5 = .ok (.iaload, 1) := by decide +kernel
theorem dX4_putOff_6 : decode cX4_putOff 6 = .ok (.bipush 100, 2) := by decide +kernel
theorem dX4_putOff_8 : decode cX4_putOff 8 = .ok (.iadd, 1) := by decide +kernel
theorem dX4_putOff_9 : decode cX4_putOff 9 = .ok (.istore_n 2, 1) := by decide +kernel
theorem dX4_putOff_10 : decode cX4_putOff 10 = .ok (.iconst 0, 1) := by decide +kernel
theorem dX4_putOff_11 : decode cX4_putOff 11 = .ok (.istore_n 3, 1) := by decide +kernel
theorem dX4_putOff_12 : decode cX4_putOff 12 = .ok (.iload_n 3, 1) := by decide +kernel
theorem dX4_putOff_13 : decode cX4_putOff 13 = .ok (.bipush 60, 2) := by decide +kernel
theorem dX4_putOff_15 : decode cX4_putOff 15 = .ok (.if_icmp .ge 21, 3) := by decide +kernel
theorem dX4_putOff_18 : decode cX4_putOff 18 = .ok (.aload_n 0, 1) := by decide +kernel
theorem dX4_putOff_19 : decode cX4_putOff 19 = .ok (.iload_n 2, 1) := by decide +kernel
theorem dX4_putOff_20 : decode cX4_putOff 20 = .ok (.invokevirtual 38, 3) := by decide +kernel
theorem dX4_putOff_23 : decode cX4_putOff 23 = .ok (.iconst 3, 1) := by decide +kernel
theorem dX4_putOff_24 : decode cX4_putOff 24 = .ok (.if_icmp .lt 12, 3) := by decide +kernel
theorem dX4_putOff_27 : decode cX4_putOff 27 = .ok (.iinc 2 100, 3) := by decide +kernel
theorem dX4_putOff_30 : decode cX4_putOff 30 = .ok (.iinc 3 1, 3) := by decide +kernel
theorem dX4_putOff_33 : decode cX4_putOff 33 = .ok (.goto (-21), 3) := by decide +kernel
theorem dX4_putOff_36 : decode cX4_putOff 36 = .ok (.aload_n 0, 1) := by decide +kernel
theorem dX4_putOff_37 : decode cX4_putOff 37 = .ok (.getfield 27, 3) := by decide +kernel
theorem dX4_putOff_40 : decode cX4_putOff 40 = .ok (.iload_n 1, 1) := by decide +kernel
theorem dX4_putOff_41 : decode cX4_putOff 41 = .ok (.iload_n 2, 1) := by decide +kernel
theorem dX4_putOff_42 : decode cX4_putOff 42 = .ok (.iastore, 1) := by decide +kernel
theorem dX4_putOff_43 : decode cX4_putOff 43 = .ok (.return_, 1) := by decide +kernel
theorem dX5_init_0 : decode cX5_init 0 = .ok (.aload_n 0, 1) := by decide +kernel
theorem dX5_init_1 : decode cX5_init 1 = .ok (.invokespecial 3, 3) := by decide +kernel
theorem dX5_init_4 : decode cX5_init 4 = .ok (.aload_n 0, 1) := by decide +kernel
theorem dX5_init_5 : decode cX5_init 5 = .ok (.bipush 7, 2) := by decide +kernel
theorem dX5_init_7 : decode cX5_init 7 = .ok (.newarray .int, 2) := by decide +kernel
theorem dX5_init_9 : decode cX5_init 9 = .ok (.putfield 9, 3) := by decide +kernel
theorem dX5_init_12 : decode cX5_init 12 = .ok (.aload_n 0, 1) := by decide +kernel
theorem dX5_init_13 : decode cX5_init 13 = .ok (.iconst 0, 1) := by decide +kernel
theorem dX5_init_14 : decode cX5_init 14 = .ok (.putfield 15, 3) := by decide +kernel
theorem dX5_init_17 : decode cX5_init 17 = .ok (.return_, 1) := by decide +kernel
theorem dX5_begin_0 : decode cX5_begin 0 = .ok (.aload_n 0, 1) := by decide +kernel
theorem dX5_begin_1 : decode cX5_begin 1 = .ok (.getfield 9, 3) := by decide +kernel
theorem dX5_begin_4 : decode cX5_begin 4 = .ok (.iconst 0, 1) := by decide +kernel
theorem dX5_begin_5 : decode cX5_begin 5 = .ok (.iload_n 1, 1) := by decide +kernel
theorem dX5_begin_6 : decode cX5_begin 6 = .ok (.iastore, 1) := by decide +kernel
theorem dX5_begin_7 : decode cX5_begin 7 = .ok (.aload_n 0, 1) := by decide +kernel
theorem dX5_begin_8 : decode cX5_begin 8 = .ok (.iconst 1, 1) := by decide +kernel
theorem dX5_begin_9 : decode cX5_begin 9 = .ok (.putfield 15, 3) := by decide +kernel
theorem dX5_begin_12 : decode cX5_begin 12 = .ok (.return_, 1) := by decide +kernel
theorem dX5_add_0 : decode cX5_add 0 = .ok (.aload_n 0, 1) := by decide +kernel
theorem dX5_add_1 : decode cX5_add 1 = .ok (.getfield 15, 3) := by decide +kernel
theorem dX5_add_4 : decode cX5_add 4 = .ok (.aload_n 0, 1) := by decide +kernel
theorem dX5_add_5 : decode cX5_add 5 = .ok (.getfield 9, 3) := by decide +kernel
theorem dX5_add_8 : decode cX5_add 8 = .ok (.arraylength, 1) := by decide +kernel
theorem dX5_add_9 : decode cX5_add 9 = .ok (.if_icmp .ge 23, 3) := by decide +kernel
theorem dX5_add_12 : decode cX5_add 12 = .ok (.aload_n 0, 1) := by decide +kernel
theorem dX5_add_13 : decode cX5_add 13 = .ok (.getfield 9, 3) := by decide +kernel
theorem dX5_add_16 : decode cX5_add 16 = .ok (.aload_n 0, 1) := by decide +kernel
theorem dX5_add_17 : decode cX5_add 17 = .ok (.getfield 15, 3) := by decide +kernel
theorem dX5_add_20 : decode cX5_add 20 = .ok (.iload_n 1, 1) := by decide +kernel
theorem dX5_add_21 : decode cX5_add 21 = .ok (.iastore, 1) := by decide +kernel
theorem dX5_add_22 : decode cX5_add 22 = .ok (.aload_n 0, 1) := by decide +kernel
theorem dX5_add_23 : decode cX5_add 23 = .ok (.dup, 1) := by decide +kernel
theorem dX5_add_24 : decode cX5_add 24 = .ok (.getfield 15, 3) := by decide +kernel
theorem dX5_add_27 : decode cX5_add 27 = .ok (.iconst 1, 1) := by decide +kernel
theorem dX5_add_28 : decode cX5_add 28 = .ok (.iadd, 1) := by decide +kernel
theorem dX5_add_29 : decode cX5_add 29 = .ok (.putfield 15, 3) := by decide +kernel
theorem dX5_add_32 : decode cX5_add 32 = .ok (.return_, 1) := by decide +kernel
theorem dX5_hopAt_0 : decode cX5_hopAt 0 = .ok (.iload_n 1, 1) := by decide +kernel
theorem dX5_hopAt_1 : decode cX5_hopAt 1 = .ok (.ifCond .lt 20, 3) := by decide +kernel
theorem dX5_hopAt_4 : decode cX5_hopAt 4 = .ok (.iload_n 1, 1) := by decide +kernel
theorem dX5_hopAt_5 : decode cX5_hopAt 5 = .ok (.aload_n 0, 1) := by decide +kernel
theorem dX5_hopAt_6 : decode cX5_hopAt 6 = .ok (.getfield 15, 3) := by decide +kernel
theorem dX5_hopAt_9 : decode cX5_hopAt 9 = .ok (.if_icmp .ge 12, 3) := by decide +kernel
theorem dX5_hopAt_12 : decode cX5_hopAt 12 = .ok (.aload_n 0, 1) := by decide +kernel
theorem dX5_hopAt_13 : decode cX5_hopAt 13 = .ok (.getfield 9, 3) := by decide +kernel
theorem dX5_hopAt_16 : decode cX5_hopAt 16 = .ok (.iload_n 1, 1) := by decide +kernel
theorem dX5_hopAt_17 : decode cX5_hopAt 17 = .ok (.iaload, 1) := by decide +kernel
theorem dX5_hopAt_18 : decode cX5_hopAt 18 = .ok (.goto 4, 3) := by decide +kernel
theorem dX5_hopAt_21 : decode cX5_hopAt 21 = .ok (.iconst (-1), 1) := by decide +kernel
theorem dX5_hopAt_22 : decode cX5_hopAt 22 = .ok (.ireturn, 1) := by decide +kernel
theorem dX5_has_0 : decode cX5_has 0 = .ok (.iconst 0, 1) := by decide +kernel
theorem dX5_has_1 : decode cX5_has 1 = .ok (.istore_n 2, 1) := by decide +kernel
theorem dX5_has_2 : decode cX5_has 2 = .ok (.iload_n 2, 1) := by decide +kernel
theorem dX5_has_3 : decode cX5_has 3 = .ok (.aload_n 0, 1) := by decide +kernel
theorem dX5_has_4 : decode cX5_has 4 = .ok (.getfield 15, 3) := by decide +kernel
theorem dX5_has_7 : decode cX5_has 7 = .ok (.if_icmp .ge 21, 3) := by decide +kernel
theorem dX5_has_10 : decode cX5_has 10 = .ok (.aload_n 0, 1) := by decide +kernel
theorem dX5_has_11 : decode cX5_has 11 = .ok (.getfield 9, 3) := by decide +kernel
theorem dX5_has_14 : decode cX5_has 14 = .ok (.iload_n 2, 1) := by decide +kernel
theorem dX5_has_15 : decode cX5_has 15 = .ok (.iaload, 1) := by decide +kernel
theorem dX5_has_16 : decode cX5_has 16 = .ok (.iload_n 1, 1) := by decide +kernel
theorem dX5_has_17 : decode cX5_has 17 = .ok (.if_icmp .ne 5, 3) := by decide +kernel
theorem dX5_has_20 : decode cX5_has 20 = .ok (.iconst 1, 1) := by decide +kernel
theorem dX5_has_21 : decode cX5_has 21 = .ok (.ireturn, 1) := by decide +kernel
theorem dX5_has_22 : decode cX5_has 22 = .ok (.iinc 2 1, 3) := by decide +kernel
theorem dX5_has_25 : decode cX5_has 25 = .ok (.goto (-23), 3) := by decide +kernel
theorem dX5_has_28 : decode cX5_has 28 = .ok (.iconst 0, 1) := by decide +kernel
theorem dX5_has_29 : decode cX5_has 29 = .ok (.ireturn, 1) := by decide +kernel
theorem dX6_init_0 : decode cX6_init 0 = .ok (.aload_n 0, 1) := by decide +kernel
theorem dX6_init_1 : decode cX6_init 1 = .ok (.invokespecial 1, 3) := by decide +kernel
theorem dX6_init_4 : decode cX6_init 4 = .ok (.aload_n 0, 1) := by decide +kernel
theorem dX6_init_5 : decode cX6_init 5 = .ok (.bipush 20, 2) := by decide +kernel
theorem dX6_init_7 : decode cX6_init 7 = .ok (.newarray .int, 2) := by decide +kernel
theorem dX6_init_9 : decode cX6_init 9 = .ok (.putfield 9, 3) := by decide +kernel
theorem dX6_init_12 : decode cX6_init 12 = .ok (.aload_n 0, 1) := by decide +kernel
theorem dX6_init_13 : decode cX6_init 13 = .ok (.new 13, 3) := by decide +kernel
theorem dX6_init_16 : decode cX6_init 16 = .ok (.dup, 1) := by decide +kernel
theorem dX6_init_17 : decode cX6_init 17 = .ok (.invokespecial 15, 3) := by decide +kernel
theorem dX6_init_20 : decode cX6_init 20 = .ok (.putfield 16, 3) := by decide +kernel
theorem dX6_init_23 : decode cX6_init 23 = .ok (.aload_n 0, 1) := by decide +kernel
theorem dX6_init_24 : decode cX6_init 24 = .ok (.new 20, 3) := by decide +kernel
theorem dX6_init_27 : decode cX6_init 27 = .ok (.dup, 1) := by decide +kernel
theorem dX6_init_28 : decode cX6_init 28 = .ok (.invokespecial 22, 3) := by decide +kernel
theorem dX6_init_31 : decode cX6_init 31 = .ok (.putfield 23, 3) := by decide +kernel
theorem dX6_init_34 : decode cX6_init 34 = .ok (.aload_n 0, 1) := by decide +kernel
theorem dX6_init_35 : decode cX6_init 35 = .ok (.new 27, 3) := by decide +kernel
theorem dX6_init_38 : decode cX6_init 38 = .ok (.dup, 1) := by decide +kernel
theorem dX6_init_39 : decode cX6_init 39 = .ok (.invokespecial 29, 3) := by decide +kernel
theorem dX6_init_42 : decode cX6_init 42 = .ok (.putfield 30, 3) := by decide +kernel
theorem dX6_init_45 : decode cX6_init 45 = .ok (.aload_n 0, 1) := by decide +kernel
theorem dX6_init_46 : decode cX6_init 46 = .ok (.new 34, 3) := by decide +kernel
theorem dX6_init_49 : decode cX6_init 49 = .ok (.dup, 1) := by decide +kernel
theorem dX6_init_50 : decode cX6_init 50 = .ok (.invokespecial 36, 3) := by decide +kernel
theorem dX6_init_53 : decode cX6_init 53 = .ok (.putfield 37, 3) := by decide +kernel
theorem dX6_init_56 : decode cX6_init 56 = .ok (.aload_n 0, 1) := by decide +kernel
theorem dX6_init_57 : decode cX6_init 57 = .ok (.new 41, 3) := by decide +kernel
theorem dX6_init_60 : decode cX6_init 60 = .ok (.dup, 1) := by decide +kernel
theorem dX6_init_61 : decode cX6_init 61 = .ok (.invokespecial 43, 3) := by decide +kernel
theorem dX6_init_64 : decode cX6_init 64 = .ok (.putfield 44, 3) := by decide +kernel
theorem dX6_init_67 : decode cX6_init 67 = .ok (.aload_n 0, 1) := by decide +kernel
theorem dX6_init_68 : decode cX6_init 68 = .ok (.new 48, 3) := by decide +kernel
theorem dX6_init_71 : decode cX6_init 71 = .ok (.dup, 1) := by decide +kernel
theorem dX6_init_72 : decode cX6_init 72 = .ok (.invokespecial 50, 3) := by decide +kernel
theorem dX6_init_75 : decode cX6_init 75 = .ok (.putfield 51, 3) := by decide +kernel
theorem dX6_init_78 : decode cX6_init 78 = .ok (.aload_n 0, 1) := by decide +kernel
theorem dX6_init_79 : decode cX6_init 79 = .ok (.iconst 0, 1) := by decide +kernel
theorem dX6_init_80 : decode cX6_init 80 = .ok (.putfield 55, 3) := by decide +kernel
theorem dX6_init_83 : decode cX6_init 83 = .ok (.aload_n 0, 1) := by decide +kernel
theorem dX6_init_84 : decode cX6_init 84 = .ok (.getfield 9, 3) := by decide +kernel
theorem dX6_init_87 : decode cX6_init 87 = .ok (.iconst (-1), 1) := by decide +kernel
theorem dX6_init_88 : decode cX6_init 88 = .ok (.invokestatic 59, 3) := by decide +kernel
theorem dX6_init_91 : decode cX6_init 91 = .ok (.return_, 1) := by decide +kernel
theorem dX6_give_0 : decode cX6_give 0 = .ok (.iload_n 1, 1) := by decide +kernel
theorem dX6_give_1 : decode cX6_give 1 = .ok (.invokestatic 65, 3) := by decide +kernel
theorem dX6_give_4 : decode cX6_give 4 = .ok (.ifCond .eq 10, 3) := by decide +kernel
theorem dX6_give_7 : decode cX6_give 7 = .ok (.iload_n 2, 1) := by decide +kernel
theorem dX6_give_8 : decode cX6_give 8 = .ok (.invokestatic 69, 3) := by decide +kernel
theorem dX6_give_11 : decode cX6_give 11 = .ok (.ifCond .ne 13, 3) := by decide +kernel
theorem dX6_give_14 : decode cX6_give 14 = .ok (.new 72, 3) := by decide +kernel
theorem dX6_give_17 : decode cX6_give 17 = .ok (.dup, 1) := by decide +kernel
theorem dX6_give_18 : decode cX6_give 18 = .ok (.ldc 74, 2) := by decide +kernel
theorem dX6_give_20 : decode cX6_give 20 = .ok (.invokespecial 76, 3) := by decide +kernel
theorem dX6_give_23 : decode cX6_give 23 = .ok (.athrow, 1) := by decide +kernel
theorem dX6_give_24 : decode cX6_give 24 = .ok (.aload_n 0, 1) := by decide +kernel
theorem dX6_give_25 : decode cX6_give 25 = .ok (.getfield 9, 3) := by decide +kernel
theorem dX6_give_28 : decode cX6_give 28 = .ok (.iload_n 1, 1) := by decide +kernel
theorem dX6_give_29 : decode cX6_give 29 = .ok (.iaload, 1) := by decide +kernel
theorem dX6_give_30 : decode cX6_give 30 = .ok (.iconst (-1), 1) := by decide +kernel
theorem dX6_give_31 : decode cX6_give 31 = .ok (.if_icmp .ne 15, 3) := by decide +kernel
theorem dX6_give_34 : decode cX6_give 34 = .ok (.aload_n 0, 1) := by decide +kernel
theorem dX6_give_35 : decode cX6_give 35 = .ok (.getfield 16, 3) := by decide +kernel
theorem dX6_give_38 : decode cX6_give 38 = .ok (.getfield 79, 3) := by decide +kernel
theorem dX6_give_41 : decode cX6_give 41 = .ok (.iload_n 2, 1) := by decide +kernel
theorem dX6_give_42 : decode cX6_give 42 = .ok (.baload, 1) := by decide +kernel
theorem dX6_give_43 : decode cX6_give 43 = .ok (.ifCond .eq 13, 3) := by decide +kernel
theorem dX6_give_46 : decode cX6_give 46 = .ok (.new 83, 3) := by decide +kernel
theorem dX6_give_49 : decode cX6_give 49 = .ok (.dup, 1) := by decide +kernel
theorem dX6_give_50 : decode cX6_give 50 = .ok (.ldc 85, 2) := by decide +kernel
theorem dX6_give_52 : decode cX6_give 52 = .ok (.invokespecial 87, 3) := by decide +kernel
theorem dX6_give_55 : decode cX6_give 55 = .ok (.athrow, 1) := by decide +kernel
theorem dX6_give_56 : decode cX6_give 56 = .ok (.aload_n 0, 1) := by decide +kernel
theorem dX6_give_57 : decode cX6_give 57 = .ok (.getfield 9, 3) := by decide +kernel
theorem dX6_give_60 : decode cX6_give 60 = .ok (.iload_n 1, 1) := by decide +kernel
theorem dX6_give_61 : decode cX6_give 61 = .ok (.iload_n 2, 1) := by decide +kernel
theorem dX6_give_62 : decode cX6_give 62 = .ok (.iastore, 1) := by decide +kernel
theorem dX6_give_63 : decode cX6_give 63 = .ok (.aload_n 0, 1) := by decide +kernel
theorem dX6_give_64 : decode cX6_give 64 = .ok (.iload_n 2, 1) := by decide +kernel
theorem dX6_give_65 : decode cX6_give 65 = .ok (.invokevirtual 88, 3) := by decide +kernel
theorem dX6_give_68 : decode cX6_give 68 = .ok (.ireturn, 1) := by decide +kernel
theorem dX6_giveBack_0 : decode cX6_giveBack 0 = .ok (.iload_n 1, 1) := by decide +kernel
theorem dX6_giveBack_1 : decode cX6_giveBack 1 = .ok (.invokestatic 65, 3) := by decide +kernel
theorem dX6_giveBack_4 : decode cX6_giveBack 4 = .ok (.ifCond .ne 13, 3) := by decide +kernel
theorem dX6_giveBack_7 : decode cX6_giveBack 7 = .ok (.new 72, 3) := by decide +kernel
theorem dX6_giveBack_10 : decode cX6_giveBack 10 = .ok (.dup, 1) := by decide +kernel
theorem dX6_giveBack_11 : decode cX6_giveBack 11 = .ok (.ldc 92, 2) := by decide +kernel
theorem dX6_giveBack_13 : decode cX6_giveBack 13 = .ok (.invokespecial 76, 3) := by decide +kernel
theorem dX6_giveBack_16 : decode cX6_giveBack 16 = .ok (.athrow, 1) := by decide +kernel
theorem dX6_giveBack_17 : decode cX6_giveBack 17 = .ok (.aload_n 0, 1) := by decide +kernel
theorem dX6_giveBack_18 : decode cX6_giveBack 18 = .ok (.getfield 9, 3) := by decide +kernel
theorem dX6_giveBack_21 : decode cX6_giveBack 21 = .ok (.iload_n 1, 1) := by decide +kernel
theorem dX6_giveBack_22 : decode cX6_giveBack 22 = .ok (.iaload, 1) := by decide +kernel
theorem dX6_giveBack_23 : decode cX6_giveBack 23 = .ok (.iconst (-1), 1) := by decide +kernel
theorem dX6_giveBack_24 : decode cX6_giveBack 24 = .ok (.if_icmp .eq 11, 3) := by decide +kernel
theorem dX6_giveBack_27 : decode cX6_giveBack 27 = .ok (.aload_n 0, 1) := by decide +kernel
theorem dX6_giveBack_28 : decode cX6_giveBack 28 = .ok (.iload_n 1, 1) := by decide +kernel
theorem dX6_giveBack_29 : decode cX6_giveBack 29 = .ok (.invokevirtual 94, 3) := by decide +kernel
theorem dX6_giveBack_32 : decode cX6_giveBack 32 = .ok (.ifCond .eq 13, 3) := by decide +kernel
theorem dX6_giveBack_35 : decode cX6_giveBack 35 = .ok (.new 83, 3) := by decide +kernel
theorem dX6_giveBack_38 : decode cX6_giveBack 38 = .ok (.dup, 1) := by decide +kernel
theorem dX6_giveBack_39 : decode cX6_giveBack 39 = .ok (.ldc 97, 2) := by decide +kernel
theorem dX6_giveBack_41 : decode cX6_giveBack 41 = .ok (.invokespecial 87, 3) := by decide +kernel
theorem dX6_giveBack_44 : decode cX6_giveBack 44 = .ok (.athrow, 1) := by decide +kernel
theorem dX6_giveBack_45 : decode cX6_giveBack 45 = .ok (.aload_n 0, 1) := by decide +kernel
theorem dX6_giveBack_46 : decode cX6_giveBack 46 = .ok (.getfield 9, 3) := by decide +kernel
theorem dX6_giveBack_49 : decode cX6_giveBack 49 = .ok (.iload_n 1, 1) := by decide +kernel
theorem dX6_giveBack_50 : decode cX6_giveBack 50 = .ok (.iaload, 1) := by decide +kernel
theorem dX6_giveBack_51 : decode cX6_giveBack 51 = .ok (.istore_n 2, 1) := by decide +kernel
theorem dX6_giveBack_52 : decode cX6_giveBack 52 = .ok (.aload_n 0, 1) := by decide +kernel
theorem dX6_giveBack_53 : decode cX6_giveBack 53 = .ok (.getfield 9, 3) := by decide +kernel
theorem dX6_giveBack_56 : decode cX6_giveBack 56 = .ok (.iload_n 1, 1) := by decide +kernel
theorem dX6_giveBack_57 : decode cX6_giveBack 57 = .ok (.iconst (-1), 1) := by decide +kernel
theorem dX6_giveBack_58 : decode cX6_giveBack 58 = .ok (.iastore, 1) := by decide +kernel
theorem dX6_giveBack_59 : decode cX6_giveBack 59 = .ok (.iload_n 2, 1) := by decide +kernel
theorem dX6_giveBack_60 : decode cX6_giveBack 60 = .ok (.ireturn, 1) := by decide +kernel
theorem dX6_assign_0 : decode cX6_assign 0 = .ok (.iload_n 1, 1) := by decide +kernel
theorem dX6_assign_1 : decode cX6_assign 1 = .ok (.invokestatic 99, 3) := by decide +kernel
theorem dX6_assign_4 : decode cX6_assign 4 = .ok (.iload_n 2, 1) := by decide +kernel
theorem dX6_assign_5 : decode cX6_assign 5 = .ok (.invokestatic 103, 3) := by decide +kernel
theorem dX6_assign_8 : decode cX6_assign 8 = .ok (.aload_n 0, 1) := by decide +kernel
theorem dX6_assign_9 : decode cX6_assign 9 = .ok (.iload_n 1, 1) := by decide +kernel
theorem dX6_assign_10 : decode cX6_assign 10 = .ok (.invokevirtual 106, 3) := by decide +kernel
theorem dX6_assign_13 : decode cX6_assign 13 = .ok (.istore_n 3, 1) := by decide +kernel
theorem dX6_assign_14 : decode cX6_assign 14 = .ok (.iload_n 3, 1) := by decide +kernel
theorem dX6_assign_15 : decode cX6_assign 15 = .ok (.iconst (-1), 1) := by decide +kernel
theorem dX6_assign_16 : decode cX6_assign 16 = .ok (.if_icmp .eq 29, 3) := by decide +kernel
theorem dX6_assign_19 : decode cX6_assign 19 = .ok (.aload_n 0, 1) := by decide +kernel
theorem dX6_assign_20 : decode cX6_assign 20 = .ok (.getfield 23, 3) := by decide +kernel
theorem dX6_assign_23 : decode cX6_assign 23 = .ok (.iload_n 1, 1) := by decide +kernel
theorem dX6_assign_24 : decode cX6_assign 24 = .ok (.invokevirtual 109, 3) := by decide +kernel
theorem dX6_assign_27 : decode cX6_assign 27 = .ok (.ifCond .ne 18, 3) := by decide +kernel
theorem dX6_assign_30 : decode cX6_assign 30 = .ok (.aload_n 0, 1) := by decide +kernel
theorem dX6_assign_31 : decode cX6_assign 31 = .ok (.getfield 23, 3) := by decide +kernel
theorem dX6_assign_34 : decode cX6_assign 34 = .ok (.iload_n 1, 1) := by decide +kernel
theorem dX6_assign_35 : decode cX6_assign 35 = .ok (.aload_n 0, 1) := by decide +kernel
theorem dX6_assign_36 : decode cX6_assign 36 = .ok (.getfield 55, 3) := by decide +kernel
theorem dX6_assign_39 : decode cX6_assign 39 = .ok (.invokevirtual 112, 3) := by decide +kernel
theorem dX6_assign_42 : decode cX6_assign 42 = .ok (.ifCond .eq 13, 3) := by decide +kernel
theorem dX6_assign_45 : decode cX6_assign 45 = .ok (.new 83, 3) := by decide +kernel
theorem dX6_assign_48 : decode cX6_assign 48 = .ok (.dup, 1) := by decide +kernel
theorem dX6_assign_49 : decode cX6_assign 49 = .ok (.ldc 116, 2) := by decide +kernel
theorem dX6_assign_51 : decode cX6_assign 51 = .ok (.invokespecial 87, 3) := by decide +kernel
theorem dX6_assign_54 : decode cX6_assign 54 = .ok (.athrow, 1) := by decide +kernel
theorem dX6_assign_55 : decode cX6_assign 55 = .ok (.aload_n 0, 1) := by decide +kernel
theorem dX6_assign_56 : decode cX6_assign 56 = .ok (.getfield 23, 3) := by decide +kernel
theorem dX6_assign_59 : decode cX6_assign 59 = .ok (.iload_n 1, 1) := by decide +kernel
theorem dX6_assign_60 : decode cX6_assign 60 = .ok (.iload_n 3, 1) := by decide +kernel
theorem dX6_assign_61 : decode cX6_assign 61 = .ok (.iload_n 2, 1) := by decide +kernel
theorem dX6_assign_62 : decode cX6_assign 62 = .ok (.invokevirtual 118, 3) := by decide +kernel
theorem dX6_assign_65 : decode cX6_assign 65 = .ok (.aload_n 0, 1) := by decide +kernel
theorem dX6_assign_66 : decode cX6_assign 66 = .ok (.getfield 44, 3) := by decide +kernel
theorem dX6_assign_69 : decode cX6_assign 69 = .ok (.iload_n 1, 1) := by decide +kernel
theorem dX6_assign_70 : decode cX6_assign 70 = .ok (.iload_n 3, 1) := by decide +kernel
theorem dX6_assign_71 : decode cX6_assign 71 = .ok (.invokevirtual 122, 3) := by decide +kernel
theorem dX6_assign_74 : decode cX6_assign 74 = .ok (.iload_n 3, 1) := by decide +kernel
theorem dX6_assign_75 : decode cX6_assign 75 = .ok (.ireturn, 1) := by decide +kernel
theorem dX6_end_0 : decode cX6_end 0 = .ok (.iload_n 1, 1) := by decide +kernel
theorem dX6_end_1 : decode cX6_end 1 = .ok (.invokestatic 99, 3) := by decide +kernel
theorem dX6_end_4 : decode cX6_end 4 = .ok (.aload_n 0, 1) := by decide +kernel
theorem dX6_end_5 : decode cX6_end 5 = .ok (.iload_n 1, 1) := by decide +kernel
theorem dX6_end_6 : decode cX6_end 6 = .ok (.invokevirtual 126, 3) := by decide +kernel
theorem dX6_end_9 : decode cX6_end 9 = .ok (.aload_n 0, 1) := by decide +kernel
theorem dX6_end_10 : decode cX6_end 10 = .ok (.getfield 23, 3) := by decide +kernel
theorem dX6_end_13 : decode cX6_end 13 = .ok (.getfield 129, 3) := by decide +kernel
theorem dX6_end_16 : decode cX6_end 16 = .ok (.iload_n 1, 1) := by decide +kernel
theorem dX6_end_17 : decode cX6_end 17 = .ok (.iaload, 1) := by decide +kernel
theorem dX6_end_18 : decode cX6_end 18 = .ok (.istore_n 2, 1) := by decide +kernel
theorem dX6_end_19 : decode cX6_end 19 = .ok (.aload_n 0, 1) := by decide +kernel
theorem dX6_end_20 : decode cX6_end 20 = .ok (.getfield 23, 3) := by decide +kernel
theorem dX6_end_23 : decode cX6_end 23 = .ok (.iload_n 1, 1) := by decide +kernel
theorem dX6_end_24 : decode cX6_end 24 = .ok (.aload_n 0, 1) := by decide +kernel
theorem dX6_end_25 : decode cX6_end 25 = .ok (.getfield 55, 3) := by decide +kernel
theorem dX6_end_28 : decode cX6_end 28 = .ok (.invokevirtual 132, 3) := by decide +kernel
theorem dX6_end_31 : decode cX6_end 31 = .ok (.aload_n 0, 1) := by decide +kernel
theorem dX6_end_32 : decode cX6_end 32 = .ok (.getfield 44, 3) := by decide +kernel
theorem dX6_end_35 : decode cX6_end 35 = .ok (.iload_n 1, 1) := by decide +kernel
theorem dX6_end_36 : decode cX6_end 36 = .ok (.iconst (-1), 1) := by decide +kernel
theorem dX6_end_37 : decode cX6_end 37 = .ok (.invokevirtual 122, 3) := by decide +kernel
theorem dX6_end_40 : decode cX6_end 40 = .ok (.aload_n 0, 1) := by decide +kernel
theorem dX6_end_41 : decode cX6_end 41 = .ok (.getfield 30, 3) := by decide +kernel
theorem dX6_end_44 : decode cX6_end 44 = .ok (.iload_n 1, 1) := by decide +kernel
theorem dX6_end_45 : decode cX6_end 45 = .ok (.invokevirtual 135, 3) := by decide +kernel
theorem dX6_end_48 : decode cX6_end 48 = .ok (.iload_n 2, 1) := by decide +kernel
theorem dX6_end_49 : decode cX6_end 49 = .ok (.aload_n 0, 1) := by decide +kernel
theorem dX6_end_50 : decode cX6_end 50 = .ok (.iload_n 1, 1) := by decide +kernel
theorem dX6_end_51 : decode cX6_end 51 = .ok (.invokevirtual 106, 3) := by decide +kernel
theorem dX6_end_54 : decode cX6_end 54 = .ok (.if_icmp .eq 17, 3) := by decide +kernel
theorem dX6_end_57 : decode cX6_end 57 = .ok (.aload_n 0, 1) := by decide +kernel
theorem dX6_end_58 : decode cX6_end 58 = .ok (.getfield 37, 3) := by decide +kernel
theorem dX6_end_61 : decode cX6_end 61 = .ok (.aload_n 0, 1) := by decide +kernel
theorem dX6_end_62 : decode cX6_end 62 = .ok (.getfield 55, 3) := by decide +kernel
theorem dX6_end_65 : decode cX6_end 65 = .ok (.iload_n 1, 1) := by decide +kernel
theorem dX6_end_66 : decode cX6_end 66 = .ok (.bipush 6, 2) := by decide +kernel
theorem dX6_end_68 : decode cX6_end 68 = .ok (.invokevirtual 138, 3) := by decide +kernel
theorem dX6_end_71 : decode cX6_end 71 = .ok (.iload_n 2, 1) := by decide +kernel
theorem dX6_end_72 : decode cX6_end 72 = .ok (.ireturn, 1) := by decide +kernel
theorem dX6_swap_0 : decode cX6_swap 0 = .ok (.iload_n 1, 1) := by decide +kernel
theorem dX6_swap_1 : decode cX6_swap 1 = .ok (.invokestatic 99, 3) := by decide +kernel
theorem dX6_swap_4 : decode cX6_swap 4 = .ok (.iload_n 2, 1) := by decide +kernel
theorem dX6_swap_5 : decode cX6_swap 5 = .ok (.invokestatic 103, 3) := by decide +kernel
theorem dX6_swap_8 : decode cX6_swap 8 = .ok (.aload_n 0, 1) := by decide +kernel
theorem dX6_swap_9 : decode cX6_swap 9 = .ok (.iload_n 1, 1) := by decide +kernel
theorem dX6_swap_10 : decode cX6_swap 10 = .ok (.invokevirtual 126, 3) := by decide +kernel
theorem dX6_swap_13 : decode cX6_swap 13 = .ok (.aload_n 0, 1) := by decide +kernel
theorem dX6_swap_14 : decode cX6_swap 14 = .ok (.getfield 23, 3) := by decide +kernel
theorem dX6_swap_17 : decode cX6_swap 17 = .ok (.getfield 141, 3) := by decide +kernel
theorem dX6_swap_20 : decode cX6_swap 20 = .ok (.iload_n 1, 1) := by decide +kernel
theorem dX6_swap_21 : decode cX6_swap 21 = .ok (.iaload, 1) := by decide +kernel
theorem dX6_swap_22 : decode cX6_swap 22 = .ok (.istore_n 3, 1) := by decide +kernel
theorem dX6_swap_23 : decode cX6_swap 23 = .ok (.aload_n 0, 1) := by decide +kernel
theorem dX6_swap_24 : decode cX6_swap 24 = .ok (.getfield 23, 3) := by decide +kernel
theorem dX6_swap_27 : decode cX6_swap 27 = .ok (.getfield 141, 3) := by decide +kernel
theorem dX6_swap_30 : decode cX6_swap 30 = .ok (.iload_n 1, 1) := by decide +kernel
theorem dX6_swap_31 : decode cX6_swap 31 = .ok (.iload_n 2, 1) := by decide +kernel
theorem dX6_swap_32 : decode cX6_swap 32 = .ok (.iastore, 1) := by decide +kernel
theorem dX6_swap_33 : decode cX6_swap 33 = .ok (.aload_n 0, 1) := by decide +kernel
theorem dX6_swap_34 : decode cX6_swap 34 = .ok (.getfield 23, 3) := by decide +kernel
theorem dX6_swap_37 : decode cX6_swap 37 = .ok (.getfield 144, 3) := by decide +kernel
theorem dX6_swap_40 : decode cX6_swap 40 = .ok (.iload_n 1, 1) := by decide +kernel
theorem dX6_swap_41 : decode cX6_swap 41 = .ok (.aload_n 0, 1) := by decide +kernel
theorem dX6_swap_42 : decode cX6_swap 42 = .ok (.getfield 55, 3) := by decide +kernel
theorem dX6_swap_45 : decode cX6_swap 45 = .ok (.bipush 49, 2) := by decide +kernel
theorem dX6_swap_47 : decode cX6_swap 47 = .ok (.iadd, 1) := by decide +kernel
theorem dX6_swap_48 : decode cX6_swap 48 = .ok (.iastore, 1) := by decide +kernel
theorem dX6_swap_49 : decode cX6_swap 49 = .ok (.iload_n 3, 1) := by decide +kernel
theorem dX6_swap_50 : decode cX6_swap 50 = .ok (.ireturn, 1) := by decide +kernel
theorem dX6_emergency_0 : decode cX6_emergency 0 = .ok (.iload_n 1, 1) := by decide +kernel
theorem dX6_emergency_1 : decode cX6_emergency 1 = .ok (.invokestatic 99, 3) := by decide +kernel
theorem dX6_emergency_4 : decode cX6_emergency 4 = .ok (.aload_n 0, 1) := by decide +kernel
theorem dX6_emergency_5 : decode cX6_emergency 5 = .ok (.iload_n 1, 1) := by decide +kernel
theorem dX6_emergency_6 : decode cX6_emergency 6 = .ok (.invokevirtual 126, 3) := by decide +kernel
theorem dX6_emergency_9 : decode cX6_emergency 9 = .ok (.aload_n 0, 1) := by decide +kernel
theorem dX6_emergency_10 : decode cX6_emergency 10 = .ok (.getfield 23, 3) := by decide +kernel
theorem dX6_emergency_13 : decode cX6_emergency 13 = .ok (.getfield 147, 3) := by decide +kernel
theorem dX6_emergency_16 : decode cX6_emergency 16 = .ok (.iload_n 1, 1) := by decide +kernel
theorem dX6_emergency_17 : decode cX6_emergency 17 = .ok (.aload_n 0, 1) := by decide +kernel
theorem dX6_emergency_18 : decode cX6_emergency 18 = .ok (.getfield 55, 3) := by decide +kernel
theorem dX6_emergency_21 : decode cX6_emergency 21 = .ok (.bipush 30, 2) := by decide +kernel
theorem dX6_emergency_23 : decode cX6_emergency 23 = .ok (.iadd, 1) := by decide +kernel
theorem dX6_emergency_24 : decode cX6_emergency 24 = .ok (.iastore, 1) := by decide +kernel
theorem dX6_emergency_25 : decode cX6_emergency 25 = .ok (.aload_n 0, 1) := by decide +kernel
theorem dX6_emergency_26 : decode cX6_emergency 26 = .ok (.getfield 23, 3) := by decide +kernel
theorem dX6_emergency_29 : decode cX6_emergency 29 = .ok (.getfield 147, 3) := by decide +kernel
theorem dX6_emergency_32 : decode cX6_emergency 32 = .ok (.iload_n 1, 1) := by decide +kernel
theorem dX6_emergency_33 : decode cX6_emergency 33 = .ok (.iaload, 1) := by decide +kernel
theorem dX6_emergency_34 : decode cX6_emergency 34 = .ok (.ireturn, 1) := by decide +kernel
theorem dX6_endFirm_0 : decode cX6_endFirm 0 = .ok (.iload_n 1, 1) := by decide +kernel
theorem dX6_endFirm_1 : decode cX6_endFirm 1 = .ok (.invokestatic 150, 3) := by decide +kernel
theorem dX6_endFirm_4 : decode cX6_endFirm 4 = .ok (.iload_n 2, 1) := by decide +kernel
theorem dX6_endFirm_5 : decode cX6_endFirm 5 = .ok (.invokestatic 150, 3) := by decide +kernel
theorem dX6_endFirm_8 : decode cX6_endFirm 8 = .ok (.iload_n 1, 1) := by decide +kernel
theorem dX6_endFirm_9 : decode cX6_endFirm 9 = .ok (.iload_n 2, 1) := by decide +kernel
theorem dX6_endFirm_10 : decode cX6_endFirm 10 = .ok (.if_icmp .ne 13, 3) := by decide +kernel
theorem dX6_endFirm_13 : decode cX6_endFirm 13 = .ok (.new 153, 3) := by decide +kernel
theorem dX6_endFirm_16 : decode cX6_endFirm 16 = .ok (.dup, 1) := by decide +kernel
theorem dX6_endFirm_17 : decode cX6_endFirm 17 = .ok (.ldc 155, 2) := by decide +kernel
theorem dX6_endFirm_19 : decode cX6_endFirm 19 = .ok (.invokespecial 157, 3) := by decide +kernel
theorem dX6_endFirm_22 : decode cX6_endFirm 22 = .ok (.athrow, 1) := by decide +kernel
theorem dX6_endFirm_23 : decode cX6_endFirm 23 = .ok (.aload_n 0, 1) := by decide +kernel
theorem dX6_endFirm_24 : decode cX6_endFirm 24 = .ok (.getfield 16, 3) := by decide +kernel
theorem dX6_endFirm_27 : decode cX6_endFirm 27 = .ok (.getfield 79, 3) := by decide +kernel
theorem dX6_endFirm_30 : decode cX6_endFirm 30 = .ok (.iload_n 1, 1) := by decide +kernel
theorem dX6_endFirm_31 : decode cX6_endFirm 31 = .ok (.baload, 1) := by decide +kernel
theorem dX6_endFirm_32 : decode cX6_endFirm 32 = .ok (.ifCond .ne 15, 3) := by decide +kernel
theorem dX6_endFirm_35 : decode cX6_endFirm 35 = .ok (.aload_n 0, 1) := by decide +kernel
theorem dX6_endFirm_36 : decode cX6_endFirm 36 = .ok (.getfield 16, 3) := by decide +kernel
theorem dX6_endFirm_39 : decode cX6_endFirm 39 = .ok (.getfield 79, 3) := by decide +kernel
theorem dX6_endFirm_42 : decode cX6_endFirm 42 = .ok (.iload_n 2, 1) := by decide +kernel
theorem dX6_endFirm_43 : decode cX6_endFirm 43 = .ok (.baload, 1) := by decide +kernel
theorem dX6_endFirm_44 : decode cX6_endFirm 44 = .ok (.ifCond .eq 13, 3) := by decide +kernel
theorem dX6_endFirm_47 : decode cX6_endFirm 47 = .ok (.new 83, 3) := by decide +kernel
theorem dX6_endFirm_50 : decode cX6_endFirm 50 = .ok (.dup, 1) := by decide +kernel
theorem dX6_endFirm_51 : decode cX6_endFirm 51 = .ok (.ldc 158, 2) := by decide +kernel
theorem dX6_endFirm_53 : decode cX6_endFirm 53 = .ok (.invokespecial 87, 3) := by decide +kernel
theorem dX6_endFirm_56 : decode cX6_endFirm 56 = .ok (.athrow, 1) := by decide +kernel
theorem dX6_endFirm_57 : decode cX6_endFirm 57 = .ok (.aload_n 0, 1) := by decide +kernel
theorem dX6_endFirm_58 : decode cX6_endFirm 58 = .ok (.getfield 16, 3) := by decide +kernel
theorem dX6_endFirm_61 : decode cX6_endFirm 61 = .ok (.getfield 79, 3) := by decide +kernel
theorem dX6_endFirm_64 : decode cX6_endFirm 64 = .ok (.iload_n 1, 1) := by decide +kernel
theorem dX6_endFirm_65 : decode cX6_endFirm 65 = .ok (.iconst 1, 1) := by decide +kernel
theorem dX6_endFirm_66 : decode cX6_endFirm 66 = .ok (.bastore, 1) := by decide +kernel
theorem dX6_endFirm_67 : decode cX6_endFirm 67 = .ok (.iconst 0, 1) := by decide +kernel
theorem dX6_endFirm_68 : decode cX6_endFirm 68 = .ok (.istore_n 3, 1) := by decide +kernel
theorem dX6_endFirm_69 : decode cX6_endFirm 69 = .ok (.iconst 0, 1) := by decide +kernel
theorem dX6_endFirm_70 : decode cX6_endFirm 70 = .ok (.istore 4, 2) := by decide +kernel
theorem dX6_endFirm_72 : decode cX6_endFirm 72 = .ok (.iload 4, 2) := by decide +kernel
theorem dX6_endFirm_74 : decode cX6_endFirm 74 = .ok (.bipush 20, 2) := by decide +kernel
theorem dX6_endFirm_76 : decode cX6_endFirm 76 = .ok (.if_icmp .ge 20, 3) := by decide +kernel
theorem dX6_endFirm_79 : decode cX6_endFirm 79 = .ok (.iload_n 3, 1) := by decide +kernel
theorem dX6_endFirm_80 : decode cX6_endFirm 80 = .ok (.aload_n 0, 1) := by decide +kernel
theorem dX6_endFirm_81 : decode cX6_endFirm 81 = .ok (.iload 4, 2) := by decide +kernel
theorem dX6_endFirm_83 : decode cX6_endFirm 83 = .ok (.iload_n 1, 1) := by decide +kernel
theorem dX6_endFirm_84 : decode cX6_endFirm 84 = .ok (.iload_n 2, 1) := by decide +kernel
theorem dX6_endFirm_85 : decode cX6_endFirm 85 = .ok (.invokevirtual 160, 3) := by decide +kernel
theorem dX6_endFirm_88 : decode cX6_endFirm 88 = .ok (.iadd, 1) := by decide +kernel
theorem dX6_endFirm_89 : decode cX6_endFirm 89 = .ok (.istore_n 3, 1) := by decide +kernel
theorem dX6_endFirm_90 : decode cX6_endFirm 90 = .ok (.iinc 4 1, 3) := by decide +kernel
theorem dX6_endFirm_93 : decode cX6_endFirm 93 = .ok (.goto (-21), 3) := by decide +kernel
theorem dX6_endFirm_96 : decode cX6_endFirm 96 = .ok (.aload_n 0, 1) := by decide +kernel
theorem dX6_endFirm_97 : decode cX6_endFirm 97 = .ok (.getfield 44, 3) := by decide +kernel
theorem dX6_endFirm_100 : decode cX6_endFirm 100 = .ok (.iload_n 1, 1) := by decide +kernel
theorem dX6_endFirm_101 : decode cX6_endFirm 101 = .ok (.iload_n 2, 1) := by decide +kernel
theorem dX6_endFirm_102 : decode cX6_endFirm 102 = .ok (.invokevirtual 164, 3) := by decide +kernel
theorem dX6_endFirm_105 : decode cX6_endFirm 105 = .ok (.aload_n 0, 1) := by decide +kernel
theorem dX6_endFirm_106 : decode cX6_endFirm 106 = .ok (.getfield 30, 3) := by decide +kernel
theorem dX6_endFirm_109 : decode cX6_endFirm 109 = .ok (.iload_n 1, 1) := by decide +kernel
theorem dX6_endFirm_110 : decode cX6_endFirm 110 = .ok (.invokevirtual 167, 3) := by decide +kernel
theorem dX6_endFirm_113 : decode cX6_endFirm 113 = .ok (.iload_n 3, 1) := by decide +kernel
theorem dX6_endFirm_114 : decode cX6_endFirm 114 = .ok (.ireturn, 1) := by decide +kernel
theorem dX6_order_0 : decode cX6_order 0 = .ok (.iload_n 1, 1) := by decide +kernel
theorem dX6_order_1 : decode cX6_order 1 = .ok (.invokestatic 150, 3) := by decide +kernel
theorem dX6_order_4 : decode cX6_order 4 = .ok (.iload_n 2, 1) := by decide +kernel
theorem dX6_order_5 : decode cX6_order 5 = .ok (.invokestatic 99, 3) := by decide +kernel
theorem dX6_order_8 : decode cX6_order 8 = .ok (.iload_n 3, 1) := by decide +kernel
theorem dX6_order_9 : decode cX6_order 9 = .ok (.invokestatic 103, 3) := by decide +kernel
theorem dX6_order_12 : decode cX6_order 12 = .ok (.iload 4, 2) := by decide +kernel
theorem dX6_order_14 : decode cX6_order 14 = .ok (.aload_n 0, 1) := by decide +kernel
theorem dX6_order_15 : decode cX6_order 15 = .ok (.getfield 55, 3) := by decide +kernel
theorem dX6_order_18 : decode cX6_order 18 = .ok (.if_icmp .le 16, 3) := by decide +kernel
theorem dX6_order_21 : decode cX6_order 21 = .ok (.iload 4, 2) := by decide +kernel
theorem dX6_order_23 : decode cX6_order 23 = .ok (.aload_n 0, 1) := by decide +kernel
theorem dX6_order_24 : decode cX6_order 24 = .ok (.getfield 55, 3) := by decide +kernel
theorem dX6_order_27 : decode cX6_order 27 = .ok (.sipush 500, 3) := by decide +kernel
theorem dX6_order_30 : decode cX6_order 30 = .ok (.iadd, 1) := by decide +kernel
theorem dX6_order_31 : decode cX6_order 31 = .ok (.if_icmp .le 13, 3) := by decide +kernel
theorem dX6_order_34 : decode cX6_order 34 = .ok (.new 153, 3) := by decide +kernel
theorem dX6_order_37 : decode cX6_order 37 = .ok (.dup, 1) := by decide +kernel
theorem dX6_order_38 : decode cX6_order 38 = .ok (.ldc 170, 2) := by decide +kernel
theorem dX6_order_40 : decode cX6_order 40 = .ok (.invokespecial 157, 3) := by decide +kernel
theorem dX6_order_43 : decode cX6_order 43 = .ok (.athrow, 1) := by decide +kernel
theorem dX6_order_44 : decode cX6_order 44 = .ok (.aload_n 0, 1) := by decide +kernel
theorem dX6_order_45 : decode cX6_order 45 = .ok (.getfield 16, 3) := by decide +kernel
theorem dX6_order_48 : decode cX6_order 48 = .ok (.getfield 79, 3) := by decide +kernel
theorem dX6_order_51 : decode cX6_order 51 = .ok (.iload_n 1, 1) := by decide +kernel
theorem dX6_order_52 : decode cX6_order 52 = .ok (.baload, 1) := by decide +kernel
theorem dX6_order_53 : decode cX6_order 53 = .ok (.ifCond .ne 15, 3) := by decide +kernel
theorem dX6_order_56 : decode cX6_order 56 = .ok (.aload_n 0, 1) := by decide +kernel
theorem dX6_order_57 : decode cX6_order 57 = .ok (.getfield 30, 3) := by decide +kernel
theorem dX6_order_60 : decode cX6_order 60 = .ok (.getfield 172, 3) := by decide +kernel
theorem dX6_order_63 : decode cX6_order 63 = .ok (.bipush 60, 2) := by decide +kernel
theorem dX6_order_65 : decode cX6_order 65 = .ok (.if_icmp .lt 13, 3) := by decide +kernel
theorem dX6_order_68 : decode cX6_order 68 = .ok (.new 83, 3) := by decide +kernel
theorem dX6_order_71 : decode cX6_order 71 = .ok (.dup, 1) := by decide +kernel
theorem dX6_order_72 : decode cX6_order 72 = .ok (.ldc 175, 2) := by decide +kernel
theorem dX6_order_74 : decode cX6_order 74 = .ok (.invokespecial 87, 3) := by decide +kernel
theorem dX6_order_77 : decode cX6_order 77 = .ok (.athrow, 1) := by decide +kernel
theorem dX6_order_78 : decode cX6_order 78 = .ok (.aload_n 0, 1) := by decide +kernel
theorem dX6_order_79 : decode cX6_order 79 = .ok (.iload_n 1, 1) := by decide +kernel
theorem dX6_order_80 : decode cX6_order 80 = .ok (.iload_n 2, 1) := by decide +kernel
theorem dX6_order_81 : decode cX6_order 81 = .ok (.iload_n 3, 1) := by decide +kernel
theorem dX6_order_82 : decode cX6_order 82 = .ok (.iload 4, 2) := by decide +kernel
theorem dX6_order_84 : decode cX6_order 84 = .ok (.invokevirtual 177, 3) := by decide +kernel
theorem dX6_order_87 : decode cX6_order 87 = .ok (.istore 5, 2) := by decide +kernel
theorem dX6_order_89 : decode cX6_order 89 = .ok (.aload_n 0, 1) := by decide +kernel
theorem dX6_order_90 : decode cX6_order 90 = .ok (.getfield 30, 3) := by decide +kernel
theorem dX6_order_93 : decode cX6_order 93 = .ok (.iload_n 1, 1) := by decide +kernel
theorem dX6_order_94 : decode cX6_order 94 = .ok (.iload_n 2, 1) := by decide +kernel
theorem dX6_order_95 : decode cX6_order 95 = .ok (.aload_n 0, 1) := by decide +kernel
theorem dX6_order_96 : decode cX6_order 96 = .ok (.getfield 23, 3) := by decide +kernel
theorem dX6_order_99 : decode cX6_order 99 = .ok (.getfield 129, 3) := by decide +kernel
theorem dX6_order_102 : decode cX6_order 102 = .ok (.iload_n 2, 1) := by decide +kernel
theorem dX6_order_103 : decode cX6_order 103 = .ok (.iaload, 1) := by decide +kernel
theorem dX6_order_104 : decode cX6_order 104 = .ok (.iload 4, 2) := by decide +kernel
theorem dX6_order_106 : decode cX6_order 106 = .ok (.iload 5, 2) := by decide +kernel
theorem dX6_order_108 : decode cX6_order 108 = .ok (.invokevirtual 181, 3) := by decide +kernel
theorem dX6_order_111 : decode cX6_order 111 = .ok (.ireturn, 1) := by decide +kernel
theorem dX6_cancel_0 : decode cX6_cancel 0 = .ok (.aload_n 0, 1) := by decide +kernel
theorem dX6_cancel_1 : decode cX6_cancel 1 = .ok (.iload_n 1, 1) := by decide +kernel
theorem dX6_cancel_2 : decode cX6_cancel 2 = .ok (.invokevirtual 184, 3) := by decide +kernel
theorem dX6_cancel_5 : decode cX6_cancel 5 = .ok (.aload_n 0, 1) := by decide +kernel
theorem dX6_cancel_6 : decode cX6_cancel 6 = .ok (.getfield 30, 3) := by decide +kernel
theorem dX6_cancel_9 : decode cX6_cancel 9 = .ok (.getfield 187, 3) := by decide +kernel
theorem dX6_cancel_12 : decode cX6_cancel 12 = .ok (.iload_n 1, 1) := by decide +kernel
theorem dX6_cancel_13 : decode cX6_cancel 13 = .ok (.iaload, 1) := by decide +kernel
theorem dX6_cancel_14 : decode cX6_cancel 14 = .ok (.iconst 1, 1) := by decide +kernel
theorem dX6_cancel_15 : decode cX6_cancel 15 = .ok (.if_icmp .ne 22, 3) := by decide +kernel
theorem dX6_cancel_18 : decode cX6_cancel 18 = .ok (.aload_n 0, 1) := by decide +kernel
theorem dX6_cancel_19 : decode cX6_cancel 19 = .ok (.getfield 30, 3) := by decide +kernel
theorem dX6_cancel_22 : decode cX6_cancel 22 = .ok (.getfield 190, 3) := by decide +kernel
theorem dX6_cancel_25 : decode cX6_cancel 25 = .ok (.iload_n 1, 1) := by decide +kernel
theorem dX6_cancel_26 : decode cX6_cancel 26 = .ok (.iaload, 1) := by decide +kernel
theorem dX6_cancel_27 : decode cX6_cancel 27 = .ok (.aload_n 0, 1) := by decide +kernel
theorem dX6_cancel_28 : decode cX6_cancel 28 = .ok (.getfield 55, 3) := by decide +kernel
theorem dX6_cancel_31 : decode cX6_cancel 31 = .ok (.isub, 1) := by decide +kernel
theorem dX6_cancel_32 : decode cX6_cancel 32 = .ok (.bipush 10, 2) := by decide +kernel
theorem dX6_cancel_34 : decode cX6_cancel 34 = .ok (.if_icmp .ge 13, 3) := by decide +kernel
theorem dX6_cancel_37 : decode cX6_cancel 37 = .ok (.new 83, 3) := by decide +kernel
theorem dX6_cancel_40 : decode cX6_cancel 40 = .ok (.dup, 1) := by decide +kernel
theorem dX6_cancel_41 : decode cX6_cancel 41 = .ok (.ldc 193, 2) := by decide +kernel
theorem dX6_cancel_43 : decode cX6_cancel 43 = .ok (.invokespecial 87, 3) := by decide +kernel
theorem dX6_cancel_46 : decode cX6_cancel 46 = .ok (.athrow, 1) := by decide +kernel
theorem dX6_cancel_47 : decode cX6_cancel 47 = .ok (.aload_n 0, 1) := by decide +kernel
theorem dX6_cancel_48 : decode cX6_cancel 48 = .ok (.getfield 30, 3) := by decide +kernel
theorem dX6_cancel_51 : decode cX6_cancel 51 = .ok (.getfield 187, 3) := by decide +kernel
theorem dX6_cancel_54 : decode cX6_cancel 54 = .ok (.iload_n 1, 1) := by decide +kernel
theorem dX6_cancel_55 : decode cX6_cancel 55 = .ok (.iconst 3, 1) := by decide +kernel
theorem dX6_cancel_56 : decode cX6_cancel 56 = .ok (.iastore, 1) := by decide +kernel
theorem dX6_cancel_57 : decode cX6_cancel 57 = .ok (.aload_n 0, 1) := by decide +kernel
theorem dX6_cancel_58 : decode cX6_cancel 58 = .ok (.getfield 30, 3) := by decide +kernel
theorem dX6_cancel_61 : decode cX6_cancel 61 = .ok (.invokevirtual 195, 3) := by decide +kernel
theorem dX6_cancel_64 : decode cX6_cancel 64 = .ok (.ireturn, 1) := by decide +kernel
theorem dX6_reverse_0 : decode cX6_reverse 0 = .ok (.aload_n 0, 1) := by decide +kernel
theorem dX6_reverse_1 : decode cX6_reverse 1 = .ok (.iload_n 1, 1) := by decide +kernel
theorem dX6_reverse_2 : decode cX6_reverse 2 = .ok (.invokevirtual 184, 3) := by decide +kernel
theorem dX6_reverse_5 : decode cX6_reverse 5 = .ok (.aload_n 0, 1) := by decide +kernel
theorem dX6_reverse_6 : decode cX6_reverse 6 = .ok (.iload_n 1, 1) := by decide +kernel
theorem dX6_reverse_7 : decode cX6_reverse 7 = .ok (.invokevirtual 199, 3) := by decide +kernel
theorem dX6_reverse_10 : decode cX6_reverse 10 = .ok (.ifCond .ne 13, 3) := by decide +kernel
theorem dX6_reverse_13 : decode cX6_reverse 13 = .ok (.new 83, 3) := by decide +kernel
theorem dX6_reverse_16 : decode cX6_reverse 16 = .ok (.dup, 1) := by decide +kernel
theorem dX6_reverse_17 : decode cX6_reverse 17 = .ok (.ldc 202, 2) := by decide +kernel
theorem dX6_reverse_19 : decode cX6_reverse 19 = .ok (.invokespecial 87, 3) := by decide +kernel
theorem dX6_reverse_22 : decode cX6_reverse 22 = .ok (.athrow, 1) := by decide +kernel
theorem dX6_reverse_23 : decode cX6_reverse 23 = .ok (.aload_n 0, 1) := by decide +kernel
theorem dX6_reverse_24 : decode cX6_reverse 24 = .ok (.getfield 30, 3) := by decide +kernel
theorem dX6_reverse_27 : decode cX6_reverse 27 = .ok (.getfield 204, 3) := by decide +kernel
theorem dX6_reverse_30 : decode cX6_reverse 30 = .ok (.iload_n 1, 1) := by decide +kernel
theorem dX6_reverse_31 : decode cX6_reverse 31 = .ok (.iaload, 1) := by decide +kernel
theorem dX6_reverse_32 : decode cX6_reverse 32 = .ok (.istore_n 2, 1) := by decide +kernel
theorem dX6_reverse_33 : decode cX6_reverse 33 = .ok (.aload_n 0, 1) := by decide +kernel
theorem dX6_reverse_34 : decode cX6_reverse 34 = .ok (.getfield 30, 3) := by decide +kernel
theorem dX6_reverse_37 : decode cX6_reverse 37 = .ok (.getfield 187, 3) := by decide +kernel
theorem dX6_reverse_40 : decode cX6_reverse 40 = .ok (.iload_n 1, 1) := by decide +kernel
theorem dX6_reverse_41 : decode cX6_reverse 41 = .ok (.iconst 4, 1) := by decide +kernel
theorem dX6_reverse_42 : decode cX6_reverse 42 = .ok (.iastore, 1) := by decide +kernel
theorem dX6_reverse_43 : decode cX6_reverse 43 = .ok (.aload_n 0, 1) := by decide +kernel
theorem dX6_reverse_44 : decode cX6_reverse 44 = .ok (.aload_n 0, 1) := by decide +kernel
theorem dX6_reverse_45 : decode cX6_reverse 45 = .ok (.getfield 30, 3) := by decide +kernel
theorem dX6_reverse_48 : decode cX6_reverse 48 = .ok (.getfield 207, 3) := by decide +kernel
theorem dX6_reverse_51 : decode cX6_reverse 51 = .ok (.iload_n 1, 1) := by decide +kernel
theorem dX6_reverse_52 : decode cX6_reverse 52 = .ok (.iaload, 1) := by decide +kernel
theorem dX6_reverse_53 : decode cX6_reverse 53 = .ok (.iload_n 2, 1) := by decide +kernel
theorem dX6_reverse_54 : decode cX6_reverse 54 = .ok (.invokevirtual 210, 3) := by decide +kernel
theorem dX6_reverse_57 : decode cX6_reverse 57 = .ok (.aload_n 0, 1) := by decide +kernel
theorem dX6_reverse_58 : decode cX6_reverse 58 = .ok (.getfield 16, 3) := by decide +kernel
theorem dX6_reverse_61 : decode cX6_reverse 61 = .ok (.iload_n 2, 1) := by decide +kernel
theorem dX6_reverse_62 : decode cX6_reverse 62 = .ok (.aload_n 0, 1) := by decide +kernel
theorem dX6_reverse_63 : decode cX6_reverse 63 = .ok (.getfield 30, 3) := by decide +kernel
theorem dX6_reverse_66 : decode cX6_reverse 66 = .ok (.getfield 213, 3) := by decide +kernel
theorem dX6_reverse_69 : decode cX6_reverse 69 = .ok (.iload_n 1, 1) := by decide +kernel
theorem dX6_reverse_70 : decode cX6_reverse 70 = .ok (.iaload, 1) := by decide +kernel
theorem dX6_reverse_71 : decode cX6_reverse 71 = .ok (.iconst 5, 1) := by decide +kernel
theorem dX6_reverse_72 : decode cX6_reverse 72 = .ok (.invokevirtual 216, 3) := by decide +kernel
theorem dX6_reverse_75 : decode cX6_reverse 75 = .ok (.iload_n 2, 1) := by decide +kernel
theorem dX6_reverse_76 : decode cX6_reverse 76 = .ok (.ireturn, 1) := by decide +kernel
theorem dX6_pass_0 : decode cX6_pass 0 = .ok (.iload_n 1, 1) := by decide +kernel
theorem dX6_pass_1 : decode cX6_pass 1 = .ok (.iconst 1, 1) := by decide +kernel
theorem dX6_pass_2 : decode cX6_pass 2 = .ok (.if_icmp .lt 9, 3) := by decide +kernel
theorem dX6_pass_5 : decode cX6_pass 5 = .ok (.iload_n 1, 1) := by decide +kernel
theorem dX6_pass_6 : decode cX6_pass 6 = .ok (.bipush 100, 2) := by decide +kernel
theorem dX6_pass_8 : decode cX6_pass 8 = .ok (.if_icmp .le 13, 3) := by decide +kernel
theorem dX6_pass_11 : decode cX6_pass 11 = .ok (.new 153, 3) := by decide +kernel
theorem dX6_pass_14 : decode cX6_pass 14 = .ok (.dup, 1) := by decide +kernel
theorem dX6_pass_15 : decode cX6_pass 15 = .ok (.ldc 219, 2) := by decide +kernel
theorem dX6_pass_17 : decode cX6_pass 17 = .ok (.invokespecial 157, 3) := by decide +kernel
theorem dX6_pass_20 : decode cX6_pass 20 = .ok (.athrow, 1) := by decide +kernel
theorem dX6_pass_21 : decode cX6_pass 21 = .ok (.aload_n 0, 1) := by decide +kernel
theorem dX6_pass_22 : decode cX6_pass 22 = .ok (.getfield 55, 3) := by decide +kernel
theorem dX6_pass_25 : decode cX6_pass 25 = .ok (.iload_n 1, 1) := by decide +kernel
theorem dX6_pass_26 : decode cX6_pass 26 = .ok (.iadd, 1) := by decide +kernel
theorem dX6_pass_27 : decode cX6_pass 27 = .ok (.sipush 9999, 3) := by decide +kernel
theorem dX6_pass_30 : decode cX6_pass 30 = .ok (.if_icmp .le 13, 3) := by decide +kernel
theorem dX6_pass_33 : decode cX6_pass 33 = .ok (.new 83, 3) := by decide +kernel
theorem dX6_pass_36 : decode cX6_pass 36 = .ok (.dup, 1) := by decide +kernel
theorem dX6_pass_37 : decode cX6_pass 37 = .ok (.ldc 221, 2) := by decide +kernel
theorem dX6_pass_39 : decode cX6_pass 39 = .ok (.invokespecial 87, 3) := by decide +kernel
theorem dX6_pass_42 : decode cX6_pass 42 = .ok (.athrow, 1) := by decide +kernel
theorem dX6_pass_43 : decode cX6_pass 43 = .ok (.iconst 0, 1) := by decide +kernel
theorem dX6_pass_44 : decode cX6_pass 44 = .ok (.istore_n 2, 1) := by decide +kernel
theorem dX6_pass_45 : decode cX6_pass 45 = .ok (.iconst 0, 1) := by decide +kernel
theorem dX6_pass_46 : decode cX6_pass 46 = .ok (.istore_n 3, 1) := by decide +kernel
theorem dX6_pass_47 : decode cX6_pass 47 = .ok (.iload_n 3, 1) := by decide +kernel
theorem dX6_pass_48 : decode cX6_pass 48 = .ok (.iload_n 1, 1) := by decide +kernel
theorem dX6_pass_49 : decode cX6_pass 49 = .ok (.if_icmp .ge 30, 3) := by decide +kernel
theorem dX6_pass_52 : decode cX6_pass 52 = .ok (.aload_n 0, 1) := by decide +kernel
theorem dX6_pass_53 : decode cX6_pass 53 = .ok (.dup, 1) := by decide +kernel
theorem dX6_pass_54 : decode cX6_pass 54 = .ok (.getfield 55, 3) := by decide +kernel
theorem dX6_pass_57 : decode cX6_pass 57 = .ok (.iconst 1, 1) := by decide +kernel
theorem dX6_pass_58 : decode cX6_pass 58 = .ok (.iadd, 1) := by decide +kernel
theorem dX6_pass_59 : decode cX6_pass 59 = .ok (.putfield 55, 3) := by decide +kernel
theorem dX6_pass_62 : decode cX6_pass 62 = .ok (.iload_n 2, 1) := by decide +kernel
theorem dX6_pass_63 : decode cX6_pass 63 = .ok (.aload_n 0, 1) := by decide +kernel
theorem dX6_pass_64 : decode cX6_pass 64 = .ok (.invokevirtual 223, 3) := by decide +kernel
theorem dX6_pass_67 : decode cX6_pass 67 = .ok (.iadd, 1) := by decide +kernel
theorem dX6_pass_68 : decode cX6_pass 68 = .ok (.istore_n 2, 1) := by decide +kernel
theorem dX6_pass_69 : decode cX6_pass 69 = .ok (.aload_n 0, 1) := by decide +kernel
theorem dX6_pass_70 : decode cX6_pass 70 = .ok (.invokevirtual 226, 3) := by decide +kernel
theorem dX6_pass_73 : decode cX6_pass 73 = .ok (.iinc 3 1, 3) := by decide +kernel
theorem dX6_pass_76 : decode cX6_pass 76 = .ok (.goto (-29), 3) := by decide +kernel
theorem dX6_pass_79 : decode cX6_pass 79 = .ok (.iload_n 2, 1) := by decide +kernel
theorem dX6_pass_80 : decode cX6_pass 80 = .ok (.ireturn, 1) := by decide +kernel
theorem dX6_setLag_0 : decode cX6_setLag 0 = .ok (.iload_n 1, 1) := by decide +kernel
theorem dX6_setLag_1 : decode cX6_setLag 1 = .ok (.invokestatic 150, 3) := by decide +kernel
theorem dX6_setLag_4 : decode cX6_setLag 4 = .ok (.iload_n 2, 1) := by decide +kernel
theorem dX6_setLag_5 : decode cX6_setLag 5 = .ok (.ifCond .lt 9, 3) := by decide +kernel
theorem dX6_setLag_8 : decode cX6_setLag 8 = .ok (.iload_n 2, 1) := by decide +kernel
theorem dX6_setLag_9 : decode cX6_setLag 9 = .ok (.bipush 50, 2) := by decide +kernel
theorem dX6_setLag_11 : decode cX6_setLag 11 = .ok (.if_icmp .le 13, 3) := by decide +kernel
theorem dX6_setLag_14 : decode cX6_setLag 14 = .ok (.new 153, 3) := by decide +kernel
theorem dX6_setLag_17 : decode cX6_setLag 17 = .ok (.dup, 1) := by decide +kernel
theorem dX6_setLag_18 : decode cX6_setLag 18 = .ok (.ldc 229, 2) := by decide +kernel
theorem dX6_setLag_20 : decode cX6_setLag 20 = .ok (.invokespecial 157, 3) := by decide +kernel
theorem dX6_setLag_23 : decode cX6_setLag 23 = .ok (.athrow, 1) := by decide +kernel
theorem dX6_setLag_24 : decode cX6_setLag 24 = .ok (.aload_n 0, 1) := by decide +kernel
theorem dX6_setLag_25 : decode cX6_setLag 25 = .ok (.getfield 16, 3) := by decide +kernel
theorem dX6_setLag_28 : decode cX6_setLag 28 = .ok (.getfield 231, 3) := by decide +kernel
theorem dX6_setLag_31 : decode cX6_setLag 31 = .ok (.iload_n 1, 1) := by decide +kernel
theorem dX6_setLag_32 : decode cX6_setLag 32 = .ok (.iaload, 1) := by decide +kernel
theorem dX6_setLag_33 : decode cX6_setLag 33 = .ok (.istore_n 3, 1) := by decide +kernel
theorem dX6_setLag_34 : decode cX6_setLag 34 = .ok (.aload_n 0, 1) := by decide +kernel
theorem dX6_setLag_35 : decode cX6_setLag 35 = .ok (.getfield 16, 3) := by decide +kernel
theorem dX6_setLag_38 : decode cX6_setLag 38 = .ok (.getfield 231, 3) := by decide +kernel
theorem dX6_setLag_41 : decode cX6_setLag 41 = .ok (.iload_n 1, 1) := by decide +kernel
theorem dX6_setLag_42 : decode cX6_setLag 42 = .ok (.iload_n 2, 1) := by decide +kernel
theorem dX6_setLag_43 : decode cX6_setLag 43 = .ok (.iastore, 1) := by decide +kernel
theorem dX6_setLag_44 : decode cX6_setLag 44 = .ok (.iload_n 3, 1) := by decide +kernel
theorem dX6_setLag_45 : decode cX6_setLag 45 = .ok (.ireturn, 1) := by decide +kernel
theorem dX6_setDown_0 : decode cX6_setDown 0 = .ok (.iload_n 1, 1) := by decide +kernel
theorem dX6_setDown_1 : decode cX6_setDown 1 = .ok (.invokestatic 150, 3) := by decide +kernel
theorem dX6_setDown_4 : decode cX6_setDown 4 = .ok (.aload_n 0, 1) := by decide +kernel
theorem dX6_setDown_5 : decode cX6_setDown 5 = .ok (.getfield 16, 3) := by decide +kernel
theorem dX6_setDown_8 : decode cX6_setDown 8 = .ok (.getfield 234, 3) := by decide +kernel
theorem dX6_setDown_11 : decode cX6_setDown 11 = .ok (.iload_n 1, 1) := by decide +kernel
theorem dX6_setDown_12 : decode cX6_setDown 12 = .ok (.baload, 1) := by decide +kernel
theorem dX6_setDown_13 : decode cX6_setDown 13 = .ok (.istore_n 3, 1) := by decide +kernel
theorem dX6_setDown_14 : decode cX6_setDown 14 = .ok (.aload_n 0, 1) := by decide +kernel
theorem dX6_setDown_15 : decode cX6_setDown 15 = .ok (.getfield 16, 3) := by decide +kernel
theorem dX6_setDown_18 : decode cX6_setDown 18 = .ok (.getfield 234, 3) := by decide +kernel
theorem dX6_setDown_21 : decode cX6_setDown 21 = .ok (.iload_n 1, 1) := by decide +kernel
theorem dX6_setDown_22 : decode cX6_setDown 22 = .ok (.iload_n 2, 1) := by decide +kernel
theorem dX6_setDown_23 : decode cX6_setDown 23 = .ok (.bastore, 1) := by decide +kernel
theorem dX6_setDown_24 : decode cX6_setDown 24 = .ok (.iload_n 3, 1) := by decide +kernel
theorem dX6_setDown_25 : decode cX6_setDown 25 = .ok (.ireturn, 1) := by decide +kernel
theorem dX6_correct_0 : decode cX6_correct 0 = .ok (.iload_n 1, 1) := by decide +kernel
theorem dX6_correct_1 : decode cX6_correct 1 = .ok (.invokestatic 150, 3) := by decide +kernel
theorem dX6_correct_4 : decode cX6_correct 4 = .ok (.aload_n 0, 1) := by decide +kernel
theorem dX6_correct_5 : decode cX6_correct 5 = .ok (.getfield 37, 3) := by decide +kernel
theorem dX6_correct_8 : decode cX6_correct 8 = .ok (.iload_n 1, 1) := by decide +kernel
theorem dX6_correct_9 : decode cX6_correct 9 = .ok (.invokevirtual 237, 3) := by decide +kernel
theorem dX6_correct_12 : decode cX6_correct 12 = .ok (.istore_n 2, 1) := by decide +kernel
theorem dX6_correct_13 : decode cX6_correct 13 = .ok (.aload_n 0, 1) := by decide +kernel
theorem dX6_correct_14 : decode cX6_correct 14 = .ok (.getfield 37, 3) := by decide +kernel
theorem dX6_correct_17 : decode cX6_correct 17 = .ok (.iload_n 1, 1) := by decide +kernel
theorem dX6_correct_18 : decode cX6_correct 18 = .ok (.invokevirtual 240, 3) := by decide +kernel
theorem dX6_correct_21 : decode cX6_correct 21 = .ok (.iload_n 2, 1) := by decide +kernel
theorem dX6_correct_22 : decode cX6_correct 22 = .ok (.ireturn, 1) := by decide +kernel
theorem dX6_server_0 : decode cX6_server 0 = .ok (.iload_n 1, 1) := by decide +kernel
theorem dX6_server_1 : decode cX6_server 1 = .ok (.invokestatic 99, 3) := by decide +kernel
theorem dX6_server_4 : decode cX6_server 4 = .ok (.aload_n 0, 1) := by decide +kernel
theorem dX6_server_5 : decode cX6_server 5 = .ok (.getfield 23, 3) := by decide +kernel
theorem dX6_server_8 : decode cX6_server 8 = .ok (.getfield 129, 3) := by decide +kernel
theorem dX6_server_11 : decode cX6_server 11 = .ok (.iload_n 1, 1) := by decide +kernel
theorem dX6_server_12 : decode cX6_server 12 = .ok (.iaload, 1) := by decide +kernel
theorem dX6_server_13 : decode cX6_server 13 = .ok (.ireturn, 1) := by decide +kernel
theorem dX6_serverAnew_0 : decode cX6_serverAnew 0 = .ok (.iload_n 1, 1) := by decide +kernel
theorem dX6_serverAnew_1 : decode cX6_serverAnew 1 = .ok (.invokestatic 99, 3) := by decide +kernel
theorem dX6_serverAnew_4 : decode cX6_serverAnew 4 = .ok (.aload_n 0, 1) := by decide +kernel
theorem dX6_serverAnew_5 : decode cX6_serverAnew 5 = .ok (.getfield 44, 3) := by decide +kernel
theorem dX6_serverAnew_8 : decode cX6_serverAnew 8 = .ok (.iload_n 1, 1) := by decide +kernel
theorem dX6_serverAnew_9 : decode cX6_serverAnew 9 = .ok (.invokevirtual 243, 3) := by decide +kernel
theorem dX6_serverAnew_12 : decode cX6_serverAnew 12 = .ok (.ireturn, 1) := by decide +kernel
theorem dX6_number_0 : decode cX6_number 0 = .ok (.iload_n 1, 1) := by decide +kernel
theorem dX6_number_1 : decode cX6_number 1 = .ok (.invokestatic 99, 3) := by decide +kernel
theorem dX6_number_4 : decode cX6_number 4 = .ok (.iload_n 2, 1) := by decide +kernel
theorem dX6_number_5 : decode cX6_number 5 = .ok (.iconst 5, 1) := by decide +kernel
theorem dX6_number_6 : decode cX6_number 6 = .ok (.invokestatic 246, 3) := by decide +kernel
theorem dX6_number_9 : decode cX6_number 9 = .ok (.iload_n 2, 1) := by decide +kernel
theorem dX6_number_10 : decode cX6_number 10 = .ok (.tableswitch 84 0 3 #[30, 36, 52, 68], 30) := by decide +kernel
theorem dX6_number_40 : decode cX6_number 40 = .ok (.aload_n 0, 1) := by decide +kernel
theorem dX6_number_41 : decode cX6_number 41 = .ok (.iload_n 1, 1) := by decide +kernel
theorem dX6_number_42 : decode cX6_number 42 = .ok (.invokevirtual 106, 3) := by decide +kernel
theorem dX6_number_45 : decode cX6_number 45 = .ok (.ireturn, 1) := by decide +kernel
theorem dX6_number_46 : decode cX6_number 46 = .ok (.aload_n 0, 1) := by decide +kernel
theorem dX6_number_47 : decode cX6_number 47 = .ok (.getfield 23, 3) := by decide +kernel
theorem dX6_number_50 : decode cX6_number 50 = .ok (.iload_n 1, 1) := by decide +kernel
theorem dX6_number_51 : decode cX6_number 51 = .ok (.aload_n 0, 1) := by decide +kernel
theorem dX6_number_52 : decode cX6_number 52 = .ok (.getfield 55, 3) := by decide +kernel
theorem dX6_number_55 : decode cX6_number 55 = .ok (.invokevirtual 112, 3) := by decide +kernel
theorem dX6_number_58 : decode cX6_number 58 = .ok (.invokestatic 249, 3) := by decide +kernel
theorem dX6_number_61 : decode cX6_number 61 = .ok (.ireturn, 1) := by decide +kernel
theorem dX6_number_62 : decode cX6_number 62 = .ok (.aload_n 0, 1) := by decide +kernel
theorem dX6_number_63 : decode cX6_number 63 = .ok (.getfield 23, 3) := by decide +kernel
theorem dX6_number_66 : decode cX6_number 66 = .ok (.iload_n 1, 1) := by decide +kernel
theorem dX6_number_67 : decode cX6_number 67 = .ok (.aload_n 0, 1) := by decide +kernel
theorem dX6_number_68 : decode cX6_number 68 = .ok (.getfield 55, 3) := by decide +kernel
theorem dX6_number_71 : decode cX6_number 71 = .ok (.invokevirtual 253, 3) := by decide +kernel
theorem dX6_number_74 : decode cX6_number 74 = .ok (.invokestatic 249, 3) := by decide +kernel
theorem dX6_number_77 : decode cX6_number 77 = .ok (.ireturn, 1) := by decide +kernel
theorem dX6_number_78 : decode cX6_number 78 = .ok (.aload_n 0, 1) := by decide +kernel
theorem dX6_number_79 : decode cX6_number 79 = .ok (.getfield 23, 3) := by decide +kernel
theorem dX6_number_82 : decode cX6_number 82 = .ok (.iload_n 1, 1) := by decide +kernel
theorem dX6_number_83 : decode cX6_number 83 = .ok (.aload_n 0, 1) := by decide +kernel
theorem dX6_number_84 : decode cX6_number 84 = .ok (.getfield 55, 3) := by decide +kernel
theorem dX6_number_87 : decode cX6_number 87 = .ok (.invokevirtual 256, 3) := by decide +kernel
theorem dX6_number_90 : decode cX6_number 90 = .ok (.invokestatic 249, 3) := by decide +kernel
theorem dX6_number_93 : decode cX6_number 93 = .ok (.ireturn, 1) := by decide +kernel
theorem dX6_number_94 : decode cX6_number 94 = .ok (.aload_n 0, 1) := by decide +kernel
theorem dX6_number_95 : decode cX6_number 95 = .ok (.getfield 30, 3) := by decide +kernel
theorem dX6_number_98 : decode cX6_number 98 = .ok (.iload_n 1, 1) := by decide +kernel
theorem dX6_number_99 : decode cX6_number 99 = .ok (.invokevirtual 259, 3) := by decide +kernel
theorem dX6_number_102 : decode cX6_number 102 = .ok (.ireturn, 1) := by decide +kernel
theorem dX6_of_0 : decode cX6_of 0 = .ok (.aload_n 0, 1) := by decide +kernel
theorem dX6_of_1 : decode cX6_of 1 = .ok (.iload_n 1, 1) := by decide +kernel
theorem dX6_of_2 : decode cX6_of 2 = .ok (.invokevirtual 184, 3) := by decide +kernel
theorem dX6_of_5 : decode cX6_of 5 = .ok (.iload_n 2, 1) := by decide +kernel
theorem dX6_of_6 : decode cX6_of 6 = .ok (.bipush 6, 2) := by decide +kernel
theorem dX6_of_8 : decode cX6_of 8 = .ok (.invokestatic 246, 3) := by decide +kernel
theorem dX6_of_11 : decode cX6_of 11 = .ok (.iload_n 2, 1) := by decide +kernel
theorem dX6_of_12 : decode cX6_of 12 = .ok (.tableswitch 86 0 4 #[36, 46, 56, 66, 76], 36) := by decide +kernel
theorem dX6_of_48 : decode cX6_of 48 = .ok (.aload_n 0, 1) := by decide +kernel
theorem dX6_of_49 : decode cX6_of 49 = .ok (.getfield 30, 3) := by decide +kernel
theorem dX6_of_52 : decode cX6_of 52 = .ok (.getfield 187, 3) := by decide +kernel
theorem dX6_of_55 : decode cX6_of 55 = .ok (.iload_n 1, 1) := by decide +kernel
theorem dX6_of_56 : decode cX6_of 56 = .ok (.iaload, 1) := by decide +kernel
theorem dX6_of_57 : decode cX6_of 57 = .ok (.ireturn, 1) := by decide +kernel
theorem dX6_of_58 : decode cX6_of 58 = .ok (.aload_n 0, 1) := by decide +kernel
theorem dX6_of_59 : decode cX6_of 59 = .ok (.getfield 30, 3) := by decide +kernel
theorem dX6_of_62 : decode cX6_of 62 = .ok (.getfield 262, 3) := by decide +kernel
theorem dX6_of_65 : decode cX6_of 65 = .ok (.iload_n 1, 1) := by decide +kernel
theorem dX6_of_66 : decode cX6_of 66 = .ok (.iaload, 1) := by decide +kernel
theorem dX6_of_67 : decode cX6_of 67 = .ok (.ireturn, 1) := by decide +kernel
theorem dX6_of_68 : decode cX6_of 68 = .ok (.aload_n 0, 1) := by decide +kernel
theorem dX6_of_69 : decode cX6_of 69 = .ok (.getfield 30, 3) := by decide +kernel
theorem dX6_of_72 : decode cX6_of 72 = .ok (.getfield 207, 3) := by decide +kernel
theorem dX6_of_75 : decode cX6_of 75 = .ok (.iload_n 1, 1) := by decide +kernel
theorem dX6_of_76 : decode cX6_of 76 = .ok (.iaload, 1) := by decide +kernel
theorem dX6_of_77 : decode cX6_of 77 = .ok (.ireturn, 1) := by decide +kernel
theorem dX6_of_78 : decode cX6_of 78 = .ok (.aload_n 0, 1) := by decide +kernel
theorem dX6_of_79 : decode cX6_of 79 = .ok (.getfield 30, 3) := by decide +kernel
theorem dX6_of_82 : decode cX6_of 82 = .ok (.getfield 213, 3) := by decide +kernel
theorem dX6_of_85 : decode cX6_of 85 = .ok (.iload_n 1, 1) := by decide +kernel
theorem dX6_of_86 : decode cX6_of 86 = .ok (.iaload, 1) := by decide +kernel
theorem dX6_of_87 : decode cX6_of 87 = .ok (.ireturn, 1) := by decide +kernel
theorem dX6_of_88 : decode cX6_of 88 = .ok (.aload_n 0, 1) := by decide +kernel
theorem dX6_of_89 : decode cX6_of 89 = .ok (.getfield 30, 3) := by decide +kernel
theorem dX6_of_92 : decode cX6_of 92 = .ok (.getfield 204, 3) := by decide +kernel
theorem dX6_of_95 : decode cX6_of 95 = .ok (.iload_n 1, 1) := by decide +kernel
theorem dX6_of_96 : decode cX6_of 96 = .ok (.iaload, 1) := by decide +kernel
theorem dX6_of_97 : decode cX6_of 97 = .ok (.ireturn, 1) := by decide +kernel
theorem dX6_of_98 : decode cX6_of 98 = .ok (.aload_n 0, 1) := by decide +kernel
theorem dX6_of_99 : decode cX6_of 99 = .ok (.getfield 30, 3) := by decide +kernel
theorem dX6_of_102 : decode cX6_of 102 = .ok (.getfield 190, 3) := by decide +kernel
theorem dX6_of_105 : decode cX6_of 105 = .ok (.iload_n 1, 1) := by decide +kernel
theorem dX6_of_106 : decode cX6_of 106 = .ok (.iaload, 1) := by decide +kernel
theorem dX6_of_107 : decode cX6_of 107 = .ok (.ireturn, 1) := by decide +kernel
theorem dX6_room_0 : decode cX6_room 0 = .ok (.iload_n 1, 1) := by decide +kernel
theorem dX6_room_1 : decode cX6_room 1 = .ok (.ifCond .lt 10, 3) := by decide +kernel
theorem dX6_room_4 : decode cX6_room 4 = .ok (.iload_n 1, 1) := by decide +kernel
theorem dX6_room_5 : decode cX6_room 5 = .ok (.sipush 10999, 3) := by decide +kernel
theorem dX6_room_8 : decode cX6_room 8 = .ok (.if_icmp .le 13, 3) := by decide +kernel
theorem dX6_room_11 : decode cX6_room 11 = .ok (.new 153, 3) := by decide +kernel
theorem dX6_room_14 : decode cX6_room 14 = .ok (.dup, 1) := by decide +kernel
theorem dX6_room_15 : decode cX6_room 15 = .ok (.ldc 170, 2) := by decide +kernel
theorem dX6_room_17 : decode cX6_room 17 = .ok (.invokespecial 157, 3) := by decide +kernel
theorem dX6_room_20 : decode cX6_room 20 = .ok (.athrow, 1) := by decide +kernel
theorem dX6_room_21 : decode cX6_room 21 = .ok (.iload_n 1, 1) := by decide +kernel
theorem dX6_room_22 : decode cX6_room 22 = .ok (.invokestatic 265, 3) := by decide +kernel
theorem dX6_room_25 : decode cX6_room 25 = .ok (.ifCond .eq 11, 3) := by decide +kernel
theorem dX6_room_28 : decode cX6_room 28 = .ok (.iload_n 1, 1) := by decide +kernel
theorem dX6_room_29 : decode cX6_room 29 = .ok (.aload_n 0, 1) := by decide +kernel
theorem dX6_room_30 : decode cX6_room 30 = .ok (.getfield 55, 3) := by decide +kernel
theorem dX6_room_33 : decode cX6_room 33 = .ok (.if_icmp .gt 5, 3) := by decide +kernel
theorem dX6_room_36 : decode cX6_room 36 = .ok (.iconst 0, 1) := by decide +kernel
theorem dX6_room_37 : decode cX6_room 37 = .ok (.ireturn, 1) := by decide +kernel
theorem dX6_room_38 : decode cX6_room 38 = .ok (.iconst 3, 1) := by decide +kernel
theorem dX6_room_39 : decode cX6_room 39 = .ok (.aload_n 0, 1) := by decide +kernel
theorem dX6_room_40 : decode cX6_room 40 = .ok (.getfield 30, 3) := by decide +kernel
theorem dX6_room_43 : decode cX6_room 43 = .ok (.iload_n 1, 1) := by decide +kernel
theorem dX6_room_44 : decode cX6_room 44 = .ok (.invokevirtual 268, 3) := by decide +kernel
theorem dX6_room_47 : decode cX6_room 47 = .ok (.isub, 1) := by decide +kernel
theorem dX6_room_48 : decode cX6_room 48 = .ok (.ireturn, 1) := by decide +kernel
theorem dX6_firm_0 : decode cX6_firm 0 = .ok (.iload_n 1, 1) := by decide +kernel
theorem dX6_firm_1 : decode cX6_firm 1 = .ok (.invokestatic 150, 3) := by decide +kernel
theorem dX6_firm_4 : decode cX6_firm 4 = .ok (.iload_n 2, 1) := by decide +kernel
theorem dX6_firm_5 : decode cX6_firm 5 = .ok (.bipush 7, 2) := by decide +kernel
theorem dX6_firm_7 : decode cX6_firm 7 = .ok (.invokestatic 246, 3) := by decide +kernel
theorem dX6_firm_10 : decode cX6_firm 10 = .ok (.iload_n 2, 1) := by decide +kernel
theorem dX6_firm_11 : decode cX6_firm 11 = .ok (.tableswitch 98 0 5 #[37, 50, 56, 65, 78, 88], 37) := by decide +kernel
theorem dX6_firm_48 : decode cX6_firm 48 = .ok (.aload_n 0, 1) := by decide +kernel
theorem dX6_firm_49 : decode cX6_firm 49 = .ok (.getfield 16, 3) := by decide +kernel
theorem dX6_firm_52 : decode cX6_firm 52 = .ok (.getfield 79, 3) := by decide +kernel
theorem dX6_firm_55 : decode cX6_firm 55 = .ok (.iload_n 1, 1) := by decide +kernel
theorem dX6_firm_56 : decode cX6_firm 56 = .ok (.baload, 1) := by decide +kernel
theorem dX6_firm_57 : decode cX6_firm 57 = .ok (.invokestatic 249, 3) := by decide +kernel
theorem dX6_firm_60 : decode cX6_firm 60 = .ok (.ireturn, 1) := by decide +kernel
theorem dX6_firm_61 : decode cX6_firm 61 = .ok (.aload_n 0, 1) := by decide +kernel
theorem dX6_firm_62 : decode cX6_firm 62 = .ok (.iload_n 1, 1) := by decide +kernel
theorem dX6_firm_63 : decode cX6_firm 63 = .ok (.invokevirtual 88, 3) := by decide +kernel
theorem dX6_firm_66 : decode cX6_firm 66 = .ok (.ireturn, 1) := by decide +kernel
theorem dX6_firm_67 : decode cX6_firm 67 = .ok (.aload_n 0, 1) := by decide +kernel
theorem dX6_firm_68 : decode cX6_firm 68 = .ok (.getfield 23, 3) := by decide +kernel
theorem dX6_firm_71 : decode cX6_firm 71 = .ok (.iload_n 1, 1) := by decide +kernel
theorem dX6_firm_72 : decode cX6_firm 72 = .ok (.invokevirtual 271, 3) := by decide +kernel
theorem dX6_firm_75 : decode cX6_firm 75 = .ok (.ireturn, 1) := by decide +kernel
theorem dX6_firm_76 : decode cX6_firm 76 = .ok (.aload_n 0, 1) := by decide +kernel
theorem dX6_firm_77 : decode cX6_firm 77 = .ok (.getfield 16, 3) := by decide +kernel
theorem dX6_firm_80 : decode cX6_firm 80 = .ok (.getfield 234, 3) := by decide +kernel
theorem dX6_firm_83 : decode cX6_firm 83 = .ok (.iload_n 1, 1) := by decide +kernel
theorem dX6_firm_84 : decode cX6_firm 84 = .ok (.baload, 1) := by decide +kernel
theorem dX6_firm_85 : decode cX6_firm 85 = .ok (.invokestatic 249, 3) := by decide +kernel
theorem dX6_firm_88 : decode cX6_firm 88 = .ok (.ireturn, 1) := by decide +kernel
theorem dX6_firm_89 : decode cX6_firm 89 = .ok (.aload_n 0, 1) := by decide +kernel
theorem dX6_firm_90 : decode cX6_firm 90 = .ok (.getfield 16, 3) := by decide +kernel
theorem dX6_firm_93 : decode cX6_firm 93 = .ok (.getfield 231, 3) := by decide +kernel
theorem dX6_firm_96 : decode cX6_firm 96 = .ok (.iload_n 1, 1) := by decide +kernel
theorem dX6_firm_97 : decode cX6_firm 97 = .ok (.iaload, 1) := by decide +kernel
theorem dX6_firm_98 : decode cX6_firm 98 = .ok (.ireturn, 1) := by decide +kernel
theorem dX6_firm_99 : decode cX6_firm 99 = .ok (.aload_n 0, 1) := by decide +kernel
theorem dX6_firm_100 : decode cX6_firm 100 = .ok (.getfield 16, 3) := by decide +kernel
theorem dX6_firm_103 : decode cX6_firm 103 = .ok (.getfield 274, 3) := by decide +kernel
theorem dX6_firm_106 : decode cX6_firm 106 = .ok (.iload_n 1, 1) := by decide +kernel
theorem dX6_firm_107 : decode cX6_firm 107 = .ok (.iaload, 1) := by decide +kernel
theorem dX6_firm_108 : decode cX6_firm 108 = .ok (.ireturn, 1) := by decide +kernel
theorem dX6_firm_109 : decode cX6_firm 109 = .ok (.aload_n 0, 1) := by decide +kernel
theorem dX6_firm_110 : decode cX6_firm 110 = .ok (.getfield 37, 3) := by decide +kernel
theorem dX6_firm_113 : decode cX6_firm 113 = .ok (.iload_n 1, 1) := by decide +kernel
theorem dX6_firm_114 : decode cX6_firm 114 = .ok (.invokevirtual 237, 3) := by decide +kernel
theorem dX6_firm_117 : decode cX6_firm 117 = .ok (.ireturn, 1) := by decide +kernel
theorem dX6_known_0 : decode cX6_known 0 = .ok (.iload_n 1, 1) := by decide +kernel
theorem dX6_known_1 : decode cX6_known 1 = .ok (.invokestatic 150, 3) := by decide +kernel
theorem dX6_known_4 : decode cX6_known 4 = .ok (.iload_n 2, 1) := by decide +kernel
theorem dX6_known_5 : decode cX6_known 5 = .ok (.invokestatic 99, 3) := by decide +kernel
theorem dX6_known_8 : decode cX6_known 8 = .ok (.aload_n 0, 1) := by decide +kernel
theorem dX6_known_9 : decode cX6_known 9 = .ok (.iload_n 1, 1) := by decide +kernel
theorem dX6_known_10 : decode cX6_known 10 = .ok (.iload_n 2, 1) := by decide +kernel
theorem dX6_known_11 : decode cX6_known 11 = .ok (.invokevirtual 277, 3) := by decide +kernel
theorem dX6_known_14 : decode cX6_known 14 = .ok (.ireturn, 1) := by decide +kernel
theorem dX6_audit_0 : decode cX6_audit 0 = .ok (.iload_n 1, 1) := by decide +kernel
theorem dX6_audit_1 : decode cX6_audit 1 = .ok (.invokestatic 150, 3) := by decide +kernel
theorem dX6_audit_4 : decode cX6_audit 4 = .ok (.iconst 0, 1) := by decide +kernel
theorem dX6_audit_5 : decode cX6_audit 5 = .ok (.istore_n 2, 1) := by decide +kernel
theorem dX6_audit_6 : decode cX6_audit 6 = .ok (.iconst 0, 1) := by decide +kernel
theorem dX6_audit_7 : decode cX6_audit 7 = .ok (.istore_n 3, 1) := by decide +kernel
theorem dX6_audit_8 : decode cX6_audit 8 = .ok (.iload_n 3, 1) := by decide +kernel
theorem dX6_audit_9 : decode cX6_audit 9 = .ok (.sipush 200, 3) := by decide +kernel
theorem dX6_audit_12 : decode cX6_audit 12 = .ok (.if_icmp .ge 41, 3) := by decide +kernel
theorem dX6_audit_15 : decode cX6_audit 15 = .ok (.aload_n 0, 1) := by decide +kernel
theorem dX6_audit_16 : decode cX6_audit 16 = .ok (.getfield 23, 3) := by decide +kernel
theorem dX6_audit_19 : decode cX6_audit 19 = .ok (.iload_n 3, 1) := by decide +kernel
theorem dX6_audit_20 : decode cX6_audit 20 = .ok (.invokevirtual 109, 3) := by decide +kernel
theorem dX6_audit_23 : decode cX6_audit 23 = .ok (.ifCond .eq 24, 3) := by decide +kernel
theorem dX6_audit_26 : decode cX6_audit 26 = .ok (.aload_n 0, 1) := by decide +kernel
theorem dX6_audit_27 : decode cX6_audit 27 = .ok (.iload_n 1, 1) := by decide +kernel
theorem dX6_audit_28 : decode cX6_audit 28 = .ok (.iload_n 3, 1) := by decide +kernel
theorem dX6_audit_29 : decode cX6_audit 29 = .ok (.invokevirtual 277, 3) := by decide +kernel
theorem dX6_audit_32 : decode cX6_audit 32 = .ok (.aload_n 0, 1) := by decide +kernel
theorem dX6_audit_33 : decode cX6_audit 33 = .ok (.getfield 23, 3) := by decide +kernel
theorem dX6_audit_36 : decode cX6_audit 36 = .ok (.getfield 129, 3) := by decide +kernel
theorem dX6_audit_39 : decode cX6_audit 39 = .ok (.iload_n 3, 1) := by decide +kernel
theorem dX6_audit_40 : decode cX6_audit 40 = .ok (.iaload, 1) := by decide +kernel
theorem dX6_audit_41 : decode cX6_audit 41 = .ok (.if_icmp .eq 6, 3) := by decide +kernel
theorem dX6_audit_44 : decode cX6_audit 44 = .ok (.iinc 2 1, 3) := by decide +kernel
theorem dX6_audit_47 : decode cX6_audit 47 = .ok (.iinc 3 1, 3) := by decide +kernel
theorem dX6_audit_50 : decode cX6_audit 50 = .ok (.goto (-42), 3) := by decide +kernel
theorem dX6_audit_53 : decode cX6_audit 53 = .ok (.iload_n 2, 1) := by decide +kernel
theorem dX6_audit_54 : decode cX6_audit 54 = .ok (.ireturn, 1) := by decide +kernel
theorem dX6_hop_0 : decode cX6_hop 0 = .ok (.iload_n 1, 1) := by decide +kernel
theorem dX6_hop_1 : decode cX6_hop 1 = .ok (.invokestatic 150, 3) := by decide +kernel
theorem dX6_hop_4 : decode cX6_hop 4 = .ok (.iload_n 2, 1) := by decide +kernel
theorem dX6_hop_5 : decode cX6_hop 5 = .ok (.invokestatic 99, 3) := by decide +kernel
theorem dX6_hop_8 : decode cX6_hop 8 = .ok (.iload 4, 2) := by decide +kernel
theorem dX6_hop_10 : decode cX6_hop 10 = .ok (.ifCond .ge 14, 3) := by decide +kernel
theorem dX6_hop_13 : decode cX6_hop 13 = .ok (.new 72, 3) := by decide +kernel
theorem dX6_hop_16 : decode cX6_hop 16 = .ok (.dup, 1) := by decide +kernel
theorem dX6_hop_17 : decode cX6_hop 17 = .ok (.ldc_w 281, 3) := by decide +kernel
theorem dX6_hop_20 : decode cX6_hop 20 = .ok (.invokespecial 76, 3) := by decide +kernel
theorem dX6_hop_23 : decode cX6_hop 23 = .ok (.athrow, 1) := by decide +kernel
theorem dX6_hop_24 : decode cX6_hop 24 = .ok (.iload_n 3, 1) := by decide +kernel
theorem dX6_hop_25 : decode cX6_hop 25 = .ok (.invokestatic 283, 3) := by decide +kernel
theorem dX6_hop_28 : decode cX6_hop 28 = .ok (.aload_n 0, 1) := by decide +kernel
theorem dX6_hop_29 : decode cX6_hop 29 = .ok (.iload_n 1, 1) := by decide +kernel
theorem dX6_hop_30 : decode cX6_hop 30 = .ok (.iload_n 2, 1) := by decide +kernel
theorem dX6_hop_31 : decode cX6_hop 31 = .ok (.iload_n 3, 1) := by decide +kernel
theorem dX6_hop_32 : decode cX6_hop 32 = .ok (.invokevirtual 286, 3) := by decide +kernel
theorem dX6_hop_35 : decode cX6_hop 35 = .ok (.pop, 1) := by decide +kernel
theorem dX6_hop_36 : decode cX6_hop 36 = .ok (.aload_n 0, 1) := by decide +kernel
theorem dX6_hop_37 : decode cX6_hop 37 = .ok (.getfield 51, 3) := by decide +kernel
theorem dX6_hop_40 : decode cX6_hop 40 = .ok (.iload 4, 2) := by decide +kernel
theorem dX6_hop_42 : decode cX6_hop 42 = .ok (.invokevirtual 289, 3) := by decide +kernel
theorem dX6_hop_45 : decode cX6_hop 45 = .ok (.ireturn, 1) := by decide +kernel
theorem dX6_why_0 : decode cX6_why 0 = .ok (.iload_n 1, 1) := by decide +kernel
theorem dX6_why_1 : decode cX6_why 1 = .ok (.invokestatic 150, 3) := by decide +kernel
theorem dX6_why_4 : decode cX6_why 4 = .ok (.iload_n 2, 1) := by decide +kernel
theorem dX6_why_5 : decode cX6_why 5 = .ok (.invokestatic 99, 3) := by decide +kernel
theorem dX6_why_8 : decode cX6_why 8 = .ok (.iload_n 3, 1) := by decide +kernel
theorem dX6_why_9 : decode cX6_why 9 = .ok (.invokestatic 283, 3) := by decide +kernel
theorem dX6_why_12 : decode cX6_why 12 = .ok (.aload_n 0, 1) := by decide +kernel
theorem dX6_why_13 : decode cX6_why 13 = .ok (.iload_n 1, 1) := by decide +kernel
theorem dX6_why_14 : decode cX6_why 14 = .ok (.iload_n 2, 1) := by decide +kernel
theorem dX6_why_15 : decode cX6_why 15 = .ok (.iload_n 3, 1) := by decide +kernel
theorem dX6_why_16 : decode cX6_why 16 = .ok (.invokevirtual 286, 3) := by decide +kernel
theorem dX6_why_19 : decode cX6_why 19 = .ok (.ireturn, 1) := by decide +kernel
theorem dX6_dial_0 : decode cX6_dial 0 = .ok (.iload_n 1, 1) := by decide +kernel
theorem dX6_dial_1 : decode cX6_dial 1 = .ok (.invokestatic 99, 3) := by decide +kernel
theorem dX6_dial_4 : decode cX6_dial 4 = .ok (.iload_n 2, 1) := by decide +kernel
theorem dX6_dial_5 : decode cX6_dial 5 = .ok (.invokestatic 99, 3) := by decide +kernel
theorem dX6_dial_8 : decode cX6_dial 8 = .ok (.iload_n 3, 1) := by decide +kernel
theorem dX6_dial_9 : decode cX6_dial 9 = .ok (.invokestatic 283, 3) := by decide +kernel
theorem dX6_dial_12 : decode cX6_dial 12 = .ok (.aload_n 0, 1) := by decide +kernel
theorem dX6_dial_13 : decode cX6_dial 13 = .ok (.iload_n 1, 1) := by decide +kernel
theorem dX6_dial_14 : decode cX6_dial 14 = .ok (.invokevirtual 126, 3) := by decide +kernel
theorem dX6_dial_17 : decode cX6_dial 17 = .ok (.aload_n 0, 1) := by decide +kernel
theorem dX6_dial_18 : decode cX6_dial 18 = .ok (.aload_n 0, 1) := by decide +kernel
theorem dX6_dial_19 : decode cX6_dial 19 = .ok (.getfield 23, 3) := by decide +kernel
theorem dX6_dial_22 : decode cX6_dial 22 = .ok (.getfield 129, 3) := by decide +kernel
theorem dX6_dial_25 : decode cX6_dial 25 = .ok (.iload_n 1, 1) := by decide +kernel
theorem dX6_dial_26 : decode cX6_dial 26 = .ok (.iaload, 1) := by decide +kernel
theorem dX6_dial_27 : decode cX6_dial 27 = .ok (.iload_n 2, 1) := by decide +kernel
theorem dX6_dial_28 : decode cX6_dial 28 = .ok (.iload_n 3, 1) := by decide +kernel
theorem dX6_dial_29 : decode cX6_dial 29 = .ok (.invokevirtual 286, 3) := by decide +kernel
theorem dX6_dial_32 : decode cX6_dial 32 = .ok (.istore 4, 2) := by decide +kernel
theorem dX6_dial_34 : decode cX6_dial 34 = .ok (.iload 4, 2) := by decide +kernel
theorem dX6_dial_36 : decode cX6_dial 36 = .ok (.ifCond .ne 7, 3) := by decide +kernel
theorem dX6_dial_39 : decode cX6_dial 39 = .ok (.aload_n 0, 1) := by decide +kernel
theorem dX6_dial_40 : decode cX6_dial 40 = .ok (.invokevirtual 292, 3) := by decide +kernel
theorem dX6_dial_43 : decode cX6_dial 43 = .ok (.iload 4, 2) := by decide +kernel
theorem dX6_dial_45 : decode cX6_dial 45 = .ok (.ireturn, 1) := by decide +kernel
theorem dX6_minute_0 : decode cX6_minute 0 = .ok (.aload_n 0, 1) := by decide +kernel
theorem dX6_minute_1 : decode cX6_minute 1 = .ok (.getfield 55, 3) := by decide +kernel
theorem dX6_minute_4 : decode cX6_minute 4 = .ok (.ireturn, 1) := by decide +kernel
theorem dX6_isFirm_0 : decode cX6_isFirm 0 = .ok (.iload_n 0, 1) := by decide +kernel
theorem dX6_isFirm_1 : decode cX6_isFirm 1 = .ok (.ifCond .lt 13, 3) := by decide +kernel
theorem dX6_isFirm_4 : decode cX6_isFirm 4 = .ok (.iload_n 0, 1) := by decide +kernel
theorem dX6_isFirm_5 : decode cX6_isFirm 5 = .ok (.bipush 6, 2) := by decide +kernel
theorem dX6_isFirm_7 : decode cX6_isFirm 7 = .ok (.if_icmp .ge 7, 3) := by decide +kernel
theorem dX6_isFirm_10 : decode cX6_isFirm 10 = .ok (.iconst 1, 1) := by decide +kernel
theorem dX6_isFirm_11 : decode cX6_isFirm 11 = .ok (.goto 4, 3) := by decide +kernel
theorem dX6_isFirm_14 : decode cX6_isFirm 14 = .ok (.iconst 0, 1) := by decide +kernel
theorem dX6_isFirm_15 : decode cX6_isFirm 15 = .ok (.ireturn, 1) := by decide +kernel
theorem dX6_isBlock_0 : decode cX6_isBlock 0 = .ok (.iload_n 0, 1) := by decide +kernel
theorem dX6_isBlock_1 : decode cX6_isBlock 1 = .ok (.ifCond .lt 13, 3) := by decide +kernel
theorem dX6_isBlock_4 : decode cX6_isBlock 4 = .ok (.iload_n 0, 1) := by decide +kernel
theorem dX6_isBlock_5 : decode cX6_isBlock 5 = .ok (.bipush 20, 2) := by decide +kernel
theorem dX6_isBlock_7 : decode cX6_isBlock 7 = .ok (.if_icmp .ge 7, 3) := by decide +kernel
theorem dX6_isBlock_10 : decode cX6_isBlock 10 = .ok (.iconst 1, 1) := by decide +kernel
theorem dX6_isBlock_11 : decode cX6_isBlock 11 = .ok (.goto 4, 3) := by decide +kernel
theorem dX6_isBlock_14 : decode cX6_isBlock 14 = .ok (.iconst 0, 1) := by decide +kernel
theorem dX6_isBlock_15 : decode cX6_isBlock 15 = .ok (.ireturn, 1) := by decide +kernel
theorem dX6_requireFirm_0 : decode cX6_requireFirm 0 = .ok (.iload_n 0, 1) := by decide +kernel
theorem dX6_requireFirm_1 : decode cX6_requireFirm 1 = .ok (.invokestatic 69, 3) := by decide +kernel
theorem dX6_requireFirm_4 : decode cX6_requireFirm 4 = .ok (.ifCond .ne 14, 3) := by decide +kernel
theorem dX6_requireFirm_7 : decode cX6_requireFirm 7 = .ok (.new 72, 3) := by decide +kernel
theorem dX6_requireFirm_10 : decode cX6_requireFirm 10 = .ok (.dup, 1) := by decide +kernel
theorem dX6_requireFirm_11 : decode cX6_requireFirm 11 = .ok (.ldc_w 295, 3) := by decide +kernel
theorem dX6_requireFirm_14 : decode cX6_requireFirm 14 = .ok (.invokespecial 76, 3) := by decide +kernel
theorem dX6_requireFirm_17 : decode cX6_requireFirm 17 = .ok (.athrow, 1) := by decide +kernel
theorem dX6_requireFirm_18 : decode cX6_requireFirm 18 = .ok (.return_, 1) := by decide +kernel
theorem dX6_requireNumber_0 : decode cX6_requireNumber 0 = .ok (.iload_n 0, 1) := by decide +kernel
theorem dX6_requireNumber_1 : decode cX6_requireNumber 1 = .ok (.ifCond .lt 10, 3) := by decide +kernel
theorem dX6_requireNumber_4 : decode cX6_requireNumber 4 = .ok (.iload_n 0, 1) := by decide +kernel
theorem dX6_requireNumber_5 : decode cX6_requireNumber 5 = .ok (.sipush 200, 3) := by decide +kernel
theorem dX6_requireNumber_8 : decode cX6_requireNumber 8 = .ok (.if_icmp .lt 14, 3) := by decide +kernel
theorem dX6_requireNumber_11 : decode cX6_requireNumber 11 = .ok (.new 72, 3) := by decide +kernel
theorem dX6_requireNumber_14 : decode cX6_requireNumber 14 = .ok (.dup, 1) := by decide +kernel
theorem dX6_requireNumber_15 : decode cX6_requireNumber 15 = .ok (.ldc_w 297, 3) := by decide +kernel
theorem dX6_requireNumber_18 : decode cX6_requireNumber 18 = .ok (.invokespecial 76, 3) := by decide +kernel
theorem dX6_requireNumber_21 : decode cX6_requireNumber 21 = .ok (.athrow, 1) := by decide +kernel
theorem dX6_requireNumber_22 : decode cX6_requireNumber 22 = .ok (.return_, 1) := by decide +kernel
theorem dX6_requireOrder_0 : decode cX6_requireOrder 0 = .ok (.iload_n 1, 1) := by decide +kernel
theorem dX6_requireOrder_1 : decode cX6_requireOrder 1 = .ok (.ifCond .lt 14, 3) := by decide +kernel
theorem dX6_requireOrder_4 : decode cX6_requireOrder 4 = .ok (.iload_n 1, 1) := by decide +kernel
theorem dX6_requireOrder_5 : decode cX6_requireOrder 5 = .ok (.aload_n 0, 1) := by decide +kernel
theorem dX6_requireOrder_6 : decode cX6_requireOrder 6 = .ok (.getfield 30, 3) := by decide +kernel
theorem dX6_requireOrder_9 : decode cX6_requireOrder 9 = .ok (.getfield 172, 3) := by decide +kernel
theorem dX6_requireOrder_12 : decode cX6_requireOrder 12 = .ok (.if_icmp .lt 14, 3) := by decide +kernel
theorem dX6_requireOrder_15 : decode cX6_requireOrder 15 = .ok (.new 72, 3) := by decide +kernel
theorem dX6_requireOrder_18 : decode cX6_requireOrder 18 = .ok (.dup, 1) := by decide +kernel
theorem dX6_requireOrder_19 : decode cX6_requireOrder 19 = .ok (.ldc_w 299, 3) := by decide +kernel
theorem dX6_requireOrder_22 : decode cX6_requireOrder 22 = .ok (.invokespecial 76, 3) := by decide +kernel
theorem dX6_requireOrder_25 : decode cX6_requireOrder 25 = .ok (.athrow, 1) := by decide +kernel
theorem dX6_requireOrder_26 : decode cX6_requireOrder 26 = .ok (.return_, 1) := by decide +kernel
theorem dX6_requireSecret_0 : decode cX6_requireSecret 0 = .ok (.iload_n 0, 1) := by decide +kernel
theorem dX6_requireSecret_1 : decode cX6_requireSecret 1 = .ok (.ifCond .lt 9, 3) := by decide +kernel
theorem dX6_requireSecret_4 : decode cX6_requireSecret 4 = .ok (.iload_n 0, 1) := by decide +kernel
theorem dX6_requireSecret_5 : decode cX6_requireSecret 5 = .ok (.bipush 100, 2) := by decide +kernel
theorem dX6_requireSecret_7 : decode cX6_requireSecret 7 = .ok (.if_icmp .lt 14, 3) := by decide +kernel
theorem dX6_requireSecret_10 : decode cX6_requireSecret 10 = .ok (.new 153, 3) := by decide +kernel
theorem dX6_requireSecret_13 : decode cX6_requireSecret 13 = .ok (.dup, 1) := by decide +kernel
theorem dX6_requireSecret_14 : decode cX6_requireSecret 14 = .ok (.ldc_w 301, 3) := by decide +kernel
theorem dX6_requireSecret_17 : decode cX6_requireSecret 17 = .ok (.invokespecial 157, 3) := by decide +kernel
theorem dX6_requireSecret_20 : decode cX6_requireSecret 20 = .ok (.athrow, 1) := by decide +kernel
theorem dX6_requireSecret_21 : decode cX6_requireSecret 21 = .ok (.return_, 1) := by decide +kernel
theorem dX6_requireWhat_0 : decode cX6_requireWhat 0 = .ok (.iload_n 0, 1) := by decide +kernel
theorem dX6_requireWhat_1 : decode cX6_requireWhat 1 = .ok (.ifCond .lt 8, 3) := by decide +kernel
theorem dX6_requireWhat_4 : decode cX6_requireWhat 4 = .ok (.iload_n 0, 1) := by decide +kernel
theorem dX6_requireWhat_5 : decode cX6_requireWhat 5 = .ok (.iload_n 1, 1) := by decide +kernel
theorem dX6_requireWhat_6 : decode cX6_requireWhat 6 = .ok (.if_icmp .lt 14, 3) := by decide +kernel
theorem dX6_requireWhat_9 : decode cX6_requireWhat 9 = .ok (.new 153, 3) := by decide +kernel
theorem dX6_requireWhat_12 : decode cX6_requireWhat 12 = .ok (.dup, 1) := by decide +kernel
theorem dX6_requireWhat_13 : decode cX6_requireWhat 13 = .ok (.ldc_w 303, 3) := by decide +kernel
theorem dX6_requireWhat_16 : decode cX6_requireWhat 16 = .ok (.invokespecial 157, 3) := by decide +kernel
theorem dX6_requireWhat_19 : decode cX6_requireWhat 19 = .ok (.athrow, 1) := by decide +kernel
theorem dX6_requireWhat_20 : decode cX6_requireWhat 20 = .ok (.return_, 1) := by decide +kernel
theorem dX6_requireWay_0 : decode cX6_requireWay 0 = .ok (.iload_n 0, 1) := by decide +kernel
theorem dX6_requireWay_1 : decode cX6_requireWay 1 = .ok (.ifCond .lt 8, 3) := by decide +kernel
theorem dX6_requireWay_4 : decode cX6_requireWay 4 = .ok (.iload_n 0, 1) := by decide +kernel
theorem dX6_requireWay_5 : decode cX6_requireWay 5 = .ok (.iconst 2, 1) := by decide +kernel
theorem dX6_requireWay_6 : decode cX6_requireWay 6 = .ok (.if_icmp .le 14, 3) := by decide +kernel
theorem dX6_requireWay_9 : decode cX6_requireWay 9 = .ok (.new 153, 3) := by decide +kernel
theorem dX6_requireWay_12 : decode cX6_requireWay 12 = .ok (.dup, 1) := by decide +kernel
theorem dX6_requireWay_13 : decode cX6_requireWay 13 = .ok (.ldc_w 305, 3) := by decide +kernel
theorem dX6_requireWay_16 : decode cX6_requireWay 16 = .ok (.invokespecial 157, 3) := by decide +kernel
theorem dX6_requireWay_19 : decode cX6_requireWay 19 = .ok (.athrow, 1) := by decide +kernel
theorem dX6_requireWay_20 : decode cX6_requireWay 20 = .ok (.return_, 1) := by decide +kernel
theorem dX6_requireInUse_0 : decode cX6_requireInUse 0 = .ok (.aload_n 0, 1) := by decide +kernel
theorem dX6_requireInUse_1 : decode cX6_requireInUse 1 = .ok (.getfield 23, 3) := by decide +kernel
theorem dX6_requireInUse_4 : decode cX6_requireInUse 4 = .ok (.iload_n 1, 1) := by decide +kernel
theorem dX6_requireInUse_5 : decode cX6_requireInUse 5 = .ok (.invokevirtual 109, 3) := by decide +kernel
theorem dX6_requireInUse_8 : decode cX6_requireInUse 8 = .ok (.ifCond .ne 14, 3) := by decide +kernel
theorem dX6_requireInUse_11 : decode cX6_requireInUse 11 = .ok (.new 83, 3) := by decide +kernel
theorem dX6_requireInUse_14 : decode cX6_requireInUse 14 = .ok (.dup, 1) := by decide +kernel
theorem dX6_requireInUse_15 : decode cX6_requireInUse 15 = .ok (.ldc_w 307, 3) := by decide +kernel
theorem dX6_requireInUse_18 : decode cX6_requireInUse 18 = .ok (.invokespecial 87, 3) := by decide +kernel
theorem dX6_requireInUse_21 : decode cX6_requireInUse 21 = .ok (.athrow, 1) := by decide +kernel
theorem dX6_requireInUse_22 : decode cX6_requireInUse 22 = .ok (.return_, 1) := by decide +kernel
theorem dX6_asInt_0 : decode cX6_asInt 0 = .ok (.iload_n 0, 1) := by decide +kernel
theorem dX6_asInt_1 : decode cX6_asInt 1 = .ok (.ifCond .eq 7, 3) := by decide +kernel
theorem dX6_asInt_4 : decode cX6_asInt 4 = .ok (.iconst 1, 1) := by decide +kernel
theorem dX6_asInt_5 : decode cX6_asInt 5 = .ok (.goto 4, 3) := by decide +kernel
theorem dX6_asInt_8 : decode cX6_asInt 8 = .ok (.iconst 0, 1) := by decide +kernel
theorem dX6_asInt_9 : decode cX6_asInt 9 = .ok (.ireturn, 1) := by decide +kernel
theorem dX6_holderOf_0 : decode cX6_holderOf 0 = .ok (.aload_n 0, 1) := by decide +kernel
theorem dX6_holderOf_1 : decode cX6_holderOf 1 = .ok (.getfield 9, 3) := by decide +kernel
theorem dX6_holderOf_4 : decode cX6_holderOf 4 = .ok (.iload_n 1, 1) := by decide +kernel
theorem dX6_holderOf_5 : decode cX6_holderOf 5 = .ok (.bipush 10, 2) := by decide +kernel
theorem dX6_holderOf_7 : decode cX6_holderOf 7 = .ok (.idiv, 1) := by decide +kernel
theorem dX6_holderOf_8 : decode cX6_holderOf 8 = .ok (.iaload, 1) := by decide +kernel
theorem dX6_holderOf_9 : decode cX6_holderOf 9 = .ok (.ireturn, 1) := by decide +kernel
theorem dX6_countBlocksOf_0 : decode cX6_countBlocksOf 0 = .ok (.iconst 0, 1) := by decide +kernel
theorem dX6_countBlocksOf_1 : decode cX6_countBlocksOf 1 = .ok (.istore_n 2, 1) := by decide +kernel
theorem dX6_countBlocksOf_2 : decode cX6_countBlocksOf 2 = .ok (.iconst 0, 1) := by decide +kernel
theorem dX6_countBlocksOf_3 : decode cX6_countBlocksOf 3 = .ok (.istore_n 3, 1) := by decide +kernel
theorem dX6_countBlocksOf_4 : decode cX6_countBlocksOf 4 = .ok (.iload_n 3, 1) := by decide +kernel
theorem dX6_countBlocksOf_5 : decode cX6_countBlocksOf 5 = .ok (.bipush 20, 2) := by decide +kernel
theorem dX6_countBlocksOf_7 : decode cX6_countBlocksOf 7 = .ok (.if_icmp .ge 22, 3) := by decide +kernel
theorem dX6_countBlocksOf_10 : decode cX6_countBlocksOf 10 = .ok (.aload_n 0, 1) := by decide +kernel
theorem dX6_countBlocksOf_11 : decode cX6_countBlocksOf 11 = .ok (.getfield 9, 3) := by decide +kernel
theorem dX6_countBlocksOf_14 : decode cX6_countBlocksOf 14 = .ok (.iload_n 3, 1) := by decide +kernel
theorem dX6_countBlocksOf_15 : decode cX6_countBlocksOf 15 = .ok (.iaload, 1) := by decide +kernel
theorem dX6_countBlocksOf_16 : decode cX6_countBlocksOf 16 = .ok (.iload_n 1, 1) := by decide +kernel
theorem dX6_countBlocksOf_17 : decode cX6_countBlocksOf 17 = .ok (.if_icmp .ne 6, 3) := by decide +kernel
theorem dX6_countBlocksOf_20 : decode cX6_countBlocksOf 20 = .ok (.iinc 2 1, 3) := by decide +kernel
theorem dX6_countBlocksOf_23 : decode cX6_countBlocksOf 23 = .ok (.iinc 3 1, 3) := by decide +kernel
theorem dX6_countBlocksOf_26 : decode cX6_countBlocksOf 26 = .ok (.goto (-22), 3) := by decide +kernel
theorem dX6_countBlocksOf_29 : decode cX6_countBlocksOf 29 = .ok (.iload_n 2, 1) := by decide +kernel
theorem dX6_countBlocksOf_30 : decode cX6_countBlocksOf 30 = .ok (.ireturn, 1) := by decide +kernel
theorem dX6_isBlockBusy_0 : decode cX6_isBlockBusy 0 = .ok (.iload_n 1, 1) := by decide +kernel
theorem dX6_isBlockBusy_1 : decode cX6_isBlockBusy 1 = .ok (.bipush 10, 2) := by decide +kernel
theorem dX6_isBlockBusy_3 : decode cX6_isBlockBusy 3 = .ok (.imul, 1) := by decide +kernel
theorem dX6_isBlockBusy_4 : decode cX6_isBlockBusy 4 = .ok (.istore_n 2, 1) := by decide +kernel
theorem dX6_isBlockBusy_5 : decode cX6_isBlockBusy 5 = .ok (.iload_n 2, 1) := by decide +kernel
theorem dX6_isBlockBusy_6 : decode cX6_isBlockBusy 6 = .ok (.istore_n 3, 1) := by decide +kernel
theorem dX6_isBlockBusy_7 : decode cX6_isBlockBusy 7 = .ok (.iload_n 3, 1) := by decide +kernel
theorem dX6_isBlockBusy_8 : decode cX6_isBlockBusy 8 = .ok (.iload_n 2, 1) := by decide +kernel
theorem dX6_isBlockBusy_9 : decode cX6_isBlockBusy 9 = .ok (.bipush 10, 2) := by decide +kernel
theorem dX6_isBlockBusy_11 : decode cX6_isBlockBusy 11 = .ok (.iadd, 1) := by decide +kernel
theorem dX6_isBlockBusy_12 : decode cX6_isBlockBusy 12 = .ok (.if_icmp .ge 37, 3) := by decide +kernel
theorem dX6_isBlockBusy_15 : decode cX6_isBlockBusy 15 = .ok (.aload_n 0, 1) := by decide +kernel
theorem dX6_isBlockBusy_16 : decode cX6_isBlockBusy 16 = .ok (.getfield 23, 3) := by decide +kernel
theorem dX6_isBlockBusy_19 : decode cX6_isBlockBusy 19 = .ok (.iload_n 3, 1) := by decide +kernel
theorem dX6_isBlockBusy_20 : decode cX6_isBlockBusy 20 = .ok (.invokevirtual 109, 3) := by decide +kernel
theorem dX6_isBlockBusy_23 : decode cX6_isBlockBusy 23 = .ok (.ifCond .ne 18, 3) := by decide +kernel
theorem dX6_isBlockBusy_26 : decode cX6_isBlockBusy 26 = .ok (.aload_n 0, 1) := by decide +kernel
theorem dX6_isBlockBusy_27 : decode cX6_isBlockBusy 27 = .ok (.getfield 23, 3) := by decide +kernel
theorem dX6_isBlockBusy_30 : decode cX6_isBlockBusy 30 = .ok (.iload_n 3, 1) := by decide +kernel
theorem dX6_isBlockBusy_31 : decode cX6_isBlockBusy 31 = .ok (.aload_n 0, 1) := by decide +kernel
theorem dX6_isBlockBusy_32 : decode cX6_isBlockBusy 32 = .ok (.getfield 55, 3) := by decide +kernel
theorem dX6_isBlockBusy_35 : decode cX6_isBlockBusy 35 = .ok (.invokevirtual 112, 3) := by decide +kernel
theorem dX6_isBlockBusy_38 : decode cX6_isBlockBusy 38 = .ok (.ifCond .eq 5, 3) := by decide +kernel
theorem dX6_isBlockBusy_41 : decode cX6_isBlockBusy 41 = .ok (.iconst 1, 1) := by decide +kernel
theorem dX6_isBlockBusy_42 : decode cX6_isBlockBusy 42 = .ok (.ireturn, 1) := by decide +kernel
theorem dX6_isBlockBusy_43 : decode cX6_isBlockBusy 43 = .ok (.iinc 3 1, 3) := by decide +kernel
theorem dX6_isBlockBusy_46 : decode cX6_isBlockBusy 46 = .ok (.goto (-39), 3) := by decide +kernel
theorem dX6_isBlockBusy_49 : decode cX6_isBlockBusy 49 = .ok (.iconst 0, 1) := by decide +kernel
theorem dX6_isBlockBusy_50 : decode cX6_isBlockBusy 50 = .ok (.ireturn, 1) := by decide +kernel
theorem dX6_inheritBlock_0 : decode cX6_inheritBlock 0 = .ok (.aload_n 0, 1) := by decide +kernel
theorem dX6_inheritBlock_1 : decode cX6_inheritBlock 1 = .ok (.getfield 9, 3) := by decide +kernel
theorem dX6_inheritBlock_4 : decode cX6_inheritBlock 4 = .ok (.iload_n 1, 1) := by decide +kernel
theorem dX6_inheritBlock_5 : decode cX6_inheritBlock 5 = .ok (.iaload, 1) := by decide +kernel
theorem dX6_inheritBlock_6 : decode cX6_inheritBlock 6 = .ok (.istore 4, 2) := by decide +kernel
theorem dX6_inheritBlock_8 : decode cX6_inheritBlock 8 = .ok (.iload 4, 2) := by decide +kernel
theorem dX6_inheritBlock_10 : decode cX6_inheritBlock 10 = .ok (.iload_n 2, 1) := by decide +kernel
theorem dX6_inheritBlock_11 : decode cX6_inheritBlock 11 = .ok (.if_icmp .ne 10, 3) := by decide +kernel
theorem dX6_inheritBlock_14 : decode cX6_inheritBlock 14 = .ok (.aload_n 0, 1) := by decide +kernel
theorem dX6_inheritBlock_15 : decode cX6_inheritBlock 15 = .ok (.getfield 9, 3) := by decide +kernel
theorem dX6_inheritBlock_18 : decode cX6_inheritBlock 18 = .ok (.iload_n 1, 1) := by decide +kernel
theorem dX6_inheritBlock_19 : decode cX6_inheritBlock 19 = .ok (.iload_n 3, 1) := by decide +kernel
theorem dX6_inheritBlock_20 : decode cX6_inheritBlock 20 = .ok (.iastore, 1) := by decide +kernel
theorem dX6_inheritBlock_21 : decode cX6_inheritBlock 21 = .ok (.iconst 0, 1) := by decide +kernel
theorem dX6_inheritBlock_22 : decode cX6_inheritBlock 22 = .ok (.istore 5, 2) := by decide +kernel
theorem dX6_inheritBlock_24 : decode cX6_inheritBlock 24 = .ok (.iload_n 1, 1) := by decide +kernel
theorem dX6_inheritBlock_25 : decode cX6_inheritBlock 25 = .ok (.bipush 10, 2) := by decide +kernel
theorem dX6_inheritBlock_27 : decode cX6_inheritBlock 27 = .ok (.imul, 1) := by decide +kernel
theorem dX6_inheritBlock_28 : decode cX6_inheritBlock 28 = .ok (.istore 6, 2) := by decide +kernel
theorem dX6_inheritBlock_30 : decode cX6_inheritBlock 30 = .ok (.iload 6, 2) := by decide +kernel
theorem dX6_inheritBlock_32 : decode cX6_inheritBlock 32 = .ok (.istore 7, 2) := by decide +kernel
theorem dX6_inheritBlock_34 : decode cX6_inheritBlock 34 = .ok (.iload 7, 2) := by decide +kernel
theorem dX6_inheritBlock_36 : decode cX6_inheritBlock 36 = .ok (.iload 6, 2) := by decide +kernel
theorem dX6_inheritBlock_38 : decode cX6_inheritBlock 38 = .ok (.bipush 10, 2) := by decide +kernel
theorem dX6_inheritBlock_40 : decode cX6_inheritBlock 40 = .ok (.iadd, 1) := by decide +kernel
theorem dX6_inheritBlock_41 : decode cX6_inheritBlock 41 = .ok (.if_icmp .ge 63, 3) := by decide +kernel
theorem dX6_inheritBlock_44 : decode cX6_inheritBlock 44 = .ok (.aload_n 0, 1) := by decide +kernel
theorem dX6_inheritBlock_45 : decode cX6_inheritBlock 45 = .ok (.getfield 23, 3) := by decide +kernel
theorem dX6_inheritBlock_48 : decode cX6_inheritBlock 48 = .ok (.getfield 129, 3) := by decide +kernel
theorem dX6_inheritBlock_51 : decode cX6_inheritBlock 51 = .ok (.iload 7, 2) := by decide +kernel
theorem dX6_inheritBlock_53 : decode cX6_inheritBlock 53 = .ok (.iaload, 1) := by decide +kernel
theorem dX6_inheritBlock_54 : decode cX6_inheritBlock 54 = .ok (.istore 8, 2) := by decide +kernel
theorem dX6_inheritBlock_56 : decode cX6_inheritBlock 56 = .ok (.iload 8, 2) := by decide +kernel
theorem dX6_inheritBlock_58 : decode cX6_inheritBlock 58 = .ok (.iload_n 2, 1) := by decide +kernel
theorem dX6_inheritBlock_59 : decode cX6_inheritBlock 59 = .ok (.if_icmp .ne 28, 3) := by decide +kernel
theorem dX6_inheritBlock_62 : decode cX6_inheritBlock 62 = .ok (.aload_n 0, 1) := by decide +kernel
theorem dX6_inheritBlock_63 : decode cX6_inheritBlock 63 = .ok (.getfield 23, 3) := by decide +kernel
theorem dX6_inheritBlock_66 : decode cX6_inheritBlock 66 = .ok (.getfield 129, 3) := by decide +kernel
theorem dX6_inheritBlock_69 : decode cX6_inheritBlock 69 = .ok (.iload 7, 2) := by decide +kernel
theorem dX6_inheritBlock_71 : decode cX6_inheritBlock 71 = .ok (.iload_n 3, 1) := by decide +kernel
theorem dX6_inheritBlock_72 : decode cX6_inheritBlock 72 = .ok (.iastore, 1) := by decide +kernel
theorem dX6_inheritBlock_73 : decode cX6_inheritBlock 73 = .ok (.aload_n 0, 1) := by decide +kernel
theorem dX6_inheritBlock_74 : decode cX6_inheritBlock 74 = .ok (.getfield 23, 3) := by decide +kernel
theorem dX6_inheritBlock_77 : decode cX6_inheritBlock 77 = .ok (.getfield 309, 3) := by decide +kernel
theorem dX6_inheritBlock_80 : decode cX6_inheritBlock 80 = .ok (.iload 7, 2) := by decide +kernel
theorem dX6_inheritBlock_82 : decode cX6_inheritBlock 82 = .ok (.iconst (-1), 1) := by decide +kernel
theorem dX6_inheritBlock_83 : decode cX6_inheritBlock 83 = .ok (.iastore, 1) := by decide +kernel
theorem dX6_inheritBlock_84 : decode cX6_inheritBlock 84 = .ok (.iinc 5 1, 3) := by decide +kernel
theorem dX6_inheritBlock_87 : decode cX6_inheritBlock 87 = .ok (.aload_n 0, 1) := by decide +kernel
theorem dX6_inheritBlock_88 : decode cX6_inheritBlock 88 = .ok (.iload 7, 2) := by decide +kernel
theorem dX6_inheritBlock_90 : decode cX6_inheritBlock 90 = .ok (.iload_n 3, 1) := by decide +kernel
theorem dX6_inheritBlock_91 : decode cX6_inheritBlock 91 = .ok (.iload 8, 2) := by decide +kernel
theorem dX6_inheritBlock_93 : decode cX6_inheritBlock 93 = .ok (.iload 4, 2) := by decide +kernel
theorem dX6_inheritBlock_95 : decode cX6_inheritBlock 95 = .ok (.invokevirtual 312, 3) := by decide +kernel
theorem dX6_inheritBlock_98 : decode cX6_inheritBlock 98 = .ok (.iinc 7 1, 3) := by decide +kernel
theorem dX6_inheritBlock_101 : decode cX6_inheritBlock 101 = .ok (.goto (-67), 3) := by decide +kernel
theorem dX6_inheritBlock_104 : decode cX6_inheritBlock 104 = .ok (.iload 5, 2) := by decide +kernel
theorem dX6_inheritBlock_106 : decode cX6_inheritBlock 106 = .ok (.ireturn, 1) := by decide +kernel
theorem dX6_announceHeir_0 : decode cX6_announceHeir 0 = .ok (.aload_n 0, 1) := by decide +kernel
theorem dX6_announceHeir_1 : decode cX6_announceHeir 1 = .ok (.getfield 23, 3) := by decide +kernel
theorem dX6_announceHeir_4 : decode cX6_announceHeir 4 = .ok (.getfield 129, 3) := by decide +kernel
theorem dX6_announceHeir_7 : decode cX6_announceHeir 7 = .ok (.iload_n 1, 1) := by decide +kernel
theorem dX6_announceHeir_8 : decode cX6_announceHeir 8 = .ok (.iaload, 1) := by decide +kernel
theorem dX6_announceHeir_9 : decode cX6_announceHeir 9 = .ok (.iload_n 2, 1) := by decide +kernel
theorem dX6_announceHeir_10 : decode cX6_announceHeir 10 = .ok (.if_icmp .eq 4, 3) := by decide +kernel
theorem dX6_announceHeir_13 : decode cX6_announceHeir 13 = .ok (.return_, 1) := by decide +kernel
theorem dX6_announceHeir_14 : decode cX6_announceHeir 14 = .ok (.aload_n 0, 1) := by decide +kernel
theorem dX6_announceHeir_15 : decode cX6_announceHeir 15 = .ok (.iload_n 1, 1) := by decide +kernel
theorem dX6_announceHeir_16 : decode cX6_announceHeir 16 = .ok (.invokevirtual 106, 3) := by decide +kernel
theorem dX6_announceHeir_19 : decode cX6_announceHeir 19 = .ok (.iload_n 2, 1) := by decide +kernel
theorem dX6_announceHeir_20 : decode cX6_announceHeir 20 = .ok (.if_icmp .eq 24, 3) := by decide +kernel
theorem dX6_announceHeir_23 : decode cX6_announceHeir 23 = .ok (.iload_n 3, 1) := by decide +kernel
theorem dX6_announceHeir_24 : decode cX6_announceHeir 24 = .ok (.iload_n 2, 1) := by decide +kernel
theorem dX6_announceHeir_25 : decode cX6_announceHeir 25 = .ok (.if_icmp .eq 39, 3) := by decide +kernel
theorem dX6_announceHeir_28 : decode cX6_announceHeir 28 = .ok (.aload_n 0, 1) := by decide +kernel
theorem dX6_announceHeir_29 : decode cX6_announceHeir 29 = .ok (.getfield 37, 3) := by decide +kernel
theorem dX6_announceHeir_32 : decode cX6_announceHeir 32 = .ok (.aload_n 0, 1) := by decide +kernel
theorem dX6_announceHeir_33 : decode cX6_announceHeir 33 = .ok (.getfield 55, 3) := by decide +kernel
theorem dX6_announceHeir_36 : decode cX6_announceHeir 36 = .ok (.iload_n 1, 1) := by decide +kernel
theorem dX6_announceHeir_37 : decode cX6_announceHeir 37 = .ok (.iload_n 2, 1) := by decide +kernel
theorem dX6_announceHeir_38 : decode cX6_announceHeir 38 = .ok (.invokevirtual 138, 3) := by decide +kernel
theorem dX6_announceHeir_41 : decode cX6_announceHeir 41 = .ok (.goto 23, 3) := by decide +kernel
theorem dX6_announceHeir_44 : decode cX6_announceHeir 44 = .ok (.iload_n 3, 1) := by decide +kernel
theorem dX6_announceHeir_45 : decode cX6_announceHeir 45 = .ok (.iload 4, 2) := by decide +kernel
theorem dX6_announceHeir_47 : decode cX6_announceHeir 47 = .ok (.if_icmp .eq 17, 3) := by decide +kernel
theorem dX6_announceHeir_50 : decode cX6_announceHeir 50 = .ok (.aload_n 0, 1) := by decide +kernel
theorem dX6_announceHeir_51 : decode cX6_announceHeir 51 = .ok (.getfield 37, 3) := by decide +kernel
theorem dX6_announceHeir_54 : decode cX6_announceHeir 54 = .ok (.aload_n 0, 1) := by decide +kernel
theorem dX6_announceHeir_55 : decode cX6_announceHeir 55 = .ok (.getfield 55, 3) := by decide +kernel
theorem dX6_announceHeir_58 : decode cX6_announceHeir 58 = .ok (.iload_n 1, 1) := by decide +kernel
theorem dX6_announceHeir_59 : decode cX6_announceHeir 59 = .ok (.bipush 6, 2) := by decide +kernel
theorem dX6_announceHeir_61 : decode cX6_announceHeir 61 = .ok (.invokevirtual 138, 3) := by decide +kernel
theorem dX6_announceHeir_64 : decode cX6_announceHeir 64 = .ok (.return_, 1) := by decide +kernel
theorem dX6_isInWindow_0 : decode cX6_isInWindow 0 = .ok (.iload_n 0, 1) := by decide +kernel
theorem dX6_isInWindow_1 : decode cX6_isInWindow 1 = .ok (.bipush 100, 2) := by decide +kernel
theorem dX6_isInWindow_3 : decode cX6_isInWindow 3 = .ok (.irem, 1) := by decide +kernel
theorem dX6_isInWindow_4 : decode cX6_isInWindow 4 = .ok (.bipush 20, 2) := by decide +kernel
theorem dX6_isInWindow_6 : decode cX6_isInWindow 6 = .ok (.if_icmp .ge 7, 3) := by decide +kernel
theorem dX6_isInWindow_9 : decode cX6_isInWindow 9 = .ok (.iconst 1, 1) := by decide +kernel
theorem dX6_isInWindow_10 : decode cX6_isInWindow 10 = .ok (.goto 4, 3) := by decide +kernel
theorem dX6_isInWindow_13 : decode cX6_isInWindow 13 = .ok (.iconst 0, 1) := by decide +kernel
theorem dX6_isInWindow_14 : decode cX6_isInWindow 14 = .ok (.ireturn, 1) := by decide +kernel
theorem dX6_reasonToReject_0 : decode cX6_reasonToReject 0 = .ok (.aload_n 0, 1) := by decide +kernel
theorem dX6_reasonToReject_1 : decode cX6_reasonToReject 1 = .ok (.getfield 23, 3) := by decide +kernel
theorem dX6_reasonToReject_4 : decode cX6_reasonToReject 4 = .ok (.iload_n 2, 1) := by decide +kernel
theorem dX6_reasonToReject_5 : decode cX6_reasonToReject 5 = .ok (.invokevirtual 109, 3) := by decide +kernel
theorem dX6_reasonToReject_8 : decode cX6_reasonToReject 8 = .ok (.ifCond .ne 5, 3) := by decide +kernel
theorem dX6_reasonToReject_11 : decode cX6_reasonToReject 11 = .ok (.iconst 1, 1) := by decide +kernel
theorem dX6_reasonToReject_12 : decode cX6_reasonToReject 12 = .ok (.ireturn, 1) := by decide +kernel
theorem dX6_reasonToReject_13 : decode cX6_reasonToReject 13 = .ok (.aload_n 0, 1) := by decide +kernel
theorem dX6_reasonToReject_14 : decode cX6_reasonToReject 14 = .ok (.getfield 23, 3) := by decide +kernel
theorem dX6_reasonToReject_17 : decode cX6_reasonToReject 17 = .ok (.getfield 129, 3) := by decide +kernel
theorem dX6_reasonToReject_20 : decode cX6_reasonToReject 20 = .ok (.iload_n 2, 1) := by decide +kernel
theorem dX6_reasonToReject_21 : decode cX6_reasonToReject 21 = .ok (.iaload, 1) := by decide +kernel
theorem dX6_reasonToReject_22 : decode cX6_reasonToReject 22 = .ok (.iload_n 1, 1) := by decide +kernel
theorem dX6_reasonToReject_23 : decode cX6_reasonToReject 23 = .ok (.if_icmp .ne 5, 3) := by decide +kernel
theorem dX6_reasonToReject_26 : decode cX6_reasonToReject 26 = .ok (.iconst 2, 1) := by decide +kernel
theorem dX6_reasonToReject_27 : decode cX6_reasonToReject 27 = .ok (.ireturn, 1) := by decide +kernel
theorem dX6_reasonToReject_28 : decode cX6_reasonToReject 28 = .ok (.aload_n 0, 1) := by decide +kernel
theorem dX6_reasonToReject_29 : decode cX6_reasonToReject 29 = .ok (.getfield 23, 3) := by decide +kernel
theorem dX6_reasonToReject_32 : decode cX6_reasonToReject 32 = .ok (.getfield 141, 3) := by decide +kernel
theorem dX6_reasonToReject_35 : decode cX6_reasonToReject 35 = .ok (.iload_n 2, 1) := by decide +kernel
theorem dX6_reasonToReject_36 : decode cX6_reasonToReject 36 = .ok (.iaload, 1) := by decide +kernel
theorem dX6_reasonToReject_37 : decode cX6_reasonToReject 37 = .ok (.iload_n 3, 1) := by decide +kernel
theorem dX6_reasonToReject_38 : decode cX6_reasonToReject 38 = .ok (.if_icmp .eq 5, 3) := by decide +kernel
theorem dX6_reasonToReject_41 : decode cX6_reasonToReject 41 = .ok (.iconst 3, 1) := by decide +kernel
theorem dX6_reasonToReject_42 : decode cX6_reasonToReject 42 = .ok (.ireturn, 1) := by decide +kernel
theorem dX6_reasonToReject_43 : decode cX6_reasonToReject 43 = .ok (.aload_n 0, 1) := by decide +kernel
theorem dX6_reasonToReject_44 : decode cX6_reasonToReject 44 = .ok (.getfield 30, 3) := by decide +kernel
theorem dX6_reasonToReject_47 : decode cX6_reasonToReject 47 = .ok (.iload_n 2, 1) := by decide +kernel
theorem dX6_reasonToReject_48 : decode cX6_reasonToReject 48 = .ok (.invokevirtual 259, 3) := by decide +kernel
theorem dX6_reasonToReject_51 : decode cX6_reasonToReject 51 = .ok (.iconst (-1), 1) := by decide +kernel
theorem dX6_reasonToReject_52 : decode cX6_reasonToReject 52 = .ok (.if_icmp .eq 5, 3) := by decide +kernel
theorem dX6_reasonToReject_55 : decode cX6_reasonToReject 55 = .ok (.iconst 4, 1) := by decide +kernel
theorem dX6_reasonToReject_56 : decode cX6_reasonToReject 56 = .ok (.ireturn, 1) := by decide +kernel
theorem dX6_reasonToReject_57 : decode cX6_reasonToReject 57 = .ok (.aload_n 0, 1) := by decide +kernel
theorem dX6_reasonToReject_58 : decode cX6_reasonToReject 58 = .ok (.getfield 23, 3) := by decide +kernel
theorem dX6_reasonToReject_61 : decode cX6_reasonToReject 61 = .ok (.iload_n 2, 1) := by decide +kernel
theorem dX6_reasonToReject_62 : decode cX6_reasonToReject 62 = .ok (.aload_n 0, 1) := by decide +kernel
theorem dX6_reasonToReject_63 : decode cX6_reasonToReject 63 = .ok (.getfield 55, 3) := by decide +kernel
theorem dX6_reasonToReject_66 : decode cX6_reasonToReject 66 = .ok (.invokevirtual 253, 3) := by decide +kernel
theorem dX6_reasonToReject_69 : decode cX6_reasonToReject 69 = .ok (.ifCond .eq 5, 3) := by decide +kernel
theorem dX6_reasonToReject_72 : decode cX6_reasonToReject 72 = .ok (.iconst 5, 1) := by decide +kernel
theorem dX6_reasonToReject_73 : decode cX6_reasonToReject 73 = .ok (.ireturn, 1) := by decide +kernel
theorem dX6_reasonToReject_74 : decode cX6_reasonToReject 74 = .ok (.iload 4, 2) := by decide +kernel
theorem dX6_reasonToReject_76 : decode cX6_reasonToReject 76 = .ok (.invokestatic 265, 3) := by decide +kernel
theorem dX6_reasonToReject_79 : decode cX6_reasonToReject 79 = .ok (.ifCond .ne 6, 3) := by decide +kernel
theorem dX6_reasonToReject_82 : decode cX6_reasonToReject 82 = .ok (.bipush 6, 2) := by decide +kernel
theorem dX6_reasonToReject_84 : decode cX6_reasonToReject 84 = .ok (.ireturn, 1) := by decide +kernel
theorem dX6_reasonToReject_85 : decode cX6_reasonToReject 85 = .ok (.aload_n 0, 1) := by decide +kernel
theorem dX6_reasonToReject_86 : decode cX6_reasonToReject 86 = .ok (.getfield 30, 3) := by decide +kernel
theorem dX6_reasonToReject_89 : decode cX6_reasonToReject 89 = .ok (.iload 4, 2) := by decide +kernel
theorem dX6_reasonToReject_91 : decode cX6_reasonToReject 91 = .ok (.invokevirtual 268, 3) := by decide +kernel
theorem dX6_reasonToReject_94 : decode cX6_reasonToReject 94 = .ok (.iconst 3, 1) := by decide +kernel
theorem dX6_reasonToReject_95 : decode cX6_reasonToReject 95 = .ok (.if_icmp .lt 8, 3) := by decide +kernel
theorem dX6_reasonToReject_98 : decode cX6_reasonToReject 98 = .ok (.bipush 7, 2) := by decide +kernel
theorem dX6_reasonToReject_100 : decode cX6_reasonToReject 100 = .ok (.goto 4, 3) := by decide +kernel
theorem dX6_reasonToReject_103 : decode cX6_reasonToReject 103 = .ok (.iconst 0, 1) := by decide +kernel
theorem dX6_reasonToReject_104 : decode cX6_reasonToReject 104 = .ok (.ireturn, 1) := by decide +kernel
theorem dX6_canReverse_0 : decode cX6_canReverse 0 = .ok (.aload_n 0, 1) := by decide +kernel
theorem dX6_canReverse_1 : decode cX6_canReverse 1 = .ok (.getfield 30, 3) := by decide +kernel
theorem dX6_canReverse_4 : decode cX6_canReverse 4 = .ok (.getfield 187, 3) := by decide +kernel
theorem dX6_canReverse_7 : decode cX6_canReverse 7 = .ok (.iload_n 1, 1) := by decide +kernel
theorem dX6_canReverse_8 : decode cX6_canReverse 8 = .ok (.iaload, 1) := by decide +kernel
theorem dX6_canReverse_9 : decode cX6_canReverse 9 = .ok (.iconst 2, 1) := by decide +kernel
theorem dX6_canReverse_10 : decode cX6_canReverse 10 = .ok (.if_icmp .ne 22, 3) := by decide +kernel
theorem dX6_canReverse_13 : decode cX6_canReverse 13 = .ok (.aload_n 0, 1) := by decide +kernel
theorem dX6_canReverse_14 : decode cX6_canReverse 14 = .ok (.getfield 55, 3) := by decide +kernel
theorem dX6_canReverse_17 : decode cX6_canReverse 17 = .ok (.aload_n 0, 1) := by decide +kernel
theorem dX6_canReverse_18 : decode cX6_canReverse 18 = .ok (.getfield 30, 3) := by decide +kernel
theorem dX6_canReverse_21 : decode cX6_canReverse 21 = .ok (.getfield 190, 3) := by decide +kernel
theorem dX6_canReverse_24 : decode cX6_canReverse 24 = .ok (.iload_n 1, 1) := by decide +kernel
theorem dX6_canReverse_25 : decode cX6_canReverse 25 = .ok (.iaload, 1) := by decide +kernel
theorem dX6_canReverse_26 : decode cX6_canReverse 26 = .ok (.isub, 1) := by decide +kernel
theorem dX6_canReverse_27 : decode cX6_canReverse 27 = .ok (.bipush 60, 2) := by decide +kernel
theorem dX6_canReverse_29 : decode cX6_canReverse 29 = .ok (.if_icmp .le 5, 3) := by decide +kernel
theorem dX6_canReverse_32 : decode cX6_canReverse 32 = .ok (.iconst 0, 1) := by decide +kernel
theorem dX6_canReverse_33 : decode cX6_canReverse 33 = .ok (.ireturn, 1) := by decide +kernel
theorem dX6_canReverse_34 : decode cX6_canReverse 34 = .ok (.aload_n 0, 1) := by decide +kernel
theorem dX6_canReverse_35 : decode cX6_canReverse 35 = .ok (.getfield 30, 3) := by decide +kernel
theorem dX6_canReverse_38 : decode cX6_canReverse 38 = .ok (.getfield 207, 3) := by decide +kernel
theorem dX6_canReverse_41 : decode cX6_canReverse 41 = .ok (.iload_n 1, 1) := by decide +kernel
theorem dX6_canReverse_42 : decode cX6_canReverse 42 = .ok (.iaload, 1) := by decide +kernel
theorem dX6_canReverse_43 : decode cX6_canReverse 43 = .ok (.istore_n 2, 1) := by decide +kernel
theorem dX6_canReverse_44 : decode cX6_canReverse 44 = .ok (.aload_n 0, 1) := by decide +kernel
theorem dX6_canReverse_45 : decode cX6_canReverse 45 = .ok (.getfield 30, 3) := by decide +kernel
theorem dX6_canReverse_48 : decode cX6_canReverse 48 = .ok (.getfield 204, 3) := by decide +kernel
theorem dX6_canReverse_51 : decode cX6_canReverse 51 = .ok (.iload_n 1, 1) := by decide +kernel
theorem dX6_canReverse_52 : decode cX6_canReverse 52 = .ok (.iaload, 1) := by decide +kernel
theorem dX6_canReverse_53 : decode cX6_canReverse 53 = .ok (.istore_n 3, 1) := by decide +kernel
theorem dX6_canReverse_54 : decode cX6_canReverse 54 = .ok (.aload_n 0, 1) := by decide +kernel
theorem dX6_canReverse_55 : decode cX6_canReverse 55 = .ok (.getfield 23, 3) := by decide +kernel
theorem dX6_canReverse_58 : decode cX6_canReverse 58 = .ok (.iload_n 2, 1) := by decide +kernel
theorem dX6_canReverse_59 : decode cX6_canReverse 59 = .ok (.invokevirtual 109, 3) := by decide +kernel
theorem dX6_canReverse_62 : decode cX6_canReverse 62 = .ok (.ifCond .eq 39, 3) := by decide +kernel
theorem dX6_canReverse_65 : decode cX6_canReverse 65 = .ok (.iload_n 3, 1) := by decide +kernel
theorem dX6_canReverse_66 : decode cX6_canReverse 66 = .ok (.invokestatic 69, 3) := by decide +kernel
theorem dX6_canReverse_69 : decode cX6_canReverse 69 = .ok (.ifCond .eq 32, 3) := by decide +kernel
theorem dX6_canReverse_72 : decode cX6_canReverse 72 = .ok (.aload_n 0, 1) := by decide +kernel
theorem dX6_canReverse_73 : decode cX6_canReverse 73 = .ok (.getfield 16, 3) := by decide +kernel
theorem dX6_canReverse_76 : decode cX6_canReverse 76 = .ok (.getfield 79, 3) := by decide +kernel
theorem dX6_canReverse_79 : decode cX6_canReverse 79 = .ok (.iload_n 3, 1) := by decide +kernel
theorem dX6_canReverse_80 : decode cX6_canReverse 80 = .ok (.baload, 1) := by decide +kernel
theorem dX6_canReverse_81 : decode cX6_canReverse 81 = .ok (.ifCond .ne 20, 3) := by decide +kernel
theorem dX6_canReverse_84 : decode cX6_canReverse 84 = .ok (.aload_n 0, 1) := by decide +kernel
theorem dX6_canReverse_85 : decode cX6_canReverse 85 = .ok (.getfield 23, 3) := by decide +kernel
theorem dX6_canReverse_88 : decode cX6_canReverse 88 = .ok (.getfield 309, 3) := by decide +kernel
theorem dX6_canReverse_91 : decode cX6_canReverse 91 = .ok (.iload_n 2, 1) := by decide +kernel
theorem dX6_canReverse_92 : decode cX6_canReverse 92 = .ok (.iaload, 1) := by decide +kernel
theorem dX6_canReverse_93 : decode cX6_canReverse 93 = .ok (.iload_n 1, 1) := by decide +kernel
theorem dX6_canReverse_94 : decode cX6_canReverse 94 = .ok (.if_icmp .ne 7, 3) := by decide +kernel
theorem dX6_canReverse_97 : decode cX6_canReverse 97 = .ok (.iconst 1, 1) := by decide +kernel
theorem dX6_canReverse_98 : decode cX6_canReverse 98 = .ok (.goto 4, 3) := by decide +kernel
theorem dX6_canReverse_101 : decode cX6_canReverse 101 = .ok (.iconst 0, 1) := by decide +kernel
theorem dX6_canReverse_102 : decode cX6_canReverse 102 = .ok (.ireturn, 1) := by decide +kernel
theorem dX6_carryOutDueOrders_0 : decode cX6_carryOutDueOrders 0 = .ok (.iconst 0, 1) := by decide +kernel
theorem dX6_carryOutDueOrders_1 : decode cX6_carryOutDueOrders 1 = .ok (.istore_n 1, 1) := by decide +kernel
theorem dX6_carryOutDueOrders_2 : decode cX6_carryOutDueOrders 2 = .ok (.iconst 0, 1) := by decide +kernel
theorem dX6_carryOutDueOrders_3 : decode cX6_carryOutDueOrders 3 = .ok (.istore_n 2, 1) := by decide +kernel
theorem dX6_carryOutDueOrders_4 : decode cX6_carryOutDueOrders 4 = .ok (.iload_n 2, 1) := by decide +kernel
theorem dX6_carryOutDueOrders_5 : decode cX6_carryOutDueOrders 5 = .ok (.aload_n 0, 1) := by decide +kernel
theorem dX6_carryOutDueOrders_6 : decode cX6_carryOutDueOrders 6 = .ok (.getfield 30, 3) := by decide +kernel
theorem dX6_carryOutDueOrders_9 : decode cX6_carryOutDueOrders 9 = .ok (.getfield 172, 3) := by decide +kernel
theorem dX6_carryOutDueOrders_12 : decode cX6_carryOutDueOrders 12 = .ok (.if_icmp .ge 59, 3) := by decide +kernel
theorem dX6_carryOutDueOrders_15 : decode cX6_carryOutDueOrders 15 = .ok (.aload_n 0, 1) := by decide +kernel
theorem dX6_carryOutDueOrders_16 : decode cX6_carryOutDueOrders 16 = .ok (.getfield 30, 3) := by decide +kernel
theorem dX6_carryOutDueOrders_19 : decode cX6_carryOutDueOrders 19 = .ok (.getfield 187, 3) := by decide +kernel
theorem dX6_carryOutDueOrders_22 : decode cX6_carryOutDueOrders 22 = .ok (.iload_n 2, 1) := by decide +kernel
theorem dX6_carryOutDueOrders_23 : decode cX6_carryOutDueOrders 23 = .ok (.iaload, 1) := by decide +kernel
theorem dX6_carryOutDueOrders_24 : decode cX6_carryOutDueOrders 24 = .ok (.iconst 1, 1) := by decide +kernel
theorem dX6_carryOutDueOrders_25 : decode cX6_carryOutDueOrders 25 = .ok (.if_icmp .ne 40, 3) := by decide +kernel
theorem dX6_carryOutDueOrders_28 : decode cX6_carryOutDueOrders 28 = .ok (.aload_n 0, 1) := by decide +kernel
theorem dX6_carryOutDueOrders_29 : decode cX6_carryOutDueOrders 29 = .ok (.getfield 30, 3) := by decide +kernel
theorem dX6_carryOutDueOrders_32 : decode cX6_carryOutDueOrders 32 = .ok (.getfield 190, 3) := by decide +kernel
theorem dX6_carryOutDueOrders_35 : decode cX6_carryOutDueOrders 35 = .ok (.iload_n 2, 1) := by decide +kernel
theorem dX6_carryOutDueOrders_36 : decode cX6_carryOutDueOrders 36 = .ok (.iaload, 1) := by decide +kernel
theorem dX6_carryOutDueOrders_37 : decode cX6_carryOutDueOrders 37 = .ok (.aload_n 0, 1) := by decide +kernel
theorem dX6_carryOutDueOrders_38 : decode cX6_carryOutDueOrders 38 = .ok (.getfield 55, 3) := by decide +kernel
theorem dX6_carryOutDueOrders_41 : decode cX6_carryOutDueOrders 41 = .ok (.if_icmp .ne 24, 3) := by decide +kernel
theorem dX6_carryOutDueOrders_44 : decode cX6_carryOutDueOrders 44 = .ok (.aload_n 0, 1) := by decide +kernel
theorem dX6_carryOutDueOrders_45 : decode cX6_carryOutDueOrders 45 = .ok (.iload_n 2, 1) := by decide +kernel
theorem dX6_carryOutDueOrders_46 : decode cX6_carryOutDueOrders 46 = .ok (.invokevirtual 316, 3) := by decide +kernel
theorem dX6_carryOutDueOrders_49 : decode cX6_carryOutDueOrders 49 = .ok (.aload_n 0, 1) := by decide +kernel
theorem dX6_carryOutDueOrders_50 : decode cX6_carryOutDueOrders 50 = .ok (.getfield 30, 3) := by decide +kernel
theorem dX6_carryOutDueOrders_53 : decode cX6_carryOutDueOrders 53 = .ok (.getfield 187, 3) := by decide +kernel
theorem dX6_carryOutDueOrders_56 : decode cX6_carryOutDueOrders 56 = .ok (.iload_n 2, 1) := by decide +kernel
theorem dX6_carryOutDueOrders_57 : decode cX6_carryOutDueOrders 57 = .ok (.iaload, 1) := by decide +kernel
theorem dX6_carryOutDueOrders_58 : decode cX6_carryOutDueOrders 58 = .ok (.iconst 2, 1) := by decide +kernel
theorem dX6_carryOutDueOrders_59 : decode cX6_carryOutDueOrders 59 = .ok (.if_icmp .ne 6, 3) := by decide +kernel
theorem dX6_carryOutDueOrders_62 : decode cX6_carryOutDueOrders 62 = .ok (.iinc 1 1, 3) := by decide +kernel
theorem dX6_carryOutDueOrders_65 : decode cX6_carryOutDueOrders 65 = .ok (.iinc 2 1, 3) := by decide +kernel
theorem dX6_carryOutDueOrders_68 : decode cX6_carryOutDueOrders 68 = .ok (.goto (-64), 3) := by decide +kernel
theorem dX6_carryOutDueOrders_71 : decode cX6_carryOutDueOrders 71 = .ok (.iload_n 1, 1) := by decide +kernel
theorem dX6_carryOutDueOrders_72 : decode cX6_carryOutDueOrders 72 = .ok (.ireturn, 1) := by decide +kernel
theorem dX6_carryOut_0 : decode cX6_carryOut 0 = .ok (.aload_n 0, 1) := by decide +kernel
theorem dX6_carryOut_1 : decode cX6_carryOut 1 = .ok (.getfield 30, 3) := by decide +kernel
theorem dX6_carryOut_4 : decode cX6_carryOut 4 = .ok (.getfield 207, 3) := by decide +kernel
theorem dX6_carryOut_7 : decode cX6_carryOut 7 = .ok (.iload_n 1, 1) := by decide +kernel
theorem dX6_carryOut_8 : decode cX6_carryOut 8 = .ok (.iaload, 1) := by decide +kernel
theorem dX6_carryOut_9 : decode cX6_carryOut 9 = .ok (.istore_n 2, 1) := by decide +kernel
theorem dX6_carryOut_10 : decode cX6_carryOut 10 = .ok (.aload_n 0, 1) := by decide +kernel
theorem dX6_carryOut_11 : decode cX6_carryOut 11 = .ok (.getfield 30, 3) := by decide +kernel
theorem dX6_carryOut_14 : decode cX6_carryOut 14 = .ok (.getfield 213, 3) := by decide +kernel
theorem dX6_carryOut_17 : decode cX6_carryOut 17 = .ok (.iload_n 1, 1) := by decide +kernel
theorem dX6_carryOut_18 : decode cX6_carryOut 18 = .ok (.iaload, 1) := by decide +kernel
theorem dX6_carryOut_19 : decode cX6_carryOut 19 = .ok (.istore_n 3, 1) := by decide +kernel
theorem dX6_carryOut_20 : decode cX6_carryOut 20 = .ok (.aload_n 0, 1) := by decide +kernel
theorem dX6_carryOut_21 : decode cX6_carryOut 21 = .ok (.getfield 23, 3) := by decide +kernel
theorem dX6_carryOut_24 : decode cX6_carryOut 24 = .ok (.iload_n 2, 1) := by decide +kernel
theorem dX6_carryOut_25 : decode cX6_carryOut 25 = .ok (.aload_n 0, 1) := by decide +kernel
theorem dX6_carryOut_26 : decode cX6_carryOut 26 = .ok (.getfield 55, 3) := by decide +kernel
theorem dX6_carryOut_29 : decode cX6_carryOut 29 = .ok (.invokevirtual 256, 3) := by decide +kernel
theorem dX6_carryOut_32 : decode cX6_carryOut 32 = .ok (.ifCond .eq 14, 3) := by decide +kernel
theorem dX6_carryOut_35 : decode cX6_carryOut 35 = .ok (.aload_n 0, 1) := by decide +kernel
theorem dX6_carryOut_36 : decode cX6_carryOut 36 = .ok (.getfield 30, 3) := by decide +kernel
theorem dX6_carryOut_39 : decode cX6_carryOut 39 = .ok (.iload_n 1, 1) := by decide +kernel
theorem dX6_carryOut_40 : decode cX6_carryOut 40 = .ok (.invokevirtual 319, 3) := by decide +kernel
theorem dX6_carryOut_43 : decode cX6_carryOut 43 = .ok (.goto 88, 3) := by decide +kernel
theorem dX6_carryOut_46 : decode cX6_carryOut 46 = .ok (.aload_n 0, 1) := by decide +kernel
theorem dX6_carryOut_47 : decode cX6_carryOut 47 = .ok (.getfield 23, 3) := by decide +kernel
theorem dX6_carryOut_50 : decode cX6_carryOut 50 = .ok (.getfield 129, 3) := by decide +kernel
theorem dX6_carryOut_53 : decode cX6_carryOut 53 = .ok (.iload_n 2, 1) := by decide +kernel
theorem dX6_carryOut_54 : decode cX6_carryOut 54 = .ok (.iaload, 1) := by decide +kernel
theorem dX6_carryOut_55 : decode cX6_carryOut 55 = .ok (.iload_n 3, 1) := by decide +kernel
theorem dX6_carryOut_56 : decode cX6_carryOut 56 = .ok (.if_icmp .ne 16, 3) := by decide +kernel
theorem dX6_carryOut_59 : decode cX6_carryOut 59 = .ok (.aload_n 0, 1) := by decide +kernel
theorem dX6_carryOut_60 : decode cX6_carryOut 60 = .ok (.getfield 30, 3) := by decide +kernel
theorem dX6_carryOut_63 : decode cX6_carryOut 63 = .ok (.getfield 187, 3) := by decide +kernel
theorem dX6_carryOut_66 : decode cX6_carryOut 66 = .ok (.iload_n 1, 1) := by decide +kernel
theorem dX6_carryOut_67 : decode cX6_carryOut 67 = .ok (.iconst 3, 1) := by decide +kernel
theorem dX6_carryOut_68 : decode cX6_carryOut 68 = .ok (.iastore, 1) := by decide +kernel
theorem dX6_carryOut_69 : decode cX6_carryOut 69 = .ok (.goto 62, 3) := by decide +kernel
theorem dX6_carryOut_72 : decode cX6_carryOut 72 = .ok (.aload_n 0, 1) := by decide +kernel
theorem dX6_carryOut_73 : decode cX6_carryOut 73 = .ok (.getfield 23, 3) := by decide +kernel
theorem dX6_carryOut_76 : decode cX6_carryOut 76 = .ok (.getfield 129, 3) := by decide +kernel
theorem dX6_carryOut_79 : decode cX6_carryOut 79 = .ok (.iload_n 2, 1) := by decide +kernel
theorem dX6_carryOut_80 : decode cX6_carryOut 80 = .ok (.iaload, 1) := by decide +kernel
theorem dX6_carryOut_81 : decode cX6_carryOut 81 = .ok (.istore 4, 2) := by decide +kernel
theorem dX6_carryOut_83 : decode cX6_carryOut 83 = .ok (.aload_n 0, 1) := by decide +kernel
theorem dX6_carryOut_84 : decode cX6_carryOut 84 = .ok (.getfield 30, 3) := by decide +kernel
theorem dX6_carryOut_87 : decode cX6_carryOut 87 = .ok (.getfield 187, 3) := by decide +kernel
theorem dX6_carryOut_90 : decode cX6_carryOut 90 = .ok (.iload_n 1, 1) := by decide +kernel
theorem dX6_carryOut_91 : decode cX6_carryOut 91 = .ok (.iconst 2, 1) := by decide +kernel
theorem dX6_carryOut_92 : decode cX6_carryOut 92 = .ok (.iastore, 1) := by decide +kernel
theorem dX6_carryOut_93 : decode cX6_carryOut 93 = .ok (.aload_n 0, 1) := by decide +kernel
theorem dX6_carryOut_94 : decode cX6_carryOut 94 = .ok (.getfield 30, 3) := by decide +kernel
theorem dX6_carryOut_97 : decode cX6_carryOut 97 = .ok (.getfield 204, 3) := by decide +kernel
theorem dX6_carryOut_100 : decode cX6_carryOut 100 = .ok (.iload_n 1, 1) := by decide +kernel
theorem dX6_carryOut_101 : decode cX6_carryOut 101 = .ok (.iload 4, 2) := by decide +kernel
theorem dX6_carryOut_103 : decode cX6_carryOut 103 = .ok (.iastore, 1) := by decide +kernel
theorem dX6_carryOut_104 : decode cX6_carryOut 104 = .ok (.aload_n 0, 1) := by decide +kernel
theorem dX6_carryOut_105 : decode cX6_carryOut 105 = .ok (.iload_n 2, 1) := by decide +kernel
theorem dX6_carryOut_106 : decode cX6_carryOut 106 = .ok (.iload_n 3, 1) := by decide +kernel
theorem dX6_carryOut_107 : decode cX6_carryOut 107 = .ok (.invokevirtual 210, 3) := by decide +kernel
theorem dX6_carryOut_110 : decode cX6_carryOut 110 = .ok (.aload_n 0, 1) := by decide +kernel
theorem dX6_carryOut_111 : decode cX6_carryOut 111 = .ok (.getfield 23, 3) := by decide +kernel
theorem dX6_carryOut_114 : decode cX6_carryOut 114 = .ok (.getfield 309, 3) := by decide +kernel
theorem dX6_carryOut_117 : decode cX6_carryOut 117 = .ok (.iload_n 2, 1) := by decide +kernel
theorem dX6_carryOut_118 : decode cX6_carryOut 118 = .ok (.iload_n 1, 1) := by decide +kernel
theorem dX6_carryOut_119 : decode cX6_carryOut 119 = .ok (.iastore, 1) := by decide +kernel
theorem dX6_carryOut_120 : decode cX6_carryOut 120 = .ok (.aload_n 0, 1) := by decide +kernel
theorem dX6_carryOut_121 : decode cX6_carryOut 121 = .ok (.getfield 16, 3) := by decide +kernel
theorem dX6_carryOut_124 : decode cX6_carryOut 124 = .ok (.iload_n 3, 1) := by decide +kernel
theorem dX6_carryOut_125 : decode cX6_carryOut 125 = .ok (.iload 4, 2) := by decide +kernel
theorem dX6_carryOut_127 : decode cX6_carryOut 127 = .ok (.iconst 5, 1) := by decide +kernel
theorem dX6_carryOut_128 : decode cX6_carryOut 128 = .ok (.invokevirtual 216, 3) := by decide +kernel
theorem dX6_carryOut_131 : decode cX6_carryOut 131 = .ok (.return_, 1) := by decide +kernel
theorem dX6_moveTo_0 : decode cX6_moveTo 0 = .ok (.aload_n 0, 1) := by decide +kernel
theorem dX6_moveTo_1 : decode cX6_moveTo 1 = .ok (.getfield 23, 3) := by decide +kernel
theorem dX6_moveTo_4 : decode cX6_moveTo 4 = .ok (.getfield 129, 3) := by decide +kernel
theorem dX6_moveTo_7 : decode cX6_moveTo 7 = .ok (.iload_n 1, 1) := by decide +kernel
theorem dX6_moveTo_8 : decode cX6_moveTo 8 = .ok (.iload_n 2, 1) := by decide +kernel
theorem dX6_moveTo_9 : decode cX6_moveTo 9 = .ok (.iastore, 1) := by decide +kernel
theorem dX6_moveTo_10 : decode cX6_moveTo 10 = .ok (.aload_n 0, 1) := by decide +kernel
theorem dX6_moveTo_11 : decode cX6_moveTo 11 = .ok (.getfield 44, 3) := by decide +kernel
theorem dX6_moveTo_14 : decode cX6_moveTo 14 = .ok (.iload_n 1, 1) := by decide +kernel
theorem dX6_moveTo_15 : decode cX6_moveTo 15 = .ok (.iload_n 2, 1) := by decide +kernel
theorem dX6_moveTo_16 : decode cX6_moveTo 16 = .ok (.invokevirtual 122, 3) := by decide +kernel
theorem dX6_moveTo_19 : decode cX6_moveTo 19 = .ok (.aload_n 0, 1) := by decide +kernel
theorem dX6_moveTo_20 : decode cX6_moveTo 20 = .ok (.getfield 37, 3) := by decide +kernel
theorem dX6_moveTo_23 : decode cX6_moveTo 23 = .ok (.aload_n 0, 1) := by decide +kernel
theorem dX6_moveTo_24 : decode cX6_moveTo 24 = .ok (.getfield 55, 3) := by decide +kernel
theorem dX6_moveTo_27 : decode cX6_moveTo 27 = .ok (.iload_n 1, 1) := by decide +kernel
theorem dX6_moveTo_28 : decode cX6_moveTo 28 = .ok (.iload_n 2, 1) := by decide +kernel
theorem dX6_moveTo_29 : decode cX6_moveTo 29 = .ok (.aload_n 0, 1) := by decide +kernel
theorem dX6_moveTo_30 : decode cX6_moveTo 30 = .ok (.iload_n 1, 1) := by decide +kernel
theorem dX6_moveTo_31 : decode cX6_moveTo 31 = .ok (.invokevirtual 106, 3) := by decide +kernel
theorem dX6_moveTo_34 : decode cX6_moveTo 34 = .ok (.if_icmp .ne 8, 3) := by decide +kernel
theorem dX6_moveTo_37 : decode cX6_moveTo 37 = .ok (.bipush 6, 2) := by decide +kernel
theorem dX6_moveTo_39 : decode cX6_moveTo 39 = .ok (.goto 4, 3) := by decide +kernel
theorem dX6_moveTo_42 : decode cX6_moveTo 42 = .ok (.iload_n 2, 1) := by decide +kernel
theorem dX6_moveTo_43 : decode cX6_moveTo 43 = .ok (.invokevirtual 138, 3) := by decide +kernel
theorem dX6_moveTo_46 : decode cX6_moveTo 46 = .ok (.return_, 1) := by decide +kernel
theorem dX6_learnInTime_0 : decode cX6_learnInTime 0 = .ok (.iconst 0, 1) := by decide +kernel
theorem dX6_learnInTime_1 : decode cX6_learnInTime 1 = .ok (.istore_n 1, 1) := by decide +kernel
theorem dX6_learnInTime_2 : decode cX6_learnInTime 2 = .ok (.iload_n 1, 1) := by decide +kernel
theorem dX6_learnInTime_3 : decode cX6_learnInTime 3 = .ok (.bipush 6, 2) := by decide +kernel
theorem dX6_learnInTime_5 : decode cX6_learnInTime 5 = .ok (.if_icmp .ge 43, 3) := by decide +kernel
theorem dX6_learnInTime_8 : decode cX6_learnInTime 8 = .ok (.aload_n 0, 1) := by decide +kernel
theorem dX6_learnInTime_9 : decode cX6_learnInTime 9 = .ok (.getfield 16, 3) := by decide +kernel
theorem dX6_learnInTime_12 : decode cX6_learnInTime 12 = .ok (.getfield 234, 3) := by decide +kernel
theorem dX6_learnInTime_15 : decode cX6_learnInTime 15 = .ok (.iload_n 1, 1) := by decide +kernel
theorem dX6_learnInTime_16 : decode cX6_learnInTime 16 = .ok (.baload, 1) := by decide +kernel
theorem dX6_learnInTime_17 : decode cX6_learnInTime 17 = .ok (.ifCond .ne 25, 3) := by decide +kernel
theorem dX6_learnInTime_20 : decode cX6_learnInTime 20 = .ok (.aload_n 0, 1) := by decide +kernel
theorem dX6_learnInTime_21 : decode cX6_learnInTime 21 = .ok (.getfield 37, 3) := by decide +kernel
theorem dX6_learnInTime_24 : decode cX6_learnInTime 24 = .ok (.iload_n 1, 1) := by decide +kernel
theorem dX6_learnInTime_25 : decode cX6_learnInTime 25 = .ok (.aload_n 0, 1) := by decide +kernel
theorem dX6_learnInTime_26 : decode cX6_learnInTime 26 = .ok (.getfield 55, 3) := by decide +kernel
theorem dX6_learnInTime_29 : decode cX6_learnInTime 29 = .ok (.aload_n 0, 1) := by decide +kernel
theorem dX6_learnInTime_30 : decode cX6_learnInTime 30 = .ok (.getfield 16, 3) := by decide +kernel
theorem dX6_learnInTime_33 : decode cX6_learnInTime 33 = .ok (.getfield 231, 3) := by decide +kernel
theorem dX6_learnInTime_36 : decode cX6_learnInTime 36 = .ok (.iload_n 1, 1) := by decide +kernel
theorem dX6_learnInTime_37 : decode cX6_learnInTime 37 = .ok (.iaload, 1) := by decide +kernel
theorem dX6_learnInTime_38 : decode cX6_learnInTime 38 = .ok (.isub, 1) := by decide +kernel
theorem dX6_learnInTime_39 : decode cX6_learnInTime 39 = .ok (.invokevirtual 322, 3) := by decide +kernel
theorem dX6_learnInTime_42 : decode cX6_learnInTime 42 = .ok (.iinc 1 1, 3) := by decide +kernel
theorem dX6_learnInTime_45 : decode cX6_learnInTime 45 = .ok (.goto (-43), 3) := by decide +kernel
theorem dX6_learnInTime_48 : decode cX6_learnInTime 48 = .ok (.return_, 1) := by decide +kernel
theorem dX6_placeByTable_0 : decode cX6_placeByTable 0 = .ok (.aload_n 0, 1) := by decide +kernel
theorem dX6_placeByTable_1 : decode cX6_placeByTable 1 = .ok (.iload_n 2, 1) := by decide +kernel
theorem dX6_placeByTable_2 : decode cX6_placeByTable 2 = .ok (.invokevirtual 106, 3) := by decide +kernel
theorem dX6_placeByTable_5 : decode cX6_placeByTable 5 = .ok (.istore_n 3, 1) := by decide +kernel
theorem dX6_placeByTable_6 : decode cX6_placeByTable 6 = .ok (.aload_n 0, 1) := by decide +kernel
theorem dX6_placeByTable_7 : decode cX6_placeByTable 7 = .ok (.getfield 37, 3) := by decide +kernel
theorem dX6_placeByTable_10 : decode cX6_placeByTable 10 = .ok (.getfield 325, 3) := by decide +kernel
theorem dX6_placeByTable_13 : decode cX6_placeByTable 13 = .ok (.iload_n 1, 1) := by decide +kernel
theorem dX6_placeByTable_14 : decode cX6_placeByTable 14 = .ok (.aaload, 1) := by decide +kernel
theorem dX6_placeByTable_15 : decode cX6_placeByTable 15 = .ok (.iload_n 2, 1) := by decide +kernel
theorem dX6_placeByTable_16 : decode cX6_placeByTable 16 = .ok (.iaload, 1) := by decide +kernel
theorem dX6_placeByTable_17 : decode cX6_placeByTable 17 = .ok (.istore 4, 2) := by decide +kernel
theorem dX6_placeByTable_19 : decode cX6_placeByTable 19 = .ok (.iload_n 3, 1) := by decide +kernel
theorem dX6_placeByTable_20 : decode cX6_placeByTable 20 = .ok (.iconst (-1), 1) := by decide +kernel
theorem dX6_placeByTable_21 : decode cX6_placeByTable 21 = .ok (.if_icmp .eq 10, 3) := by decide +kernel
theorem dX6_placeByTable_24 : decode cX6_placeByTable 24 = .ok (.iload 4, 2) := by decide +kernel
theorem dX6_placeByTable_26 : decode cX6_placeByTable 26 = .ok (.bipush 6, 2) := by decide +kernel
theorem dX6_placeByTable_28 : decode cX6_placeByTable 28 = .ok (.if_icmp .ne 7, 3) := by decide +kernel
theorem dX6_placeByTable_31 : decode cX6_placeByTable 31 = .ok (.iload_n 3, 1) := by decide +kernel
theorem dX6_placeByTable_32 : decode cX6_placeByTable 32 = .ok (.goto 5, 3) := by decide +kernel
theorem dX6_placeByTable_35 : decode cX6_placeByTable 35 = .ok (.iload 4, 2) := by decide +kernel
theorem dX6_placeByTable_37 : decode cX6_placeByTable 37 = .ok (.ireturn, 1) := by decide +kernel
theorem dX6_traceCall_0 : decode cX6_traceCall 0 = .ok (.aload_n 0, 1) := by decide +kernel
theorem dX6_traceCall_1 : decode cX6_traceCall 1 = .ok (.getfield 51, 3) := by decide +kernel
theorem dX6_traceCall_4 : decode cX6_traceCall 4 = .ok (.iload_n 1, 1) := by decide +kernel
theorem dX6_traceCall_5 : decode cX6_traceCall 5 = .ok (.invokevirtual 329, 3) := by decide +kernel
theorem dX6_traceCall_8 : decode cX6_traceCall 8 = .ok (.aload_n 0, 1) := by decide +kernel
theorem dX6_traceCall_9 : decode cX6_traceCall 9 = .ok (.iload_n 2, 1) := by decide +kernel
theorem dX6_traceCall_10 : decode cX6_traceCall 10 = .ok (.invokevirtual 106, 3) := by decide +kernel
theorem dX6_traceCall_13 : decode cX6_traceCall 13 = .ok (.istore 4, 2) := by decide +kernel
theorem dX6_traceCall_15 : decode cX6_traceCall 15 = .ok (.iload 4, 2) := by decide +kernel
theorem dX6_traceCall_17 : decode cX6_traceCall 17 = .ok (.iconst (-1), 1) := by decide +kernel
theorem dX6_traceCall_18 : decode cX6_traceCall 18 = .ok (.if_icmp .ne 5, 3) := by decide +kernel
theorem dX6_traceCall_21 : decode cX6_traceCall 21 = .ok (.iconst 1, 1) := by decide +kernel
theorem dX6_traceCall_22 : decode cX6_traceCall 22 = .ok (.ireturn, 1) := by decide +kernel
theorem dX6_traceCall_23 : decode cX6_traceCall 23 = .ok (.aload_n 0, 1) := by decide +kernel
theorem dX6_traceCall_24 : decode cX6_traceCall 24 = .ok (.getfield 23, 3) := by decide +kernel
theorem dX6_traceCall_27 : decode cX6_traceCall 27 = .ok (.iload_n 2, 1) := by decide +kernel
theorem dX6_traceCall_28 : decode cX6_traceCall 28 = .ok (.invokevirtual 109, 3) := by decide +kernel
theorem dX6_traceCall_31 : decode cX6_traceCall 31 = .ok (.ifCond .ne 20, 3) := by decide +kernel
theorem dX6_traceCall_34 : decode cX6_traceCall 34 = .ok (.iload 4, 2) := by decide +kernel
theorem dX6_traceCall_36 : decode cX6_traceCall 36 = .ok (.iload_n 1, 1) := by decide +kernel
theorem dX6_traceCall_37 : decode cX6_traceCall 37 = .ok (.if_icmp .eq 12, 3) := by decide +kernel
theorem dX6_traceCall_40 : decode cX6_traceCall 40 = .ok (.aload_n 0, 1) := by decide +kernel
theorem dX6_traceCall_41 : decode cX6_traceCall 41 = .ok (.getfield 51, 3) := by decide +kernel
theorem dX6_traceCall_44 : decode cX6_traceCall 44 = .ok (.iload 4, 2) := by decide +kernel
theorem dX6_traceCall_46 : decode cX6_traceCall 46 = .ok (.invokevirtual 331, 3) := by decide +kernel
theorem dX6_traceCall_49 : decode cX6_traceCall 49 = .ok (.iconst 2, 1) := by decide +kernel
theorem dX6_traceCall_50 : decode cX6_traceCall 50 = .ok (.ireturn, 1) := by decide +kernel
theorem dX6_traceCall_51 : decode cX6_traceCall 51 = .ok (.aload_n 0, 1) := by decide +kernel
theorem dX6_traceCall_52 : decode cX6_traceCall 52 = .ok (.iload_n 2, 1) := by decide +kernel
theorem dX6_traceCall_53 : decode cX6_traceCall 53 = .ok (.iload_n 3, 1) := by decide +kernel
theorem dX6_traceCall_54 : decode cX6_traceCall 54 = .ok (.iload 4, 2) := by decide +kernel
theorem dX6_traceCall_56 : decode cX6_traceCall 56 = .ok (.invokevirtual 333, 3) := by decide +kernel
theorem dX6_traceCall_59 : decode cX6_traceCall 59 = .ok (.ireturn, 1) := by decide +kernel
theorem dX6_followTables_0 : decode cX6_followTables 0 = .ok (.iconst 1, 1) := by decide +kernel
theorem dX6_followTables_1 : decode cX6_followTables 1 = .ok (.istore 4, 2) := by decide +kernel
theorem dX6_followTables_3 : decode cX6_followTables 3 = .ok (.iload 4, 2) := by decide +kernel
theorem dX6_followTables_5 : decode cX6_followTables 5 = .ok (.bipush 6, 2) := by decide +kernel
theorem dX6_followTables_7 : decode cX6_followTables 7 = .ok (.if_icmp .gt 189, 3) := by decide +kernel
theorem dX6_followTables_10 : decode cX6_followTables 10 = .ok (.aload_n 0, 1) := by decide +kernel
theorem dX6_followTables_11 : decode cX6_followTables 11 = .ok (.getfield 51, 3) := by decide +kernel
theorem dX6_followTables_14 : decode cX6_followTables 14 = .ok (.iload 4, 2) := by decide +kernel
theorem dX6_followTables_16 : decode cX6_followTables 16 = .ok (.iconst 1, 1) := by decide +kernel
theorem dX6_followTables_17 : decode cX6_followTables 17 = .ok (.isub, 1) := by decide +kernel
theorem dX6_followTables_18 : decode cX6_followTables 18 = .ok (.invokevirtual 289, 3) := by decide +kernel
theorem dX6_followTables_21 : decode cX6_followTables 21 = .ok (.istore 5, 2) := by decide +kernel
theorem dX6_followTables_23 : decode cX6_followTables 23 = .ok (.iload 5, 2) := by decide +kernel
theorem dX6_followTables_25 : decode cX6_followTables 25 = .ok (.aload_n 0, 1) := by decide +kernel
theorem dX6_followTables_26 : decode cX6_followTables 26 = .ok (.getfield 23, 3) := by decide +kernel
theorem dX6_followTables_29 : decode cX6_followTables 29 = .ok (.getfield 129, 3) := by decide +kernel
theorem dX6_followTables_32 : decode cX6_followTables 32 = .ok (.iload_n 1, 1) := by decide +kernel
theorem dX6_followTables_33 : decode cX6_followTables 33 = .ok (.iaload, 1) := by decide +kernel
theorem dX6_followTables_34 : decode cX6_followTables 34 = .ok (.if_icmp .ne 5, 3) := by decide +kernel
theorem dX6_followTables_37 : decode cX6_followTables 37 = .ok (.iconst 0, 1) := by decide +kernel
theorem dX6_followTables_38 : decode cX6_followTables 38 = .ok (.ireturn, 1) := by decide +kernel
theorem dX6_followTables_39 : decode cX6_followTables 39 = .ok (.iload 5, 2) := by decide +kernel
theorem dX6_followTables_41 : decode cX6_followTables 41 = .ok (.invokestatic 69, 3) := by decide +kernel
theorem dX6_followTables_44 : decode cX6_followTables 44 = .ok (.ifCond .eq 16, 3) := by decide +kernel
theorem dX6_followTables_47 : decode cX6_followTables 47 = .ok (.aload_n 0, 1) := by decide +kernel
theorem dX6_followTables_48 : decode cX6_followTables 48 = .ok (.getfield 16, 3) := by decide +kernel
theorem dX6_followTables_51 : decode cX6_followTables 51 = .ok (.getfield 79, 3) := by decide +kernel
theorem dX6_followTables_54 : decode cX6_followTables 54 = .ok (.iload 5, 2) := by decide +kernel
theorem dX6_followTables_56 : decode cX6_followTables 56 = .ok (.baload, 1) := by decide +kernel
theorem dX6_followTables_57 : decode cX6_followTables 57 = .ok (.ifCond .eq 5, 3) := by decide +kernel
theorem dX6_followTables_60 : decode cX6_followTables 60 = .ok (.iconst 4, 1) := by decide +kernel
theorem dX6_followTables_61 : decode cX6_followTables 61 = .ok (.ireturn, 1) := by decide +kernel
theorem dX6_followTables_62 : decode cX6_followTables 62 = .ok (.iload_n 2, 1) := by decide +kernel
theorem dX6_followTables_63 : decode cX6_followTables 63 = .ok (.iconst 2, 1) := by decide +kernel
theorem dX6_followTables_64 : decode cX6_followTables 64 = .ok (.if_icmp .ne 19, 3) := by decide +kernel
theorem dX6_followTables_67 : decode cX6_followTables 67 = .ok (.iload 4, 2) := by decide +kernel
theorem dX6_followTables_69 : decode cX6_followTables 69 = .ok (.iconst 2, 1) := by decide +kernel
theorem dX6_followTables_70 : decode cX6_followTables 70 = .ok (.if_icmp .ne 13, 3) := by decide +kernel
theorem dX6_followTables_73 : decode cX6_followTables 73 = .ok (.iload 5, 2) := by decide +kernel
theorem dX6_followTables_75 : decode cX6_followTables 75 = .ok (.iload_n 3, 1) := by decide +kernel
theorem dX6_followTables_76 : decode cX6_followTables 76 = .ok (.if_icmp .ne 7, 3) := by decide +kernel
theorem dX6_followTables_79 : decode cX6_followTables 79 = .ok (.iconst 1, 1) := by decide +kernel
theorem dX6_followTables_80 : decode cX6_followTables 80 = .ok (.goto 4, 3) := by decide +kernel
theorem dX6_followTables_83 : decode cX6_followTables 83 = .ok (.iconst 0, 1) := by decide +kernel
theorem dX6_followTables_84 : decode cX6_followTables 84 = .ok (.istore 6, 2) := by decide +kernel
theorem dX6_followTables_86 : decode cX6_followTables 86 = .ok (.iload 6, 2) := by decide +kernel
theorem dX6_followTables_88 : decode cX6_followTables 88 = .ok (.ifCond .eq 14, 3) := by decide +kernel
theorem dX6_followTables_91 : decode cX6_followTables 91 = .ok (.aload_n 0, 1) := by decide +kernel
theorem dX6_followTables_92 : decode cX6_followTables 92 = .ok (.getfield 51, 3) := by decide +kernel
theorem dX6_followTables_95 : decode cX6_followTables 95 = .ok (.iconst 0, 1) := by decide +kernel
theorem dX6_followTables_96 : decode cX6_followTables 96 = .ok (.invokevirtual 289, 3) := by decide +kernel
theorem dX6_followTables_99 : decode cX6_followTables 99 = .ok (.goto 5, 3) := by decide +kernel
theorem dX6_followTables_102 : decode cX6_followTables 102 = .ok (.iload 5, 2) := by decide +kernel
theorem dX6_followTables_104 : decode cX6_followTables 104 = .ok (.istore 7, 2) := by decide +kernel
theorem dX6_followTables_106 : decode cX6_followTables 106 = .ok (.iload_n 2, 1) := by decide +kernel
theorem dX6_followTables_107 : decode cX6_followTables 107 = .ok (.ifCond .eq 19, 3) := by decide +kernel
theorem dX6_followTables_110 : decode cX6_followTables 110 = .ok (.iload 4, 2) := by decide +kernel
theorem dX6_followTables_112 : decode cX6_followTables 112 = .ok (.iconst 1, 1) := by decide +kernel
theorem dX6_followTables_113 : decode cX6_followTables 113 = .ok (.if_icmp .ne 13, 3) := by decide +kernel
theorem dX6_followTables_116 : decode cX6_followTables 116 = .ok (.iload 5, 2) := by decide +kernel
theorem dX6_followTables_118 : decode cX6_followTables 118 = .ok (.iload_n 3, 1) := by decide +kernel
theorem dX6_followTables_119 : decode cX6_followTables 119 = .ok (.if_icmp .eq 7, 3) := by decide +kernel
theorem dX6_followTables_122 : decode cX6_followTables 122 = .ok (.iconst 1, 1) := by decide +kernel
theorem dX6_followTables_123 : decode cX6_followTables 123 = .ok (.goto 4, 3) := by decide +kernel
theorem dX6_followTables_126 : decode cX6_followTables 126 = .ok (.iconst 0, 1) := by decide +kernel
theorem dX6_followTables_127 : decode cX6_followTables 127 = .ok (.istore 8, 2) := by decide +kernel
theorem dX6_followTables_129 : decode cX6_followTables 129 = .ok (.iload 8, 2) := by decide +kernel
theorem dX6_followTables_131 : decode cX6_followTables 131 = .ok (.ifCond .eq 7, 3) := by decide +kernel
theorem dX6_followTables_134 : decode cX6_followTables 134 = .ok (.iload_n 3, 1) := by decide +kernel
theorem dX6_followTables_135 : decode cX6_followTables 135 = .ok (.goto 10, 3) := by decide +kernel
theorem dX6_followTables_138 : decode cX6_followTables 138 = .ok (.aload_n 0, 1) := by decide +kernel
theorem dX6_followTables_139 : decode cX6_followTables 139 = .ok (.iload 7, 2) := by decide +kernel
theorem dX6_followTables_141 : decode cX6_followTables 141 = .ok (.iload_n 1, 1) := by decide +kernel
theorem dX6_followTables_142 : decode cX6_followTables 142 = .ok (.invokevirtual 277, 3) := by decide +kernel
theorem dX6_followTables_145 : decode cX6_followTables 145 = .ok (.istore 9, 2) := by decide +kernel
theorem dX6_followTables_147 : decode cX6_followTables 147 = .ok (.iload 9, 2) := by decide +kernel
theorem dX6_followTables_149 : decode cX6_followTables 149 = .ok (.iload 5, 2) := by decide +kernel
theorem dX6_followTables_151 : decode cX6_followTables 151 = .ok (.if_icmp .eq 10, 3) := by decide +kernel
theorem dX6_followTables_154 : decode cX6_followTables 154 = .ok (.iload 9, 2) := by decide +kernel
theorem dX6_followTables_156 : decode cX6_followTables 156 = .ok (.iload 7, 2) := by decide +kernel
theorem dX6_followTables_158 : decode cX6_followTables 158 = .ok (.if_icmp .ne 5, 3) := by decide +kernel
theorem dX6_followTables_161 : decode cX6_followTables 161 = .ok (.iconst 4, 1) := by decide +kernel
theorem dX6_followTables_162 : decode cX6_followTables 162 = .ok (.ireturn, 1) := by decide +kernel
theorem dX6_followTables_163 : decode cX6_followTables 163 = .ok (.aload_n 0, 1) := by decide +kernel
theorem dX6_followTables_164 : decode cX6_followTables 164 = .ok (.getfield 51, 3) := by decide +kernel
theorem dX6_followTables_167 : decode cX6_followTables 167 = .ok (.iload 9, 2) := by decide +kernel
theorem dX6_followTables_169 : decode cX6_followTables 169 = .ok (.invokevirtual 336, 3) := by decide +kernel
theorem dX6_followTables_172 : decode cX6_followTables 172 = .ok (.istore 10, 2) := by decide +kernel
theorem dX6_followTables_174 : decode cX6_followTables 174 = .ok (.aload_n 0, 1) := by decide +kernel
theorem dX6_followTables_175 : decode cX6_followTables 175 = .ok (.getfield 51, 3) := by decide +kernel
theorem dX6_followTables_178 : decode cX6_followTables 178 = .ok (.iload 9, 2) := by decide +kernel
theorem dX6_followTables_180 : decode cX6_followTables 180 = .ok (.invokevirtual 331, 3) := by decide +kernel
theorem dX6_followTables_183 : decode cX6_followTables 183 = .ok (.iload 10, 2) := by decide +kernel
theorem dX6_followTables_185 : decode cX6_followTables 185 = .ok (.ifCond .eq 5, 3) := by decide +kernel
theorem dX6_followTables_188 : decode cX6_followTables 188 = .ok (.iconst 3, 1) := by decide +kernel
theorem dX6_followTables_189 : decode cX6_followTables 189 = .ok (.ireturn, 1) := by decide +kernel
theorem dX6_followTables_190 : decode cX6_followTables 190 = .ok (.iinc 4 1, 3) := by decide +kernel
theorem dX6_followTables_193 : decode cX6_followTables 193 = .ok (.goto (-190), 3) := by decide +kernel
theorem dX6_followTables_196 : decode cX6_followTables 196 = .ok (.iconst 3, 1) := by decide +kernel
theorem dX6_followTables_197 : decode cX6_followTables 197 = .ok (.ireturn, 1) := by decide +kernel
theorem dX6_payForCall_0 : decode cX6_payForCall 0 = .ok (.aload_n 0, 1) := by decide +kernel
theorem dX6_payForCall_1 : decode cX6_payForCall 1 = .ok (.getfield 51, 3) := by decide +kernel
theorem dX6_payForCall_4 : decode cX6_payForCall 4 = .ok (.iconst 0, 1) := by decide +kernel
theorem dX6_payForCall_5 : decode cX6_payForCall 5 = .ok (.invokevirtual 289, 3) := by decide +kernel
theorem dX6_payForCall_8 : decode cX6_payForCall 8 = .ok (.istore_n 1, 1) := by decide +kernel
theorem dX6_payForCall_9 : decode cX6_payForCall 9 = .ok (.aload_n 0, 1) := by decide +kernel
theorem dX6_payForCall_10 : decode cX6_payForCall 10 = .ok (.getfield 51, 3) := by decide +kernel
theorem dX6_payForCall_13 : decode cX6_payForCall 13 = .ok (.getfield 339, 3) := by decide +kernel
theorem dX6_payForCall_16 : decode cX6_payForCall 16 = .ok (.iconst 1, 1) := by decide +kernel
theorem dX6_payForCall_17 : decode cX6_payForCall 17 = .ok (.isub, 1) := by decide +kernel
theorem dX6_payForCall_18 : decode cX6_payForCall 18 = .ok (.istore_n 2, 1) := by decide +kernel
theorem dX6_payForCall_19 : decode cX6_payForCall 19 = .ok (.iload_n 2, 1) := by decide +kernel
theorem dX6_payForCall_20 : decode cX6_payForCall 20 = .ok (.iconst 1, 1) := by decide +kernel
theorem dX6_payForCall_21 : decode cX6_payForCall 21 = .ok (.if_icmp .ge 4, 3) := by decide +kernel
theorem dX6_payForCall_24 : decode cX6_payForCall 24 = .ok (.return_, 1) := by decide +kernel
theorem dX6_payForCall_25 : decode cX6_payForCall 25 = .ok (.aload_n 0, 1) := by decide +kernel
theorem dX6_payForCall_26 : decode cX6_payForCall 26 = .ok (.getfield 16, 3) := by decide +kernel
theorem dX6_payForCall_29 : decode cX6_payForCall 29 = .ok (.iload_n 1, 1) := by decide +kernel
theorem dX6_payForCall_30 : decode cX6_payForCall 30 = .ok (.aload_n 0, 1) := by decide +kernel
theorem dX6_payForCall_31 : decode cX6_payForCall 31 = .ok (.getfield 51, 3) := by decide +kernel
theorem dX6_payForCall_34 : decode cX6_payForCall 34 = .ok (.iload_n 2, 1) := by decide +kernel
theorem dX6_payForCall_35 : decode cX6_payForCall 35 = .ok (.invokevirtual 289, 3) := by decide +kernel
theorem dX6_payForCall_38 : decode cX6_payForCall 38 = .ok (.iconst 3, 1) := by decide +kernel
theorem dX6_payForCall_39 : decode cX6_payForCall 39 = .ok (.invokevirtual 216, 3) := by decide +kernel
theorem dX6_payForCall_42 : decode cX6_payForCall 42 = .ok (.iconst 1, 1) := by decide +kernel
theorem dX6_payForCall_43 : decode cX6_payForCall 43 = .ok (.istore_n 3, 1) := by decide +kernel
theorem dX6_payForCall_44 : decode cX6_payForCall 44 = .ok (.iload_n 3, 1) := by decide +kernel
theorem dX6_payForCall_45 : decode cX6_payForCall 45 = .ok (.iload_n 2, 1) := by decide +kernel
theorem dX6_payForCall_46 : decode cX6_payForCall 46 = .ok (.if_icmp .ge 26, 3) := by decide +kernel
theorem dX6_payForCall_49 : decode cX6_payForCall 49 = .ok (.aload_n 0, 1) := by decide +kernel
theorem dX6_payForCall_50 : decode cX6_payForCall 50 = .ok (.getfield 16, 3) := by decide +kernel
theorem dX6_payForCall_53 : decode cX6_payForCall 53 = .ok (.iload_n 1, 1) := by decide +kernel
theorem dX6_payForCall_54 : decode cX6_payForCall 54 = .ok (.aload_n 0, 1) := by decide +kernel
theorem dX6_payForCall_55 : decode cX6_payForCall 55 = .ok (.getfield 51, 3) := by decide +kernel
theorem dX6_payForCall_58 : decode cX6_payForCall 58 = .ok (.iload_n 3, 1) := by decide +kernel
theorem dX6_payForCall_59 : decode cX6_payForCall 59 = .ok (.invokevirtual 289, 3) := by decide +kernel
theorem dX6_payForCall_62 : decode cX6_payForCall 62 = .ok (.iconst 1, 1) := by decide +kernel
theorem dX6_payForCall_63 : decode cX6_payForCall 63 = .ok (.invokevirtual 216, 3) := by decide +kernel
theorem dX6_payForCall_66 : decode cX6_payForCall 66 = .ok (.iinc 3 1, 3) := by decide +kernel
theorem dX6_payForCall_69 : decode cX6_payForCall 69 = .ok (.goto (-25), 3) := by decide +kernel
theorem dX6_payForCall_72 : decode cX6_payForCall 72 = .ok (.return_, 1) := by decide +kernel
theorem dJ7_fill_53178_0 : decode cJ7_fill_53178 0 = .ok (.iconst 0, 1) := by decide +kernel
theorem dJ7_fill_53178_1 : decode cJ7_fill_53178 1 = .ok (.istore_n 2, 1) := by decide +kernel
theorem dJ7_fill_53178_2 : decode cJ7_fill_53178 2 = .ok (.aload_n 0, 1) := by decide +kernel
theorem dJ7_fill_53178_3 : decode cJ7_fill_53178 3 = .ok (.arraylength, 1) := by decide +kernel
theorem dJ7_fill_53178_4 : decode cJ7_fill_53178 4 = .ok (.istore_n 3, 1) := by decide +kernel
theorem dJ7_fill_53178_5 : decode cJ7_fill_53178 5 = .ok (.iload_n 2, 1) := by decide +kernel
theorem dJ7_fill_53178_6 : decode cJ7_fill_53178 6 = .ok (.iload_n 3, 1) := by decide +kernel
theorem dJ7_fill_53178_7 : decode cJ7_fill_53178 7 = .ok (.if_icmp .ge 13, 3) := by decide +kernel
theorem dJ7_fill_53178_10 : decode cJ7_fill_53178 10 = .ok (.aload_n 0, 1) := by decide +kernel
theorem dJ7_fill_53178_11 : decode cJ7_fill_53178 11 = .ok (.iload_n 2, 1) := by decide +kernel
theorem dJ7_fill_53178_12 : decode cJ7_fill_53178 12 = .ok (.iload_n 1, 1) := by decide +kernel
theorem dJ7_fill_53178_13 : decode cJ7_fill_53178 13 = .ok (.iastore, 1) := by decide +kernel
theorem dJ7_fill_53178_14 : decode cJ7_fill_53178 14 = .ok (.iinc 2 1, 3) := by decide +kernel
theorem dJ7_fill_53178_17 : decode cJ7_fill_53178 17 = .ok (.goto (-12), 3) := by decide +kernel
theorem dJ7_fill_53178_20 : decode cJ7_fill_53178 20 = .ok (.return_, 1) := by decide +kernel
end
section
/-! ===== FRAME: ints as Int, the world as a function of a state of ints ===== -/
/-- scalars by their number; arrays by the number of their cell and the index; the law's longs by their index -/
abbrev zS : Type := (Nat → Int) × (Nat → Int → Int) × (Int → Int)
/-- a value: an int, a reference (the number of its cell), a long -/
abbrev zV : Type := Int ⊕ (Nat ⊕ Int)
abbrev zI (z : Int) : zV := .inl z
abbrev zR (k : Nat) : zV := .inr (.inl k)
abbrev zL (z : Int) : zV := .inr (.inr z)
def z_in (z : Int) : Prop := -2147483648 ≤ z ∧ z < 2147483648
def z_inL (z : Int) : Prop := -9223372036854775808 ≤ z ∧ z < 9223372036854775808
def z_ok : zV → Prop
  | .inl z => z_in z
  | .inr (.inl _) => True
  | .inr (.inr z) => z_inL z
def z_nl : zV → Prop
  | .inr (.inr _) => False
  | _ => True
def z_tv (ad : Nat → Nat) : zV → Value
  | .inl z => .int (Int32.ofInt z)
  | .inr (.inl k) => .ref (ad k)
  | .inr (.inr z) => .long (Int64.ofInt z)
-- numbers
theorem z_bmod {z : Int} (h : z_in z) : z.bmod (2 ^ 32) = z := by
  obtain ⟨h1, h2⟩ := h
  rw [Int.bmod_eq_of_le (by omega) (by omega)]
theorem z_bmodL {z : Int} (h : z_inL z) : z.bmod (2 ^ 64) = z := by
  obtain ⟨h1, h2⟩ := h
  rw [Int.bmod_eq_of_le (by omega) (by omega)]
theorem z_toI {z : Int} (h : z_in z) : (Int32.ofInt z).toInt = z := by rw [Int32.toInt_ofInt, z_bmod h]
theorem z_toL {z : Int} (h : z_inL z) : (Int64.ofInt z).toInt = z := by rw [Int64.toInt_ofInt, z_bmodL h]
theorem z_as (x : Int32) : Int32.ofInt x.toInt = x := Int32.ofInt_toInt x
theorem z_rng (x : Int32) : z_in x.toInt := by
  have h1 := Int32.le_toInt x
  have h2 := Int32.toInt_lt x
  constructor <;> omega
theorem z_lt {x y : Int} (hx : z_in x) (hy : z_in y) : Int32.ofInt x < Int32.ofInt y ↔ x < y := by rw [Int32.lt_iff_toInt_lt, z_toI hx, z_toI hy]
theorem z_le {x y : Int} (hx : z_in x) (hy : z_in y) : Int32.ofInt x ≤ Int32.ofInt y ↔ x ≤ y := by rw [Int32.le_iff_toInt_le, z_toI hx, z_toI hy]
theorem z_eq {x y : Int} (hx : z_in x) (hy : z_in y) : Int32.ofInt x = Int32.ofInt y ↔ x = y := by rw [← Int32.toInt_inj, z_toI hx, z_toI hy]
theorem z_add {x y : Int} : Int32.ofInt x + Int32.ofInt y = Int32.ofInt (x + y) := (Int32.ofInt_add x y).symm
theorem z_sub {x y : Int} : Int32.ofInt x - Int32.ofInt y = Int32.ofInt (x - y) := (Int32.ofInt_sub x y).symm
theorem z_mul {x y : Int} : Int32.ofInt x * Int32.ofInt y = Int32.ofInt (x * y) := (Int32.ofInt_mul x y).symm
theorem z_div {x y : Int} (hx : z_in x) (hy : z_in y) (h0 : 0 ≤ x) (h1 : 0 < y) : Int32.ofInt x / Int32.ofInt y = Int32.ofInt (x / y) := by
  have hq : z_in (x / y) := by
    have a1 := Int.ediv_nonneg h0 (Int.le_of_lt h1)
    have a2 := Int.ediv_le_self y h0
    obtain ⟨b1, b2⟩ := hx
    constructor <;> omega
  apply Int32.toInt_inj.mp
  rw [Int32.toInt_div, z_toI hx, z_toI hy, z_toI hq, Int.tdiv_eq_ediv_of_nonneg h0, z_bmod hq]
theorem z_rem {x y : Int} (hx : z_in x) (hy : z_in y) (h0 : 0 ≤ x) (h1 : 0 < y) : Int32.ofInt x - Int32.ofInt x / Int32.ofInt y * Int32.ofInt y = Int32.ofInt (x % y) := by
  rw [z_div hx hy h0 h1, z_mul, z_sub]
  congr 1
  have := Int.mul_ediv_add_emod x y
  have h2 : y * (x / y) = x / y * y := Int.mul_comm _ _
  omega
theorem z_vin {x : Int} {n : Nat} (h : z_in x) (h0 : 0 ≤ x) (h1 : x < n) : vp_in (Int32.ofInt x) n := vp_in_iff.mpr (by rw [z_toI h]; exact ⟨h0, h1⟩)
theorem z_clamp {x : Int} (h : z_in x) : (Int32.ofInt x).toNatClampNeg = x.toNat := by
  show (Int32.ofInt x).toInt.toNat = _
  rw [z_toI h]
theorem z_nz {y : Int} (h : z_in y) (h0 : 0 < y) : ¬ Int32.ofInt y = 0 := fun q => by
  have h2 : Int32.ofInt y = Int32.ofInt 0 := q
  rw [z_eq h ⟨by omega, by omega⟩] at h2
  omega
theorem z_i2l {x : Int} (h : z_in x) : (Int32.ofInt x).toInt64 = Int64.ofInt x := by
  apply Int64.toInt_inj.mp
  rw [Int32.toInt_toInt64, z_toI h, z_toL ⟨by have := h.1; omega, by have := h.2; omega⟩]
/-- the objects: the class's number, and each slot: a reference to a cell, or a scalar -/
def z_obj : Nat → Option (Nat × List (Nat ⊕ Nat))
  | 0 => some (6, [.inl 8, .inl 1, .inl 2, .inl 3, .inl 4, .inl 5, .inl 6, .inr 0])
  | 1 => some (2, [.inl 9, .inl 10, .inl 11, .inl 12])
  | 2 => some (1, [.inl 13, .inl 14, .inl 15, .inl 16, .inl 17, .inl 18])
  | 3 => some (4, [.inl 19, .inl 20, .inl 21, .inl 22, .inl 23, .inl 24, .inr 1])
  | 4 => some (0, [.inl 25, .inl 26, .inl 27, .inr 2, .inl 28, .inl 29])
  | 5 => some (3, [.inl 36, .inl 37, .inl 38, .inr 3])
  | 6 => some (5, [.inl 39, .inr 4])
  | _ => none
/-- the arrays: 0 ints, 1 booleans, 2 the tables, 3 the law's longs; the length -/
def z_arr (k : Nat) : Nat × Nat := ([(0,4),(0,20),(1,6),(1,6),(0,6),(0,6),(0,200),(0,200),(0,200),(0,200),(0,200),(0,200),(0,60),(0,60),(0,60),(0,60),(0,60),(0,60),(0,600),(0,600),(0,600),(0,6),(2,6),(0,200),(0,200),(0,200),(0,200),(0,200),(0,200),(1,572),(0,572),(0,572),(0,7),
  (0,60),(0,12),(0,50),(0,50),(0,64),(0,6),(0,6),(0,3),(3,6)] : List (Nat × Nat)).getD (k - 7) (9, 0)
def z_fv (ad : Nat → Nat) (S : zS) : Nat ⊕ Nat → Value
  | .inl r => .ref (ad r)
  | .inr i => .int (Int32.ofInt (S.1 i))
def z_av (ad : Nat → Nat) (cy : Nat → ClassId) (S : zS) (k : Nat) : Nat × Nat → va_E
  | (0, n) => .inl (cy 0, n, .inl (fun j => Int32.ofInt (S.2.1 k j)))
  | (1, n) => .inl (cy 1, n, .inl (fun j => Int32.ofInt (S.2.1 k j)))
  | (2, n) => .inl (cy 2, n, .inr (.inr (.inr (.inr (fun j => if j < n then some (ad (30 + j)) else none)))))
  | (_, n) => .inl (cy 3, n, .inr (.inl (fun j => Int64.ofInt (S.2.2 j))))
def z_cell (ad : Nat → Nat) (cy : Nat → ClassId) (S : zS) (k : Nat) : va_E := match z_obj k with
  | some (ci, fl) => .inr (ci, fl.map (z_fv ad S))
  | none => z_av ad cy S k (z_arr k)
def z_wl (ad : Nat → Nat) (cy : Nat → ClassId) (S : zS) : va_W := (List.range 49).map (fun k => (ad k, z_cell ad cy S k))
theorem z_wl_get {ad : Nat → Nat} {cy : Nat → ClassId} {S : zS} {k : Nat} (h : k < 49) : (z_wl ad cy S)[k]? = some (ad k, z_cell ad cy S k) := by
  unfold z_wl
  rw [List.getElem?_map, List.getElem?_range h]
  rfl
theorem z_wl_set {ad : Nat → Nat} {cy : Nat → ClassId} {S S' : zS} {k : Nat} {e : va_E} (h : k < 49) (he : z_cell ad cy S' k = e) (ho : ∀ j, j < 49 → j ≠ k → z_cell ad cy S' j = z_cell ad cy S j) : (z_wl ad cy S).set k (ad k, e) = z_wl ad cy S' := by
  have hl : (z_wl ad cy S).length = 49 := by simp [z_wl]
  apply List.ext_getElem?
  intro j
  by_cases hj : j = k
  · subst hj
    rw [List.getElem?_set_self (by omega), z_wl_get h, he]
  · rw [List.getElem?_set_ne (Ne.symm hj)]
    by_cases h64 : j < 49
    · rw [z_wl_get h64, z_wl_get h64, ho j h64 hj]
    · rw [List.getElem?_eq_none (by omega), List.getElem?_eq_none (by simp [z_wl]; omega)]
-- writes
def z_sS (S : zS) (i : Nat) (v : Int) : zS := (fun j => if j = i then v else S.1 j, S.2)
def z_sA (S : zS) (k : Nat) (i v : Int) : zS := (S.1, fun k' j => if k' = k ∧ j = i then v else S.2.1 k' j, S.2.2)
def z_sL (S : zS) (i v : Int) : zS := (S.1, S.2.1, fun j => if j = i then v else S.2.2 j)
def z_okS (S : zS) : Prop := (∀ i, z_in (S.1 i)) ∧ (∀ k j, z_in (S.2.1 k j)) ∧ ∀ j, z_inL (S.2.2 j)
theorem z_okS_s {S : zS} {i : Nat} {v : Int} (h : z_okS S) (hv : z_in v) : z_okS (z_sS S i v) := ⟨fun j => by
  show z_in (if j = i then v else S.1 j)
  split
  · exact hv
  · exact h.1 j, h.2⟩
theorem z_okS_a {S : zS} {k : Nat} {i v : Int} (h : z_okS S) (hv : z_in v) : z_okS (z_sA S k i v) := ⟨h.1, fun k' j => by
  show z_in (if k' = k ∧ j = i then v else S.2.1 k' j)
  split
  · exact hv
  · exact h.2.1 k' j, h.2.2⟩
theorem z_okS_l {S : zS} {i v : Int} (h : z_okS S) (hv : z_inL v) : z_okS (z_sL S i v) := ⟨h.1, h.2.1, fun j => by
  show z_inL (if j = i then v else S.2.2 j)
  split
  · exact hv
  · exact h.2.2 j⟩
/-- where a scalar lies: the object, the slot -/
def z_home (i : Nat) : Nat × Nat := ([(0,7),(3,6),(4,3),(5,3),(6,1)] : List (Nat × Nat)).getD i (99, 0)
theorem z_homes : ∀ k, k < 49 → ∀ q : Nat × List (Nat ⊕ Nat), z_obj k = some q → ∀ s, s < q.2.length → ∀ i, q.2[s]? = some (.inr i) → z_home i = (k, s) := by
  intro k hk q hq s hs i hi
  have h : (List.range 8).all (fun k => (List.range 28).all (fun s => match (z_obj k).bind (fun q => q.2[s]?) with | some (.inr i) => decide (z_home i = (k, s)) | _ => true)) = true := by decide +kernel
  have hl : ∀ k, k < 8 → ((z_obj k).all (fun q => decide (q.2.length ≤ 28))) = true := by decide +kernel
  have k8 : k < 8 := by
    by_cases g : k < 8
    · exact g
    · exfalso
      have hn : z_obj k = none := by
        unfold z_obj
        split <;> first | rfl | omega
      rw [hn] at hq
      cases hq
  have l1 := hl k k8
  rw [hq] at l1
  simp at l1
  have e : ((z_obj k).bind (fun q => q.2[s]?)) = some (.inr i) := by rw [hq]; exact hi
  have h1 := List.all_eq_true.mp (List.all_eq_true.mp h k (List.mem_range.mpr k8)) s (List.mem_range.mpr (by omega))
  rw [e] at h1
  simpa using h1
theorem z_av_sS {ad : Nat → Nat} {cy : Nat → ClassId} {S : zS} {i : Nat} {v : Int} {k : Nat} {t : Nat × Nat} : z_av ad cy (z_sS S i v) k t = z_av ad cy S k t := by
  obtain ⟨a, n⟩ := t
  rcases a with _ | _ | _ | a <;> rfl
theorem z_cell_sS {ad : Nat → Nat} {cy : Nat → ClassId} {S : zS} {i : Nat} {v : Int} {k s : Nat} (hh : z_home i = (k, s)) : ∀ j, j < 49 → j ≠ k → z_cell ad cy (z_sS S i v) j = z_cell ad cy S j := by
  intro j hj hne
  unfold z_cell
  cases hq : z_obj j with
  | none => exact z_av_sS
  | some q =>
    obtain ⟨ci, fl⟩ := q
    show Sum.inr (ci, fl.map _) = Sum.inr (ci, fl.map _)
    congr 2
    apply List.map_congr_left
    intro x hx
    cases x with
    | inl r => rfl
    | inr i' =>
      obtain ⟨s', hs'⟩ := List.getElem?_of_mem hx
      have hl := (List.getElem?_eq_some_iff.mp hs').1
      have h1 := z_homes j hj _ hq s' hl i' hs'
      have hi : i' ≠ i := fun e => by
        subst e
        rw [hh] at h1
        exact hne (Prod.mk.inj h1).1.symm
      show Value.int (Int32.ofInt (if i' = i then v else S.1 i')) = Value.int (Int32.ofInt (S.1 i'))
      rw [if_neg hi]
theorem z_cell_sS_at {ad : Nat → Nat} {cy : Nat → ClassId} {S : zS} {i : Nat} {v : Int} {k s ci : Nat} {fl : List (Nat ⊕ Nat)} (hk : k < 49) (hh : z_home i = (k, s)) (ho : z_obj k = some (ci, fl)) (hf : fl[s]? = some (.inr i)) :
    z_cell ad cy (z_sS S i v) k = .inr (ci, (fl.map (z_fv ad S)).set s (.int (Int32.ofInt v))) := by
  unfold z_cell
  rw [ho]
  show Sum.inr (ci, fl.map _) = Sum.inr (ci, _)
  congr 2
  apply List.ext_getElem?
  intro j
  have hl := (List.getElem?_eq_some_iff.mp hf).1
  by_cases hj : j = s
  · subst hj
    rw [List.getElem?_set_self (by rw [List.length_map]; exact hl), List.getElem?_map, hf]
    show some (Value.int (Int32.ofInt (if i = i then v else S.1 i))) = _
    rw [if_pos rfl]
  · rw [List.getElem?_set_ne (Ne.symm hj), List.getElem?_map, List.getElem?_map]
    cases hx : fl[j]? with
    | none => rfl
    | some x =>
      cases x with
      | inl r => rfl
      | inr i' =>
        have h1 := z_homes k hk _ ho j (List.getElem?_eq_some_iff.mp hx).1 i' hx
        have hi : i' ≠ i := fun e => by
          subst e
          rw [hh] at h1
          exact hj (Prod.mk.inj h1).2.symm
        show some (Value.int (Int32.ofInt (if i' = i then v else S.1 i'))) = some (Value.int (Int32.ofInt (S.1 i')))
        rw [if_neg hi]
theorem z_cell_sA {ad : Nat → Nat} {cy : Nat → ClassId} {S : zS} {i v : Int} {k : Nat} : ∀ j, j < 49 → j ≠ k → z_cell ad cy (z_sA S k i v) j = z_cell ad cy S j := by
  intro j hj hne
  unfold z_cell
  cases hq : z_obj j with
  | some q => rfl
  | none =>
    show z_av _ _ _ _ _ = z_av _ _ _ _ _
    have e : ∀ x : Int, (z_sA S k i v).2.1 j x = S.2.1 j x := fun x => by
      show (if j = k ∧ x = i then v else S.2.1 j x) = _
      rw [if_neg (fun h => hne h.1)]
    generalize z_arr j = t
    obtain ⟨a, n⟩ := t
    rcases a with _ | _ | _ | a
    · show Sum.inl (_, _, Sum.inl _) = Sum.inl (_, _, Sum.inl _)
      congr 4
      funext x
      rw [e]
    · show Sum.inl (_, _, Sum.inl _) = Sum.inl (_, _, Sum.inl _)
      congr 4
      funext x
      rw [e]
    · rfl
    · rfl
theorem z_upd {S : zS} {k : Nat} {i v : Int} (h0 : 0 ≤ i) : (fun j : Nat => Int32.ofInt ((z_sA S k i v).2.1 k j)) = upd (fun j : Nat => Int32.ofInt (S.2.1 k j)) i.toNat (Int32.ofInt v) := by
  funext j
  show Int32.ofInt (if k = k ∧ (j : Int) = i then v else S.2.1 k j) = if j = i.toNat then Int32.ofInt v else Int32.ofInt (S.2.1 k j)
  by_cases h : (j : Int) = i
  · rw [if_pos ⟨rfl, h⟩, if_pos (by omega)]
  · rw [if_neg (fun q => h q.2), if_neg (by omega)]
theorem z_cell_sA_0 {ad : Nat → Nat} {cy : Nat → ClassId} {S : zS} {i v : Int} {k n : Nat} (ho : z_obj k = none) (ha : z_arr k = (0, n)) (h0 : 0 ≤ i) : z_cell ad cy (z_sA S k i v) k = .inl (cy 0, n, .inl (upd (fun j : Nat => Int32.ofInt (S.2.1 k j)) i.toNat (Int32.ofInt v))) := by
  unfold z_cell
  rw [ho]
  show z_av _ _ _ _ _ = _
  rw [ha]
  show Sum.inl (_, _, Sum.inl _) = _
  rw [z_upd h0]
theorem z_cell_sA_1 {ad : Nat → Nat} {cy : Nat → ClassId} {S : zS} {i v : Int} {k n : Nat} (ho : z_obj k = none) (ha : z_arr k = (1, n)) (h0 : 0 ≤ i) : z_cell ad cy (z_sA S k i v) k = .inl (cy 1, n, .inl (upd (fun j : Nat => Int32.ofInt (S.2.1 k j)) i.toNat (Int32.ofInt v))) := by
  unfold z_cell
  rw [ho]
  show z_av _ _ _ _ _ = _
  rw [ha]
  show Sum.inl (_, _, Sum.inl _) = _
  rw [z_upd h0]
theorem z_cell_sL {ad : Nat → Nat} {cy : Nat → ClassId} {S : zS} {i v : Int} : ∀ j, j < 49 → j ≠ 48 → z_cell ad cy (z_sL S i v) j = z_cell ad cy S j := by
  intro j hj hne
  unfold z_cell
  cases hq : z_obj j with
  | some q => rfl
  | none =>
    show z_av _ _ _ _ _ = z_av _ _ _ _ _
    have ht : ∀ j, j < 49 → j ≠ 48 → z_obj j = none → (z_arr j).1 < 3 := by decide +kernel
    have h3 := ht j hj hne hq
    generalize z_arr j = t at h3
    obtain ⟨a, n⟩ := t
    rcases a with _ | _ | _ | a
    · rfl
    · rfl
    · rfl
    · exact absurd h3 (by show ¬ a + 3 < 3; omega)
theorem z_cell_sL_at {ad : Nat → Nat} {cy : Nat → ClassId} {S : zS} {i v : Int} (h0 : 0 ≤ i) : z_cell ad cy (z_sL S i v) 48 = .inl (cy 3, 6, .inr (.inl (vp_updL (fun j : Nat => Int64.ofInt (S.2.2 j)) i.toNat (Int64.ofInt v)))) := by
  show Sum.inl (_, _, Sum.inr (Sum.inl _)) = _
  congr 5
  funext j
  show Int64.ofInt (if (j : Int) = i then v else S.2.2 j) = if j = i.toNat then Int64.ofInt v else Int64.ofInt (S.2.2 j)
  by_cases h : (j : Int) = i
  · rw [if_pos h, if_pos (by omega)]
  · rw [if_neg h, if_neg (by omega)]
/-! the surroundings: the first address of the law's own, the addresses, the classes, the array classes, the script -/
abbrev zE : Type := Nat × (Nat → Nat) × va_G × (Nat → ClassId) × Nat × (Nat → Int)
abbrev e_b (E : zE) : Nat := E.1
abbrev e_ad (E : zE) : Nat → Nat := E.2.1
abbrev e_D (E : zE) : va_G := E.2.2.1
abbrev e_cy (E : zE) : Nat → ClassId := E.2.2.2.1
abbrev e_L (E : zE) : Nat := E.2.2.2.2.1
abbrev e_xs (E : zE) : Nat → Int := E.2.2.2.2.2
def z_A (E : zE) : Nat → Prop := fun q => e_b E ≤ q
abbrev z_w (E : zE) (S : zS) : va_W := z_wl (e_ad E) (e_cy E) S
abbrev z_tys (E : zE) : List (ClassId × FieldType) := [(e_cy E 0, .int), (e_cy E 1, .boolean), (e_cy E 2, .array .int), (e_cy E 3, .long)]
def z_st (E : zE) (U : State) (H : Heap) : Prop := vx_Zq Bundle.tN "UNASSIGNED_STACK" Bundle.steD (z_A E) U H ∧ vx_Zq Bundle.tN "SUPPRESSED_SENTINEL" Bundle.listD (z_A E) U H ∧ va_X (e_ad E 49) (e_L E) (fun j => Int32.ofInt (e_xs E j)) U H
/-- the world: the heap holds the state -/
def z_wd (E : zE) (S : zS) (U : State) (H : Heap) : Prop :=
  va_P (e_D E) vwCl (z_w E S) H ∧ va_K (e_D E) vwCl (z_tys E) U ∧ va_D (z_A E) (z_w E S) ∧ z_st E U H ∧ (e_b E ≤ H.size ∧ e_ad E 49 < e_b E ∧ e_L E ≤ 260 ∧ ∀ j, z_in (e_xs E j)) ∧ z_okS S
theorem z_st.moved {E : zE} {u U : State} {H : Heap} (hvm : u.vm.Alike U.vm) (h : z_st E u H) : z_st E U H := ⟨h.1.moved hvm, h.2.1.moved hvm, h.2.2.moved hvm⟩
theorem z_wd.moved {E : zE} {S : zS} {u U : State} {H : Heap} (hvm : u.vm.Alike U.vm) (h : z_wd E S u H) : z_wd E S U H := by
  obtain ⟨h1, h2, h3, h4, h5⟩ := h
  exact ⟨h1, h2.moved hvm, h3, h4.moved hvm, h5⟩
theorem z_st.kept {E : zE} {U : State} {H H1 : Heap} (h : z_st E U H) (hb : e_b E ≤ H.size) (h64 : e_ad E 49 < e_b E) (hq : ∀ a : Nat, a < H.size → ¬ z_A E a → H1[a]? = H[a]?) : z_st E U H1 :=
  ⟨h.1.kept hq, h.2.1.kept hq, h.2.2.kept (hq _ (by omega) (by unfold z_A; omega))⟩
/-- what the tables say, of every state behind the start -/
def z_strs : List (Nat × String) := [(74, "no such block or firm"), (85, "the block is given, or the firm is gone"), (92, "no such block"), (97, "the block is not given, or one of its numbers is not free"), (297, "no such number"), (301, "secret is out of range"), (116, "the block is not given, or the number is not free"), (307, "the number is not in use"), (295, "no such firm"), (155, "a firm is not its own heir"), (158, "one of the firms is gone"), (170, "the minute is out of range"), (175, "the firm is gone, or there are too many orders"), (299, "no such order"), (193, "the order is not waiting, or comes too soon"), (202, "the order cannot be turned back"), (219, "minutes is out of range"), (221, "the minute would be too late"), (229, "lag is out of range"), (303, "what is out of range"), (281, "no such place"), (305, "way is out of range")]
def xI : String := "java/lang/IndexOutOfBoundsException"
def xA : String := "java/lang/IllegalArgumentException"
def xS : String := "java/lang/IllegalStateException"
def xR : List String := ["java/lang/RuntimeException", "java/lang/Exception"]
def z_sw (s : State) : Prop :=
  (∀ q ∈ z_strs, ∃ a, vk_R RX6 q.1 q.2 a s) ∧ (∀ X ∈ [xI, xA, xS], va_Nw (.castable X X) s) ∧ (∀ Y ∈ ["java/lang/RuntimeException", "java/lang/Exception", Bundle.tN], va_Nw (.declares (Bundle.initS Y)) s) ∧ va_Nw (.methodLinkNest RX2 25 yX6_isFirm RX6) s ∧
  (∀ q ∈ [(xI, xA), (xI, xS), (xA, xI), (xA, xS), (xS, xI), (xS, xA)], va_Nc q.1 q.2 s)
theorem z_nc_moved {C T : String} {u U : State} (hvm : u.vm.Alike U.vm) (h : va_Nc C T u) : va_Nc C T U := by
  obtain ⟨c, t, h1, h2, h3⟩ := h
  exact ⟨c, t, by rw [hvm.findClass]; exact h1, by rw [hvm.findClass]; exact h2, by rw [hvm.assignable]; exact h3⟩
theorem z_sw.warm {s U : State} (hW : s.WarmedH U.vm) (h : z_sw s) : z_sw U := by
  obtain ⟨h1, h2, h3, h4, h5⟩ := h
  refine ⟨fun q hq => ?_, fun X hX => (h2 X hX).warmC hW, fun Y hY => (h3 Y hY).warmD hW, h4.warmM hW, fun q hq => z_nc_moved hW.alike (h5 q hq)⟩
  obtain ⟨a, ha⟩ := h1 q hq
  exact ⟨a, ha.warm hW⟩
/-! methods: name, code, how many locals, what it returns, the table of handlers, the frames and locals behind it, how many exceptions it may make, where longs may lie -/
abbrev zM : Type := MethodName × ByteArray × Nat × Option FieldType × List (Nat × Nat × Nat × Nat) × Nat × Nat × Nat × List Nat
abbrev m_y (M : zM) : MethodName := M.1
abbrev m_c (M : zM) : ByteArray := M.2.1
abbrev m_l (M : zM) : Nat := M.2.2.1
abbrev m_r (M : zM) : Option FieldType := M.2.2.2.1
abbrev m_h (M : zM) : List (Nat × Nat × Nat × Nat) := M.2.2.2.2.1
abbrev m_F (M : zM) : Nat := M.2.2.2.2.2.1
abbrev m_L (M : zM) : Nat := M.2.2.2.2.2.2.1
abbrev m_u (M : zM) : Nat := M.2.2.2.2.2.2.2.1
abbrev m_w (M : zM) : List Nat := M.2.2.2.2.2.2.2.2
def z_big : List Cond := lw_tbl.filter goodWord
abbrev zQ : Type := Except String (Option zV) → zS → Prop
def z_Qc (E : zE) (Q : zQ) : Array Value → State → Outcome → State → Prop := fun _ st oc t => (∃ (r : Option zV) (S' : zS), oc = .returned (r.map (z_tv (e_ad E))) ∧ Q (.ok r) S' ∧ (∀ v, r = some v → z_ok v) ∧ z_wd E S' t t.heap) ∧ va_F (z_A E) st t
def z_XC (E : zE) (Q : zQ) : String → State → State → Prop := fun X st t => ∃ S' : zS, Q (.error X) S' ∧ z_wd E S' t t.heap ∧ va_F (z_A E) st t
def z_Pc (E : zE) (args : List zV) (S : zS) : Array Value → State → Prop := va_Pc (args.map (z_tv (e_ad E))) (fun U => z_wd E S U U.heap ∧ z_sw U ∧ ∀ v ∈ args, z_ok v)
def z_rm (M : zM) : Room := { frames := m_F M, cells := m_u M, slots := 6 * m_u M, locals := m_L M }
/-- M, called so, ends with Q -/
def z_Sp (M : zM) (args : List zV) (S : zS) (Q : zQ) : Prop := ∀ (l : Launch) (E : zE), l.stackTraces = false →
  vx_Met l (m_y M) (.code (m_y M) (m_c M) (m_l M) (m_r M) :: z_big) (z_rm M) (z_Pc E args S) (z_Qc E Q) (z_XC E Q) (m_u M) (6 * m_u M) (z_A E)
def z_lok (ad : Nat → Nat) (nL : Nat) (w : List Nat) (al : List (Option zV)) (ls : Array Slot) : Prop := ls.size = nL ∧ lv_wf ls ∧ al.length = nL ∧ ∀ (i : Nat) (v : zV), al[i]? = some (some v) → ls[i]? = some (.val (z_tv ad v)) ∧ (z_nl v ∨ i ∈ w) ∧ z_ok v
def z_nlb : Option zV → Bool
  | some (.inr (.inr _)) => false
  | _ => true
/-- no long ends where i is written -/
def z_nwb (w : List Nat) (al : List (Option zV)) (i : Nat) : Bool := i == 0 || (!(w.contains (i - 1)) || z_nlb (al.getD (i - 1) none))
def z_GW (E : zE) (M : zM) (Q : State → Prop) (cells slots : Nat) (p : Program) (l : Launch) (e : Env) (R : Room) (s : State) (m : MethodId) (args : Array Value) (below : List Frame) (meth : Method) (c : Code) (pc : Nat) (al : List (Option zV)) (st : List zV) (S : zS) : Prop :=
  ∀ (H : Heap) (locs : List Loc) (ls : Array Slot), z_wd E S s H → va_S (z_A E) s.heap H locs → z_lok (e_ad E) (m_l M) (m_w M) al ls → (∀ v ∈ st, z_ok v) →
    W p l e R s m args below meth c H locs cells slots Q (F0 m pc ls (st.map (z_tv (e_ad E))))
/-- how a walk ends, and what was made ahead of it -/
abbrev zF : Type := (zE → List Frame → Array Value → State → State → Prop) × Nat × Nat
def z_tab (M : zM) (c : Code) : Prop := c.exceptionTable.toList.map (fun x => (x.startPc, x.endPc, x.handlerPc, x.catchType)) = m_h M
def z_Cx (E : zE) (M : zM) (F : zF) (p : Program) (l : Launch) (R : Room) (s : State) (m : MethodId) (args : Array Value) (meth : Method) (c : Code) : Prop :=
  p.tables.exec = Jvm.exec ∧ c.code = m_c M ∧ c.maxLocals = m_l M ∧ meth.sig.returnType = m_r M ∧ s.vm.findClass (m_y M).cls = some m.cls ∧ (∀ w ∈ z_big, w.before args s = true) ∧ meth.locks = false ∧ z_tab M c ∧
  (R.frames = m_F M ∧ R.locals = m_L M ∧ F.2.1 + m_u M ≤ R.cells ∧ F.2.2 + 6 * m_u M ≤ R.slots) ∧ l.stackTraces = false ∧ e_b E ≤ s.heap.size ∧ z_sw s ∧ z_st E s s.heap
def z_G (M : zM) (F : zF) (u pc : Nat) (al : List (Option zV)) (st : List zV) (S : zS) : Prop :=
  ∀ (E : zE) (p : Program) (l : Launch) (e : Env) (R : Room) (s : State) (m : MethodId) (args : Array Value) (below : List Frame) (meth : Method) (c : Code), z_Cx E M F p l R s m args meth c →
    z_GW E M (F.1 E below args s) (F.2.1 + u) (F.2.2 + 6 * u) p l e R s m args below meth c pc al st S
/-- the end of a method that owes Q -/
abbrev z_F (M : zM) (Q : zQ) : zF := (fun E below args s => vx_MQ below (z_Qc E Q) (z_XC E Q) args s (m_u M) (6 * m_u M) (z_A E), 0, 0)
end
section
/-! ===== RULES: an instruction, a rule ===== -/
theorem z_cons {v : zV} {st : List zV} (hv : z_ok v) (h : ∀ x ∈ st, z_ok x) : ∀ x ∈ v :: st, z_ok x := List.forall_mem_cons.mpr ⟨hv, h⟩
theorem z_top {v : zV} {st : List zV} (h : ∀ x ∈ v :: st, z_ok x) : z_ok v := h v List.mem_cons_self
theorem z_tail {v : zV} {st : List zV} (h : ∀ x ∈ v :: st, z_ok x) : ∀ x ∈ st, z_ok x := fun x hx => h x (List.mem_cons_of_mem _ hx)
def z_pairs (ad : Nat → Nat) (al : List (Option zV)) : List (Nat × Value) := (List.range al.length).filterMap (fun i => (al.getD i none).map (fun v => (i, z_tv ad v)))
theorem z_pairs_mem {ad : Nat → Nat} {al : List (Option zV)} {i : Nat} {v : zV} (h : al[i]? = some (some v)) : (i, z_tv ad v) ∈ z_pairs ad al := by
  unfold z_pairs
  refine List.mem_filterMap.mpr ⟨i, List.mem_range.mpr (List.getElem?_eq_some_iff.mp h).1, ?_⟩
  rw [List.getD_eq_getElem?_getD, h]
  rfl
theorem z_pairs_of {ad : Nat → Nat} {al : List (Option zV)} {q : Nat × Value} (h : q ∈ z_pairs ad al) : ∃ v, al[q.1]? = some (some v) ∧ q.2 = z_tv ad v := by
  obtain ⟨i, hi, he⟩ := List.mem_filterMap.mp h
  have hl := List.mem_range.mp hi
  rw [List.getD_eq_getElem?_getD, List.getElem?_eq_getElem hl] at he
  cases hx : al[i] with
  | none => rw [hx] at he; cases he
  | some v =>
    rw [hx] at he
    cases he
    exact ⟨v, by rw [List.getElem?_eq_getElem hl, hx], rfl⟩
theorem z_cat {ad : Nat → Nat} {v : zV} (h : z_nl v) : (z_tv ad v).category = 1 := by
  rcases v with z | k | z
  · rfl
  · rfl
  · exact h.elim
/-- the locals as the kit's list -/
theorem z_lok.has {ad : Nat → Nat} {nL : Nat} {w : List Nat} {al : List (Option zV)} {ls : Array Slot} (h : z_lok ad nL w al ls) : lv_has ls nL (z_pairs ad al) := by
  obtain ⟨h1, h2, h3, h4⟩ := h
  refine ⟨h1, h2, fun q hq => ?_⟩
  obtain ⟨v, hv, he⟩ := z_pairs_of hq
  rw [he]
  exact (h4 q.1 v hv).1
theorem z_nlb_of {v : zV} (h : z_nlb (some v) = true) : z_nl v := by
  rcases v with z | k | z
  · trivial
  · trivial
  · exact absurd (show false = true from h) (by decide)
theorem z_nwb_of {w : List Nat} {al : List (Option zV)} {i j : Nat} {v : zV} (h : z_nwb w al i = true) (hj : j + 1 = i) (hv : al[j]? = some (some v)) (hn : z_nl v ∨ j ∈ w) : z_nl v := by
  subst hj
  rcases hn with hn | hn
  · exact hn
  · have e : al.getD j none = some v := by rw [List.getD_eq_getElem?_getD, hv]; rfl
    unfold z_nwb at h
    rw [Nat.add_sub_cancel, e] at h
    have hc : w.contains j = true := by simpa using hn
    rw [hc] at h
    refine z_nlb_of ?_
    simpa using h
theorem z_lok.put {ad : Nat → Nat} {nL i : Nat} {w : List Nat} {al : List (Option zV)} {v : zV} {ls ls' : Array Slot} (h : z_lok ad nL w al ls) (hw : z_nwb w al i = true) (hv : z_nl v) (hok : z_ok v)
    (h' : lv_has ls' nL ((i, z_tv ad v) :: (z_pairs ad al).filter (fun q => !(q.1 == i) && !(q.1 + 1 == i && q.2.category == 2)))) : z_lok ad nL w (al.set i (some v)) ls' := by
  obtain ⟨h1, h2, h3, h4⟩ := h
  obtain ⟨a1, a2, a3⟩ := h'
  refine ⟨a1, a2, by rw [List.length_set]; exact h3, fun j w' hj => ?_⟩
  by_cases hji : j = i
  · subst hji
    have hl : j < al.length := by
      have := (List.getElem?_eq_some_iff.mp hj).1
      rw [List.length_set] at this
      exact this
    rw [List.getElem?_set_self hl] at hj
    cases hj
    exact ⟨a3 _ List.mem_cons_self, .inl hv, hok⟩
  · rw [List.getElem?_set_ne (Ne.symm hji)] at hj
    have hw' := h4 j w' hj
    refine ⟨a3 (j, z_tv ad w') (List.mem_cons_of_mem _ (List.mem_filter.mpr ⟨z_pairs_mem hj, ?_⟩)), hw'.2⟩
    by_cases hj1 : j + 1 = i
    · have hc : (z_tv ad w').category = 1 := z_cat (z_nwb_of hw hj1 hj hw'.2.1)
      simp [hji, hc]
    · simp [hji, hj1]
/-- a long is written: two places -/
theorem z_lok.putL {ad : Nat → Nat} {nL i : Nat} {w : List Nat} {al : List (Option zV)} {z : Int} {ls ls' : Array Slot} (h : z_lok ad nL w al ls) (hw : z_nwb w al i = true) (hi : i ∈ w) (hok : z_inL z)
    (h' : lv_has ls' nL ((i, z_tv ad (zL z)) :: (z_pairs ad al).filter (fun q => !(q.1 == i) && (!(q.1 == i + 1) && !(q.1 + 1 == i && q.2.category == 2))))) : z_lok ad nL w ((al.set (i + 1) none).set i (some (zL z))) ls' := by
  obtain ⟨h1, h2, h3, h4⟩ := h
  obtain ⟨a1, a2, a3⟩ := h'
  refine ⟨a1, a2, by rw [List.length_set, List.length_set]; exact h3, fun j w' hj => ?_⟩
  by_cases hji : j = i
  · subst hji
    have hl : j < (al.set (j + 1) none).length := by
      have := (List.getElem?_eq_some_iff.mp hj).1
      rw [List.length_set] at this
      exact this
    rw [List.getElem?_set_self hl] at hj
    cases hj
    exact ⟨a3 _ List.mem_cons_self, .inr hi, hok⟩
  · rw [List.getElem?_set_ne (Ne.symm hji)] at hj
    by_cases hj2 : j = i + 1
    · subst hj2
      have hl : i + 1 < al.length := by
        have := (List.getElem?_eq_some_iff.mp hj).1
        rw [List.length_set] at this
        exact this
      rw [List.getElem?_set_self hl] at hj
      cases hj
    · rw [List.getElem?_set_ne (Ne.symm hj2)] at hj
      have hw' := h4 j w' hj
      refine ⟨a3 (j, z_tv ad w') (List.mem_cons_of_mem _ (List.mem_filter.mpr ⟨z_pairs_mem hj, ?_⟩)), hw'.2⟩
      by_cases hj1 : j + 1 = i
      · have hc : (z_tv ad w').category = 1 := z_cat (z_nwb_of hw hj1 hj hw'.2.1)
        simp [hji, hj2, hc]
      · simp [hji, hj1, hj2]
theorem g_iconst {M : zM} {F : zF} {u pc q : Nat} {al : List (Option zV)} {st : List zV} {S : zS} {n : Int} (hd : decode (m_c M) pc = .ok (.iconst n, 1)) (hq : pc + 1 = q) (hz : z_in n) (k : z_G M F u q al (zI n :: st) S) : z_G M F u pc al st S := by
  intro E p l e R s m args below meth c C H locs ls hW hS hL hst
  subst hq
  refine lv_iconst (v := Int32.ofInt n) C.1 C.2.1 hd rfl ?_
  exact k E p l e R s m args below meth c C H locs ls hW hS hL (z_cons hz hst)
theorem g_bipush {M : zM} {F : zF} {u pc q : Nat} {al : List (Option zV)} {st : List zV} {S : zS} {n : Int} (hd : decode (m_c M) pc = .ok (.bipush n, 2)) (hq : pc + 2 = q) (hz : z_in n) (hv : (Int8.ofInt n).toInt32 = Int32.ofInt n) (k : z_G M F u q al (zI n :: st) S) : z_G M F u pc al st S := by
  intro E p l e R s m args below meth c C H locs ls hW hS hL hst
  subst hq
  refine lv_bipush (v := Int32.ofInt n) C.1 C.2.1 hd hv ?_
  exact k E p l e R s m args below meth c C H locs ls hW hS hL (z_cons hz hst)
theorem g_sipush {M : zM} {F : zF} {u pc q : Nat} {al : List (Option zV)} {st : List zV} {S : zS} {n : Int} (hd : decode (m_c M) pc = .ok (.sipush n, 3)) (hq : pc + 3 = q) (hz : z_in n) (hv : (Int16.ofInt n).toInt32 = Int32.ofInt n) (k : z_G M F u q al (zI n :: st) S) : z_G M F u pc al st S := by
  intro E p l e R s m args below meth c C H locs ls hW hS hL hst
  subst hq
  refine lv_sipush (v := Int32.ofInt n) C.1 C.2.1 hd hv ?_
  exact k E p l e R s m args below meth c C H locs ls hW hS hL (z_cons hz hst)
theorem g_lconst {M : zM} {F : zF} {u pc q : Nat} {al : List (Option zV)} {st : List zV} {S : zS} {n : Fin 2} {z : Int} (hd : decode (m_c M) pc = .ok (.lconst n, 1)) (hq : pc + 1 = q) (hz : z_inL z) (hv : Int64.ofNat (n : Nat) = Int64.ofInt z) (k : z_G M F u q al (zL z :: st) S) : z_G M F u pc al st S := by
  intro E p l e R s m args below meth c C H locs ls hW hS hL hst
  subst hq
  refine lv_lconst (v := Int64.ofInt z) C.1 C.2.1 hd hv ?_
  exact k E p l e R s m args below meth c C H locs ls hW hS hL (z_cons hz hst)
theorem g_iload_n {M : zM} {F : zF} {u pc q : Nat} {al : List (Option zV)} {st : List zV} {S : zS} {n : Fin 4} {i : Nat} {z : Int} (hd : decode (m_c M) pc = .ok (.iload_n n, 1)) (hi : (n : Nat) = i) (hq : pc + 1 = q) (hl : al[i]? = some (some (zI z))) (k : z_G M F u q al (zI z :: st) S) : z_G M F u pc al st S := by
  intro E p l e R s m args below meth c C H locs ls hW hS hL hst
  subst hq
  have h1 := hL.2.2.2 _ _ hl
  refine lv_iload_n C.1 C.2.1 hd hi h1.1 ?_
  exact k E p l e R s m args below meth c C H locs ls hW hS hL (z_cons h1.2.2 hst)
theorem g_iload {M : zM} {F : zF} {u pc q : Nat} {al : List (Option zV)} {st : List zV} {S : zS} {i : Nat} {z : Int} (hd : decode (m_c M) pc = .ok (.iload i, 2)) (hq : pc + 2 = q) (hl : al[i]? = some (some (zI z))) (k : z_G M F u q al (zI z :: st) S) : z_G M F u pc al st S := by
  intro E p l e R s m args below meth c C H locs ls hW hS hL hst
  subst hq
  have h1 := hL.2.2.2 _ _ hl
  refine lv_iload C.1 C.2.1 hd h1.1 ?_
  exact k E p l e R s m args below meth c C H locs ls hW hS hL (z_cons h1.2.2 hst)
theorem g_aload_n {M : zM} {F : zF} {u pc q : Nat} {al : List (Option zV)} {st : List zV} {S : zS} {n : Fin 4} {i : Nat} {z : Nat} (hd : decode (m_c M) pc = .ok (.aload_n n, 1)) (hi : (n : Nat) = i) (hq : pc + 1 = q) (hl : al[i]? = some (some (zR z))) (k : z_G M F u q al (zR z :: st) S) : z_G M F u pc al st S := by
  intro E p l e R s m args below meth c C H locs ls hW hS hL hst
  subst hq
  have h1 := hL.2.2.2 _ _ hl
  refine lv_aload_n C.1 C.2.1 hd hi h1.1 ?_
  exact k E p l e R s m args below meth c C H locs ls hW hS hL (z_cons h1.2.2 hst)
theorem g_aload {M : zM} {F : zF} {u pc q : Nat} {al : List (Option zV)} {st : List zV} {S : zS} {i : Nat} {z : Nat} (hd : decode (m_c M) pc = .ok (.aload i, 2)) (hq : pc + 2 = q) (hl : al[i]? = some (some (zR z))) (k : z_G M F u q al (zR z :: st) S) : z_G M F u pc al st S := by
  intro E p l e R s m args below meth c C H locs ls hW hS hL hst
  subst hq
  have h1 := hL.2.2.2 _ _ hl
  refine lv_aload C.1 C.2.1 hd h1.1 ?_
  exact k E p l e R s m args below meth c C H locs ls hW hS hL (z_cons h1.2.2 hst)
theorem g_istore_n {M : zM} {F : zF} {u pc q : Nat} {al : List (Option zV)} {st : List zV} {S : zS} {n : Fin 4} {i : Nat} {z : Int} (hd : decode (m_c M) pc = .ok (.istore_n n, 1)) (hi : (n : Nat) = i) (hq : pc + 1 = q) (hn : i < m_l M) (k : z_G M F u q (al.set i (some (zI z))) st S) (hw : z_nwb (m_w M) al i = true := by rfl) : z_G M F u pc al (zI z :: st) S := by
  intro E p l e R s m args below meth c C H locs ls hW hS hL hst
  subst hq
  refine lv_istore_n C.1 C.2.1 hd hi hL.has hn rfl (fun ls' hl' => ?_)
  exact k E p l e R s m args below meth c C H locs ls' hW hS (hL.put hw trivial (z_top hst) hl') (z_tail hst)
theorem g_istore {M : zM} {F : zF} {u pc q : Nat} {al : List (Option zV)} {st : List zV} {S : zS} {i : Nat} {z : Int} (hd : decode (m_c M) pc = .ok (.istore i, 2)) (hq : pc + 2 = q) (hn : i < m_l M) (k : z_G M F u q (al.set i (some (zI z))) st S) (hw : z_nwb (m_w M) al i = true := by rfl) : z_G M F u pc al (zI z :: st) S := by
  intro E p l e R s m args below meth c C H locs ls hW hS hL hst
  subst hq
  refine lv_istore C.1 C.2.1 hd hL.has hn rfl (fun ls' hl' => ?_)
  exact k E p l e R s m args below meth c C H locs ls' hW hS (hL.put hw trivial (z_top hst) hl') (z_tail hst)
theorem g_astore_n {M : zM} {F : zF} {u pc q : Nat} {al : List (Option zV)} {st : List zV} {S : zS} {n : Fin 4} {i : Nat} {z : Nat} (hd : decode (m_c M) pc = .ok (.astore_n n, 1)) (hi : (n : Nat) = i) (hq : pc + 1 = q) (hn : i < m_l M) (k : z_G M F u q (al.set i (some (zR z))) st S) (hw : z_nwb (m_w M) al i = true := by rfl) : z_G M F u pc al (zR z :: st) S := by
  intro E p l e R s m args below meth c C H locs ls hW hS hL hst
  subst hq
  refine lv_astore_n C.1 C.2.1 hd hi hL.has hn rfl (fun ls' hl' => ?_)
  exact k E p l e R s m args below meth c C H locs ls' hW hS (hL.put hw trivial (z_top hst) hl') (z_tail hst)
theorem g_astore {M : zM} {F : zF} {u pc q : Nat} {al : List (Option zV)} {st : List zV} {S : zS} {i : Nat} {z : Nat} (hd : decode (m_c M) pc = .ok (.astore i, 2)) (hq : pc + 2 = q) (hn : i < m_l M) (k : z_G M F u q (al.set i (some (zR z))) st S) (hw : z_nwb (m_w M) al i = true := by rfl) : z_G M F u pc al (zR z :: st) S := by
  intro E p l e R s m args below meth c C H locs ls hW hS hL hst
  subst hq
  refine lv_astore C.1 C.2.1 hd hL.has hn rfl (fun ls' hl' => ?_)
  exact k E p l e R s m args below meth c C H locs ls' hW hS (hL.put hw trivial (z_top hst) hl') (z_tail hst)
theorem g_iinc {M : zM} {F : zF} {u pc q : Nat} {al : List (Option zV)} {st : List zV} {S : zS} {i : Nat} {n z : Int} (hd : decode (m_c M) pc = .ok (.iinc i n, 3)) (hq : pc + 3 = q) (hl : al[i]? = some (some (zI z))) (hz : z_in (z + n)) (k : z_G M F u q (al.set i (some (zI (z + n)))) st S) (hw : z_nwb (m_w M) al i = true := by rfl) : z_G M F u pc al st S := by
  intro E p l e R s m args below meth c C H locs ls hW hS hL hst
  subst hq
  have h1 := hL.2.2.2 _ _ hl
  have hn : i < m_l M := by rw [← hL.2.2.1]; exact (List.getElem?_eq_some_iff.mp hl).1
  obtain ⟨j, hj⟩ := List.getElem?_of_mem (z_pairs_mem (ad := e_ad E) hl)
  refine lv_iinc (v := Int32.ofInt (z + n)) C.1 C.2.1 hd hL.has hj z_add hn rfl (fun ls' hl' => ?_)
  exact k E p l e R s m args below meth c C H locs ls' hW hS (hL.put hw trivial hz hl') hst
theorem g_iadd {M : zM} {F : zF} {u pc q : Nat} {al : List (Option zV)} {st : List zV} {S : zS} {x y : Int} (hd : decode (m_c M) pc = .ok (.iadd, 1)) (hq : pc + 1 = q) (hz : z_in (x + y)) (k : z_G M F u q al (zI (x + y) :: st) S) : z_G M F u pc al (zI y :: zI x :: st) S := by
  intro E p l e R s m args below meth c C H locs ls hW hS hL hst
  subst hq
  refine lv_iadd C.1 C.2.1 hd ?_
  rw [z_add]
  exact k E p l e R s m args below meth c C H locs ls hW hS hL (z_cons hz (z_tail (z_tail hst)))
theorem g_isub {M : zM} {F : zF} {u pc q : Nat} {al : List (Option zV)} {st : List zV} {S : zS} {x y : Int} (hd : decode (m_c M) pc = .ok (.isub, 1)) (hq : pc + 1 = q) (hz : z_in (x - y)) (k : z_G M F u q al (zI (x - y) :: st) S) : z_G M F u pc al (zI y :: zI x :: st) S := by
  intro E p l e R s m args below meth c C H locs ls hW hS hL hst
  subst hq
  refine lv_isub C.1 C.2.1 hd ?_
  rw [z_sub]
  exact k E p l e R s m args below meth c C H locs ls hW hS hL (z_cons hz (z_tail (z_tail hst)))
theorem g_imul {M : zM} {F : zF} {u pc q : Nat} {al : List (Option zV)} {st : List zV} {S : zS} {x y : Int} (hd : decode (m_c M) pc = .ok (.imul, 1)) (hq : pc + 1 = q) (hz : z_in (x * y)) (k : z_G M F u q al (zI (x * y) :: st) S) : z_G M F u pc al (zI y :: zI x :: st) S := by
  intro E p l e R s m args below meth c C H locs ls hW hS hL hst
  subst hq
  refine lv_imul C.1 C.2.1 hd ?_
  rw [z_mul]
  exact k E p l e R s m args below meth c C H locs ls hW hS hL (z_cons hz (z_tail (z_tail hst)))
theorem g_iaddw {M : zM} {F : zF} {u pc q : Nat} {al : List (Option zV)} {st : List zV} {S : zS} {x y : Int} (hd : decode (m_c M) pc = .ok (.iadd, 1)) (hq : pc + 1 = q) (k : z_G M F u q al (zI ((x + y).bmod (2 ^ 32)) :: st) S) : z_G M F u pc al (zI y :: zI x :: st) S := by
  intro E p l e R s m args below meth c C H locs ls hW hS hL hst
  subst hq
  refine lv_iadd C.1 C.2.1 hd ?_
  rw [z_add]
  have e1 : Int32.ofInt (x + y) = Int32.ofInt ((x + y).bmod (2 ^ 32)) := by
    apply Int32.toInt_inj.mp
    rw [Int32.toInt_ofInt, Int32.toInt_ofInt]
    exact (Int.bmod_bmod (x := x + y) (m := 2 ^ 32)).symm
  have hz : z_in ((x + y).bmod (2 ^ 32)) := by
    have h1 := z_rng (Int32.ofInt (x + y))
    rw [Int32.toInt_ofInt] at h1
    exact h1
  rw [e1]
  exact k E p l e R s m args below meth c C H locs ls hW hS hL (z_cons hz (z_tail (z_tail hst)))
theorem g_isubw {M : zM} {F : zF} {u pc q : Nat} {al : List (Option zV)} {st : List zV} {S : zS} {x y : Int} (hd : decode (m_c M) pc = .ok (.isub, 1)) (hq : pc + 1 = q) (k : z_G M F u q al (zI ((x - y).bmod (2 ^ 32)) :: st) S) : z_G M F u pc al (zI y :: zI x :: st) S := by
  intro E p l e R s m args below meth c C H locs ls hW hS hL hst
  subst hq
  refine lv_isub C.1 C.2.1 hd ?_
  rw [z_sub]
  have e1 : Int32.ofInt (x - y) = Int32.ofInt ((x - y).bmod (2 ^ 32)) := by
    apply Int32.toInt_inj.mp
    rw [Int32.toInt_ofInt, Int32.toInt_ofInt]
    exact (Int.bmod_bmod (x := x - y) (m := 2 ^ 32)).symm
  have hz : z_in ((x - y).bmod (2 ^ 32)) := by
    have h1 := z_rng (Int32.ofInt (x - y))
    rw [Int32.toInt_ofInt] at h1
    exact h1
  rw [e1]
  exact k E p l e R s m args below meth c C H locs ls hW hS hL (z_cons hz (z_tail (z_tail hst)))
theorem g_idiv {M : zM} {F : zF} {u pc q : Nat} {al : List (Option zV)} {st : List zV} {S : zS} {x y : Int} (hd : decode (m_c M) pc = .ok (.idiv, 1)) (hq : pc + 1 = q) (h0 : 0 ≤ x) (h1 : 0 < y) (k : z_G M F u q al (zI (x / y) :: st) S) : z_G M F u pc al (zI y :: zI x :: st) S := by
  intro E p l e R s m args below meth c C H locs ls hW hS hL hst
  subst hq
  have hy : z_in y := z_top hst
  have hx : z_in x := z_top (z_tail hst)
  refine lv_idiv C.1 C.2.1 hd (z_nz hy h1) ?_
  have hz : z_in (x / y) := by
    have a1 := Int.ediv_nonneg h0 (Int.le_of_lt h1)
    have a2 := Int.ediv_le_self y h0
    have a3 := Int.emod_nonneg x (by omega : y ≠ 0)
    have a4 := Int.emod_lt_of_pos x h1
    obtain ⟨b1, b2⟩ := hx
    obtain ⟨b3, b4⟩ := hy
    constructor <;> omega
  rw [z_div hx hy h0 h1]
  exact k E p l e R s m args below meth c C H locs ls hW hS hL (z_cons hz (z_tail (z_tail hst)))
theorem g_irem {M : zM} {F : zF} {u pc q : Nat} {al : List (Option zV)} {st : List zV} {S : zS} {x y : Int} (hd : decode (m_c M) pc = .ok (.irem, 1)) (hq : pc + 1 = q) (h0 : 0 ≤ x) (h1 : 0 < y) (k : z_G M F u q al (zI (x % y) :: st) S) : z_G M F u pc al (zI y :: zI x :: st) S := by
  intro E p l e R s m args below meth c C H locs ls hW hS hL hst
  subst hq
  have hy : z_in y := z_top hst
  have hx : z_in x := z_top (z_tail hst)
  refine lv_irem C.1 C.2.1 hd (z_nz hy h1) ?_
  have hz : z_in (x % y) := by
    have a1 := Int.ediv_nonneg h0 (Int.le_of_lt h1)
    have a2 := Int.ediv_le_self y h0
    have a3 := Int.emod_nonneg x (by omega : y ≠ 0)
    have a4 := Int.emod_lt_of_pos x h1
    obtain ⟨b1, b2⟩ := hx
    obtain ⟨b3, b4⟩ := hy
    constructor <;> omega
  rw [z_rem hx hy h0 h1]
  exact k E p l e R s m args below meth c C H locs ls hW hS hL (z_cons hz (z_tail (z_tail hst)))
theorem g_iand31 {M : zM} {F : zF} {u pc q : Nat} {al : List (Option zV)} {st : List zV} {S : zS} {x : Int} (hd : decode (m_c M) pc = .ok (.iand, 1)) (hq : pc + 1 = q) (k : ∀ z : Int, 0 ≤ z → z ≤ 31 → z_G M F u q al (zI z :: st) S) : z_G M F u pc al (zI 31 :: zI x :: st) S := by
  intro E p l e R s m args below meth c C H locs ls hW hS hL hst
  subst hq
  refine lv_iand C.1 C.2.1 hd ?_
  obtain ⟨j, hj, e1⟩ := pk_andE (Int32.ofInt x) (m := Int32.ofInt 31) 5 (by decide)
  rw [e1]
  have e2 : nI j = Int32.ofInt (j : Int) := (Int32.ofInt_eq_ofNat (n := j)).symm
  rw [e2]
  exact k (j : Int) (by omega) (by omega) E p l e R s m args below meth c C H locs ls hW hS hL (z_cons ⟨by omega, by omega⟩ (z_tail (z_tail hst)))
theorem g_dup {M : zM} {F : zF} {u pc q : Nat} {al : List (Option zV)} {st : List zV} {S : zS} {v : zV} (hd : decode (m_c M) pc = .ok (.dup, 1)) (hq : pc + 1 = q) (hv : z_nl v) (k : z_G M F u q al (v :: v :: st) S) : z_G M F u pc al (v :: st) S := by
  intro E p l e R s m args below meth c C H locs ls hW hS hL hst
  subst hq
  refine lv_dup C.1 C.2.1 hd (z_cat hv) ?_
  exact k E p l e R s m args below meth c C H locs ls hW hS hL (z_cons (z_top hst) hst)
theorem g_pop {M : zM} {F : zF} {u pc q : Nat} {al : List (Option zV)} {st : List zV} {S : zS} {v : zV} (hd : decode (m_c M) pc = .ok (.pop, 1)) (hq : pc + 1 = q) (hv : z_nl v) (k : z_G M F u q al st S) : z_G M F u pc al (v :: st) S := by
  intro E p l e R s m args below meth c C H locs ls hW hS hL hst
  subst hq
  refine lv_pop C.1 C.2.1 hd (z_cat hv) ?_
  exact k E p l e R s m args below meth c C H locs ls hW hS hL (z_tail hst)
theorem g_dup2 {M : zM} {F : zF} {u pc q : Nat} {al : List (Option zV)} {st : List zV} {S : zS} {v w : zV} (hd : decode (m_c M) pc = .ok (.dup2, 1)) (hq : pc + 1 = q) (hv : z_nl v) (hw : z_nl w) (k : z_G M F u q al (v :: w :: v :: w :: st) S) : z_G M F u pc al (v :: w :: st) S := by
  intro E p l e R s m args below meth c C H locs ls hW hS hL hst
  subst hq
  refine lv_dup2_11 C.1 C.2.1 hd (z_cat hv) (z_cat hw) ?_
  exact k E p l e R s m args below meth c C H locs ls hW hS hL (z_cons (z_top hst) (z_cons (z_top (z_tail hst)) hst))
theorem g_i2l {M : zM} {F : zF} {u pc q : Nat} {al : List (Option zV)} {st : List zV} {S : zS} {x : Int} (hd : decode (m_c M) pc = .ok (.i2l, 1)) (hq : pc + 1 = q) (k : z_G M F u q al (zL x :: st) S) : z_G M F u pc al (zI x :: st) S := by
  intro E p l e R s m args below meth c C H locs ls hW hS hL hst
  subst hq
  have hx : z_in x := z_top hst
  refine lv_i2l C.1 C.2.1 hd (z_i2l hx) ?_
  exact k E p l e R s m args below meth c C H locs ls hW hS hL (z_cons (show z_inL x from ⟨by have := hx.1; omega, by have := hx.2; omega⟩) (z_tail hst))
theorem g_lcmp {M : zM} {F : zF} {u pc q : Nat} {al : List (Option zV)} {st : List zV} {S : zS} {x y : Int} (hd : decode (m_c M) pc = .ok (.lcmp, 1)) (hq : pc + 1 = q) (k : ∀ z : Int, (z = 0 ↔ x = y) → z_G M F u q al (zI z :: st) S) : z_G M F u pc al (zL y :: zL x :: st) S := by
  intro E p l e R s m args below meth c C H locs ls hW hS hL hst
  subst hq
  have hy : z_inL y := z_top hst
  have hx : z_inL x := z_top (z_tail hst)
  refine W.lcmp C.1 C.2.1 hd ?_
  have e0 : (Int64.ofInt x = Int64.ofInt y) ↔ x = y := by rw [← Int64.toInt_inj, z_toL hx, z_toL hy]
  have e1 : (Int64.ofInt y < Int64.ofInt x) ↔ y < x := by rw [Int64.lt_iff_toInt_lt, z_toL hx, z_toL hy]
  have hz : ∃ z : Int, lg_cmp (Int64.ofInt x) (Int64.ofInt y) = Int32.ofInt z ∧ (z = 0 ↔ x = y) ∧ z_in z := by
    unfold lg_cmp
    by_cases h1 : Int64.ofInt x > Int64.ofInt y
    · rw [if_pos h1]
      have := e1.mp h1
      exact ⟨1, rfl, by omega, by constructor <;> omega⟩
    · rw [if_neg h1]
      by_cases h2 : Int64.ofInt x = Int64.ofInt y
      · rw [if_pos h2]
        have := e0.mp h2
        exact ⟨0, rfl, by omega, by constructor <;> omega⟩
      · rw [if_neg h2]
        have : ¬ x = y := fun h => h2 (e0.mpr h)
        exact ⟨-1, rfl, by omega, by constructor <;> omega⟩
  obtain ⟨z, h1, h2, h3⟩ := hz
  rw [h1]
  exact k z h2 E p l e R s m args below meth c C H locs ls hW hS hL (z_cons h3 (z_tail (z_tail hst)))
theorem g_goto {M : zM} {F : zF} {u pc q : Nat} {al : List (Option zV)} {st : List zV} {S : zS} {off : Int} {t : Nat} (hd : decode (m_c M) pc = .ok (.goto off, 3)) (ht : (pc : Int) + off = (t : Int)) (k : z_G M F u t al st S) : z_G M F u pc al st S := by
  intro E p l e R s m args below meth c C H locs ls hW hS hL hst
  refine lv_goto C.1 C.2.1 hd ht ?_
  exact k E p l e R s m args below meth c C H locs ls hW hS hL hst
theorem g_icmp_eq {M : zM} {F : zF} {u pc q : Nat} {al : List (Option zV)} {st : List zV} {S : zS} {x y off : Int} {t : Nat} (hd : decode (m_c M) pc = .ok (.if_icmp .eq off, 3)) (ht : (pc : Int) + off = (t : Int)) (hq : pc + 3 = q) (kt : x = y → z_G M F u t al st S) (kf : ¬ x = y → z_G M F u q al st S) : z_G M F u pc al (zI y :: zI x :: st) S := by
  intro E p l e R s m args below meth c C H locs ls hW hS hL hst
  subst hq
  have hy : z_in y := z_top hst
  have hx : z_in x := z_top (z_tail hst)
  refine lv_icmp_eq (tgt := t) C.1 C.2.1 hd ht (fun h => ?_) (fun h => ?_)
  · refine kt ?_ E p l e R s m args below meth c C H locs ls hW hS hL (z_tail (z_tail hst))
    simp only [ge_iff_le, gt_iff_lt, ne_eq, z_eq hx hy, z_lt hx hy, z_le hx hy, z_lt hy hx, z_le hy hx] at h
    omega
  · refine kf ?_ E p l e R s m args below meth c C H locs ls hW hS hL (z_tail (z_tail hst))
    simp only [ge_iff_le, gt_iff_lt, ne_eq, z_eq hx hy, z_lt hx hy, z_le hx hy, z_lt hy hx, z_le hy hx] at h
    omega
theorem g_if_eq {M : zM} {F : zF} {u pc q : Nat} {al : List (Option zV)} {st : List zV} {S : zS} {x off : Int} {t : Nat} (hd : decode (m_c M) pc = .ok (.ifCond .eq off, 3)) (ht : (pc : Int) + off = (t : Int)) (hq : pc + 3 = q) (kt : x = 0 → z_G M F u t al st S) (kf : ¬ x = 0 → z_G M F u q al st S) : z_G M F u pc al (zI x :: st) S := by
  intro E p l e R s m args below meth c C H locs ls hW hS hL hst
  subst hq
  have hx : z_in x := z_top hst
  have hy : z_in 0 := by constructor <;> omega
  refine lv_if_eq (tgt := t) C.1 C.2.1 hd ht (fun h => ?_) (fun h => ?_)
  · refine kt ?_ E p l e R s m args below meth c C H locs ls hW hS hL (z_tail hst)
    rw [show (0 : Int32) = Int32.ofInt 0 from rfl] at h
    simp only [ge_iff_le, gt_iff_lt, ne_eq, z_eq hx hy, z_lt hx hy, z_le hx hy, z_lt hy hx, z_le hy hx] at h
    omega
  · refine kf ?_ E p l e R s m args below meth c C H locs ls hW hS hL (z_tail hst)
    rw [show (0 : Int32) = Int32.ofInt 0 from rfl] at h
    simp only [ge_iff_le, gt_iff_lt, ne_eq, z_eq hx hy, z_lt hx hy, z_le hx hy, z_lt hy hx, z_le hy hx] at h
    omega
theorem g_icmp_ne {M : zM} {F : zF} {u pc q : Nat} {al : List (Option zV)} {st : List zV} {S : zS} {x y off : Int} {t : Nat} (hd : decode (m_c M) pc = .ok (.if_icmp .ne off, 3)) (ht : (pc : Int) + off = (t : Int)) (hq : pc + 3 = q) (kt : ¬ x = y → z_G M F u t al st S) (kf : x = y → z_G M F u q al st S) : z_G M F u pc al (zI y :: zI x :: st) S := by
  intro E p l e R s m args below meth c C H locs ls hW hS hL hst
  subst hq
  have hy : z_in y := z_top hst
  have hx : z_in x := z_top (z_tail hst)
  refine lv_icmp_ne (tgt := t) C.1 C.2.1 hd ht (fun h => ?_) (fun h => ?_)
  · refine kt ?_ E p l e R s m args below meth c C H locs ls hW hS hL (z_tail (z_tail hst))
    simp only [ge_iff_le, gt_iff_lt, ne_eq, z_eq hx hy, z_lt hx hy, z_le hx hy, z_lt hy hx, z_le hy hx] at h
    omega
  · refine kf ?_ E p l e R s m args below meth c C H locs ls hW hS hL (z_tail (z_tail hst))
    simp only [ge_iff_le, gt_iff_lt, ne_eq, z_eq hx hy, z_lt hx hy, z_le hx hy, z_lt hy hx, z_le hy hx] at h
    omega
theorem g_if_ne {M : zM} {F : zF} {u pc q : Nat} {al : List (Option zV)} {st : List zV} {S : zS} {x off : Int} {t : Nat} (hd : decode (m_c M) pc = .ok (.ifCond .ne off, 3)) (ht : (pc : Int) + off = (t : Int)) (hq : pc + 3 = q) (kt : ¬ x = 0 → z_G M F u t al st S) (kf : x = 0 → z_G M F u q al st S) : z_G M F u pc al (zI x :: st) S := by
  intro E p l e R s m args below meth c C H locs ls hW hS hL hst
  subst hq
  have hx : z_in x := z_top hst
  have hy : z_in 0 := by constructor <;> omega
  refine lv_if_ne (tgt := t) C.1 C.2.1 hd ht (fun h => ?_) (fun h => ?_)
  · refine kt ?_ E p l e R s m args below meth c C H locs ls hW hS hL (z_tail hst)
    rw [show (0 : Int32) = Int32.ofInt 0 from rfl] at h
    simp only [ge_iff_le, gt_iff_lt, ne_eq, z_eq hx hy, z_lt hx hy, z_le hx hy, z_lt hy hx, z_le hy hx] at h
    omega
  · refine kf ?_ E p l e R s m args below meth c C H locs ls hW hS hL (z_tail hst)
    rw [show (0 : Int32) = Int32.ofInt 0 from rfl] at h
    simp only [ge_iff_le, gt_iff_lt, ne_eq, z_eq hx hy, z_lt hx hy, z_le hx hy, z_lt hy hx, z_le hy hx] at h
    omega
theorem g_icmp_lt {M : zM} {F : zF} {u pc q : Nat} {al : List (Option zV)} {st : List zV} {S : zS} {x y off : Int} {t : Nat} (hd : decode (m_c M) pc = .ok (.if_icmp .lt off, 3)) (ht : (pc : Int) + off = (t : Int)) (hq : pc + 3 = q) (kt : x < y → z_G M F u t al st S) (kf : y ≤ x → z_G M F u q al st S) : z_G M F u pc al (zI y :: zI x :: st) S := by
  intro E p l e R s m args below meth c C H locs ls hW hS hL hst
  subst hq
  have hy : z_in y := z_top hst
  have hx : z_in x := z_top (z_tail hst)
  refine lv_icmp_lt (tgt := t) C.1 C.2.1 hd ht (fun h => ?_) (fun h => ?_)
  · refine kt ?_ E p l e R s m args below meth c C H locs ls hW hS hL (z_tail (z_tail hst))
    simp only [ge_iff_le, gt_iff_lt, ne_eq, z_eq hx hy, z_lt hx hy, z_le hx hy, z_lt hy hx, z_le hy hx] at h
    omega
  · refine kf ?_ E p l e R s m args below meth c C H locs ls hW hS hL (z_tail (z_tail hst))
    simp only [ge_iff_le, gt_iff_lt, ne_eq, z_eq hx hy, z_lt hx hy, z_le hx hy, z_lt hy hx, z_le hy hx] at h
    omega
theorem g_if_lt {M : zM} {F : zF} {u pc q : Nat} {al : List (Option zV)} {st : List zV} {S : zS} {x off : Int} {t : Nat} (hd : decode (m_c M) pc = .ok (.ifCond .lt off, 3)) (ht : (pc : Int) + off = (t : Int)) (hq : pc + 3 = q) (kt : x < 0 → z_G M F u t al st S) (kf : 0 ≤ x → z_G M F u q al st S) : z_G M F u pc al (zI x :: st) S := by
  intro E p l e R s m args below meth c C H locs ls hW hS hL hst
  subst hq
  have hx : z_in x := z_top hst
  have hy : z_in 0 := by constructor <;> omega
  refine lv_if_lt (tgt := t) C.1 C.2.1 hd ht (fun h => ?_) (fun h => ?_)
  · refine kt ?_ E p l e R s m args below meth c C H locs ls hW hS hL (z_tail hst)
    rw [show (0 : Int32) = Int32.ofInt 0 from rfl] at h
    simp only [ge_iff_le, gt_iff_lt, ne_eq, z_eq hx hy, z_lt hx hy, z_le hx hy, z_lt hy hx, z_le hy hx] at h
    omega
  · refine kf ?_ E p l e R s m args below meth c C H locs ls hW hS hL (z_tail hst)
    rw [show (0 : Int32) = Int32.ofInt 0 from rfl] at h
    simp only [ge_iff_le, gt_iff_lt, ne_eq, z_eq hx hy, z_lt hx hy, z_le hx hy, z_lt hy hx, z_le hy hx] at h
    omega
theorem g_icmp_ge {M : zM} {F : zF} {u pc q : Nat} {al : List (Option zV)} {st : List zV} {S : zS} {x y off : Int} {t : Nat} (hd : decode (m_c M) pc = .ok (.if_icmp .ge off, 3)) (ht : (pc : Int) + off = (t : Int)) (hq : pc + 3 = q) (kt : y ≤ x → z_G M F u t al st S) (kf : x < y → z_G M F u q al st S) : z_G M F u pc al (zI y :: zI x :: st) S := by
  intro E p l e R s m args below meth c C H locs ls hW hS hL hst
  subst hq
  have hy : z_in y := z_top hst
  have hx : z_in x := z_top (z_tail hst)
  refine lv_icmp_ge (tgt := t) C.1 C.2.1 hd ht (fun h => ?_) (fun h => ?_)
  · refine kt ?_ E p l e R s m args below meth c C H locs ls hW hS hL (z_tail (z_tail hst))
    simp only [ge_iff_le, gt_iff_lt, ne_eq, z_eq hx hy, z_lt hx hy, z_le hx hy, z_lt hy hx, z_le hy hx] at h
    omega
  · refine kf ?_ E p l e R s m args below meth c C H locs ls hW hS hL (z_tail (z_tail hst))
    simp only [ge_iff_le, gt_iff_lt, ne_eq, z_eq hx hy, z_lt hx hy, z_le hx hy, z_lt hy hx, z_le hy hx] at h
    omega
theorem g_if_ge {M : zM} {F : zF} {u pc q : Nat} {al : List (Option zV)} {st : List zV} {S : zS} {x off : Int} {t : Nat} (hd : decode (m_c M) pc = .ok (.ifCond .ge off, 3)) (ht : (pc : Int) + off = (t : Int)) (hq : pc + 3 = q) (kt : 0 ≤ x → z_G M F u t al st S) (kf : x < 0 → z_G M F u q al st S) : z_G M F u pc al (zI x :: st) S := by
  intro E p l e R s m args below meth c C H locs ls hW hS hL hst
  subst hq
  have hx : z_in x := z_top hst
  have hy : z_in 0 := by constructor <;> omega
  refine lv_if_ge (tgt := t) C.1 C.2.1 hd ht (fun h => ?_) (fun h => ?_)
  · refine kt ?_ E p l e R s m args below meth c C H locs ls hW hS hL (z_tail hst)
    rw [show (0 : Int32) = Int32.ofInt 0 from rfl] at h
    simp only [ge_iff_le, gt_iff_lt, ne_eq, z_eq hx hy, z_lt hx hy, z_le hx hy, z_lt hy hx, z_le hy hx] at h
    omega
  · refine kf ?_ E p l e R s m args below meth c C H locs ls hW hS hL (z_tail hst)
    rw [show (0 : Int32) = Int32.ofInt 0 from rfl] at h
    simp only [ge_iff_le, gt_iff_lt, ne_eq, z_eq hx hy, z_lt hx hy, z_le hx hy, z_lt hy hx, z_le hy hx] at h
    omega
theorem g_icmp_gt {M : zM} {F : zF} {u pc q : Nat} {al : List (Option zV)} {st : List zV} {S : zS} {x y off : Int} {t : Nat} (hd : decode (m_c M) pc = .ok (.if_icmp .gt off, 3)) (ht : (pc : Int) + off = (t : Int)) (hq : pc + 3 = q) (kt : y < x → z_G M F u t al st S) (kf : x ≤ y → z_G M F u q al st S) : z_G M F u pc al (zI y :: zI x :: st) S := by
  intro E p l e R s m args below meth c C H locs ls hW hS hL hst
  subst hq
  have hy : z_in y := z_top hst
  have hx : z_in x := z_top (z_tail hst)
  refine lv_icmp_gt (tgt := t) C.1 C.2.1 hd ht (fun h => ?_) (fun h => ?_)
  · refine kt ?_ E p l e R s m args below meth c C H locs ls hW hS hL (z_tail (z_tail hst))
    simp only [ge_iff_le, gt_iff_lt, ne_eq, z_eq hx hy, z_lt hx hy, z_le hx hy, z_lt hy hx, z_le hy hx] at h
    omega
  · refine kf ?_ E p l e R s m args below meth c C H locs ls hW hS hL (z_tail (z_tail hst))
    simp only [ge_iff_le, gt_iff_lt, ne_eq, z_eq hx hy, z_lt hx hy, z_le hx hy, z_lt hy hx, z_le hy hx] at h
    omega
theorem g_if_gt {M : zM} {F : zF} {u pc q : Nat} {al : List (Option zV)} {st : List zV} {S : zS} {x off : Int} {t : Nat} (hd : decode (m_c M) pc = .ok (.ifCond .gt off, 3)) (ht : (pc : Int) + off = (t : Int)) (hq : pc + 3 = q) (kt : 0 < x → z_G M F u t al st S) (kf : x ≤ 0 → z_G M F u q al st S) : z_G M F u pc al (zI x :: st) S := by
  intro E p l e R s m args below meth c C H locs ls hW hS hL hst
  subst hq
  have hx : z_in x := z_top hst
  have hy : z_in 0 := by constructor <;> omega
  refine lv_if_gt (tgt := t) C.1 C.2.1 hd ht (fun h => ?_) (fun h => ?_)
  · refine kt ?_ E p l e R s m args below meth c C H locs ls hW hS hL (z_tail hst)
    rw [show (0 : Int32) = Int32.ofInt 0 from rfl] at h
    simp only [ge_iff_le, gt_iff_lt, ne_eq, z_eq hx hy, z_lt hx hy, z_le hx hy, z_lt hy hx, z_le hy hx] at h
    omega
  · refine kf ?_ E p l e R s m args below meth c C H locs ls hW hS hL (z_tail hst)
    rw [show (0 : Int32) = Int32.ofInt 0 from rfl] at h
    simp only [ge_iff_le, gt_iff_lt, ne_eq, z_eq hx hy, z_lt hx hy, z_le hx hy, z_lt hy hx, z_le hy hx] at h
    omega
theorem g_icmp_le {M : zM} {F : zF} {u pc q : Nat} {al : List (Option zV)} {st : List zV} {S : zS} {x y off : Int} {t : Nat} (hd : decode (m_c M) pc = .ok (.if_icmp .le off, 3)) (ht : (pc : Int) + off = (t : Int)) (hq : pc + 3 = q) (kt : x ≤ y → z_G M F u t al st S) (kf : y < x → z_G M F u q al st S) : z_G M F u pc al (zI y :: zI x :: st) S := by
  intro E p l e R s m args below meth c C H locs ls hW hS hL hst
  subst hq
  have hy : z_in y := z_top hst
  have hx : z_in x := z_top (z_tail hst)
  refine lv_icmp_le (tgt := t) C.1 C.2.1 hd ht (fun h => ?_) (fun h => ?_)
  · refine kt ?_ E p l e R s m args below meth c C H locs ls hW hS hL (z_tail (z_tail hst))
    simp only [ge_iff_le, gt_iff_lt, ne_eq, z_eq hx hy, z_lt hx hy, z_le hx hy, z_lt hy hx, z_le hy hx] at h
    omega
  · refine kf ?_ E p l e R s m args below meth c C H locs ls hW hS hL (z_tail (z_tail hst))
    simp only [ge_iff_le, gt_iff_lt, ne_eq, z_eq hx hy, z_lt hx hy, z_le hx hy, z_lt hy hx, z_le hy hx] at h
    omega
theorem g_if_le {M : zM} {F : zF} {u pc q : Nat} {al : List (Option zV)} {st : List zV} {S : zS} {x off : Int} {t : Nat} (hd : decode (m_c M) pc = .ok (.ifCond .le off, 3)) (ht : (pc : Int) + off = (t : Int)) (hq : pc + 3 = q) (kt : x ≤ 0 → z_G M F u t al st S) (kf : 0 < x → z_G M F u q al st S) : z_G M F u pc al (zI x :: st) S := by
  intro E p l e R s m args below meth c C H locs ls hW hS hL hst
  subst hq
  have hx : z_in x := z_top hst
  have hy : z_in 0 := by constructor <;> omega
  refine lv_if_le (tgt := t) C.1 C.2.1 hd ht (fun h => ?_) (fun h => ?_)
  · refine kt ?_ E p l e R s m args below meth c C H locs ls hW hS hL (z_tail hst)
    rw [show (0 : Int32) = Int32.ofInt 0 from rfl] at h
    simp only [ge_iff_le, gt_iff_lt, ne_eq, z_eq hx hy, z_lt hx hy, z_le hx hy, z_lt hy hx, z_le hy hx] at h
    omega
  · refine kf ?_ E p l e R s m args below meth c C H locs ls hW hS hL (z_tail hst)
    rw [show (0 : Int32) = Int32.ofInt 0 from rfl] at h
    simp only [ge_iff_le, gt_iff_lt, ne_eq, z_eq hx hy, z_lt hx hy, z_le hx hy, z_lt hy hx, z_le hy hx] at h
    omega
theorem g_swOut {M : zM} {F : zF} {u pc q : Nat} {al : List (Option zV)} {st : List zV} {S : zS} {x dflt lo hi : Int} {offs : Array Int} {len t : Nat} (hd : decode (m_c M) pc = .ok (.tableswitch dflt lo hi offs, len)) (h : x < lo ∨ hi < x) (ht : (pc : Int) + dflt = (t : Int)) (k : z_G M F u t al st S) : z_G M F u pc al (zI x :: st) S := by
  intro E p l e R s m args below meth c C H locs ls hW hS hL hst
  have hx : z_in x := z_top hst
  refine lv_tableOut C.1 C.2.1 hd (by rw [z_toI hx]; exact h) ht ?_
  exact k E p l e R s m args below meth c C H locs ls hW hS hL (z_tail hst)
theorem g_swIn {M : zM} {F : zF} {u pc q : Nat} {al : List (Option zV)} {st : List zV} {S : zS} {x dflt lo hi off : Int} {offs : Array Int} {len t : Nat} (hd : decode (m_c M) pc = .ok (.tableswitch dflt lo hi offs, len)) (h1 : lo ≤ x) (h2 : x ≤ hi) (ho : offs[(x - lo).toNat]? = some off) (ht : (pc : Int) + off = (t : Int)) (k : z_G M F u t al st S) : z_G M F u pc al (zI x :: st) S := by
  intro E p l e R s m args below meth c C H locs ls hW hS hL hst
  have hx : z_in x := z_top hst
  refine lv_tableIn C.1 C.2.1 hd (by rw [z_toI hx]; omega) (by rw [z_toI hx]; omega) (by rw [z_toI hx]; exact ho) ht ?_
  exact k E p l e R s m args below meth c C H locs ls hW hS hL (z_tail hst)
end
section
/-! ===== RULES: fields, arrays, ends ===== -/
theorem z_big_in {w : Cond} (h : w ∈ z_big) : w ∈ lw_tbl := (List.mem_filter.mp h).1
theorem z_big_good {w : Cond} (h : w ∈ z_big) : goodWord w = true := (List.mem_filter.mp h).2
theorem z_big_of {w : Cond} (h : w ∈ lw_tbl) (g : goodWord w = true) : w ∈ z_big := List.mem_filter.mpr ⟨h, g⟩
theorem z_goodIn {L : List Cond} (h : ∀ w ∈ L, w ∈ z_big) : GoodIn z_big L := fun w hw => ⟨h w hw, good_of_word (z_big_good (h w hw))⟩
/-- own's link ix is to field sl of class ci -/
def z_fk (own : String) (ix ci sl : Nat) : Prop := ∃ (C : String) (T : u_T) (N : Nat), vwCl[ci]? = some (C, T, N) ∧ sl < N ∧ (∀ w ∈ u_ws C T N, w ∈ z_big) ∧ Cond.fieldLink own ix C (T sl).2.1 (T sl).2.2.1 ∈ z_big ∧ (T sl).1 = C
/-- field sl of class ci is an int that may be written -/
def z_fp (ci sl : Nat) : Prop := ∃ (C : String) (T : u_T) (N : Nat) (ty : Nat → FieldType), vwCl[ci]? = some (C, T, N) ∧ (∀ k, k < N → parseFieldDescriptor (T k).2.2.1 = some (ty k)) ∧ (∀ a, a < N → ∀ b, b < N → a ≠ b → (T a).2.1 ≠ (T b).2.1) ∧ (T sl).2.2.2 = false ∧ parseFieldDescriptor (T sl).2.2.1 = some .int
theorem z_obj_lt {o : Nat} {q : Nat × List (Nat ⊕ Nat)} (h : z_obj o = some q) : o < 49 := by
  by_cases g : o < 8
  · omega
  · exfalso
    have hn : z_obj o = none := by
      unfold z_obj
      split <;> first | rfl | omega
    rw [hn] at h
    cases h
theorem z_cell_obj {ad : Nat → Nat} {cy : Nat → ClassId} {S : zS} {o ci : Nat} {fl : List (Nat ⊕ Nat)} (ho : z_obj o = some (ci, fl)) : z_cell ad cy S o = .inr (ci, fl.map (z_fv ad S)) := by
  unfold z_cell
  rw [ho]
theorem z_cell_arr {ad : Nat → Nat} {cy : Nat → ClassId} {S : zS} {o : Nat} {t : Nat × Nat} (ho : z_obj o = none) (ha : z_arr o = t) : z_cell ad cy S o = z_av ad cy S o t := by
  unfold z_cell
  rw [ho]
  show z_av _ _ _ _ _ = _
  rw [ha]
section
variable {M : zM} {F : zF} {u pc q : Nat} {al : List (Option zV)} {st : List zV} {S : zS}
theorem g_getr {ix o ci sl r : Nat} {fl : List (Nat ⊕ Nat)} (hd : decode (m_c M) pc = .ok (.getfield ix, 3)) (hq : pc + 3 = q) (hk : z_fk (m_y M).cls ix ci sl) (ho : z_obj o = some (ci, fl)) (hf : fl[sl]? = some (.inl r)) (k : z_G M F u q al (zR r :: st) S) : z_G M F u pc al (zR o :: st) S := by
  intro E p l e R s m args below meth c C H locs ls hW hS hL hst
  subst hq
  obtain ⟨Cn, T, N, h1, h2, h3, h4, h5⟩ := hk
  have he : (z_w E S)[o]? = some (e_ad E o, .inr (ci, fl.map (z_fv (e_ad E) S))) := by rw [z_wl_get (z_obj_lt ho), z_cell_obj ho]
  refine va_get (ref := Cn) C.1 C.2.1 C.2.2.2.2.2.1 h3 C.2.2.2.2.1 hW.2.1 hW.1 o he h1 sl h2 (C.2.2.2.2.2.1 _ h4) (fun x hx => by rw [h5] at hx; exact hx) (v := .ref (e_ad E r)) (by rw [List.getElem?_map, hf]; rfl) hd ?_
  exact k E p l e R s m args below meth c C H locs ls hW hS hL (z_cons trivial (z_tail hst))
theorem g_geti {ix o ci sl i : Nat} {fl : List (Nat ⊕ Nat)} (hd : decode (m_c M) pc = .ok (.getfield ix, 3)) (hq : pc + 3 = q) (hk : z_fk (m_y M).cls ix ci sl) (ho : z_obj o = some (ci, fl)) (hf : fl[sl]? = some (.inr i)) (k : z_G M F u q al (zI (S.1 i) :: st) S) : z_G M F u pc al (zR o :: st) S := by
  intro E p l e R s m args below meth c C H locs ls hW hS hL hst
  subst hq
  obtain ⟨Cn, T, N, h1, h2, h3, h4, h5⟩ := hk
  have he : (z_w E S)[o]? = some (e_ad E o, .inr (ci, fl.map (z_fv (e_ad E) S))) := by rw [z_wl_get (z_obj_lt ho), z_cell_obj ho]
  refine va_get (ref := Cn) C.1 C.2.1 C.2.2.2.2.2.1 h3 C.2.2.2.2.1 hW.2.1 hW.1 o he h1 sl h2 (C.2.2.2.2.2.1 _ h4) (fun x hx => by rw [h5] at hx; exact hx) (v := .int (Int32.ofInt (S.1 i))) (by rw [List.getElem?_map, hf]; rfl) hd ?_
  exact k E p l e R s m args below meth c C H locs ls hW hS hL (z_cons (hW.2.2.2.2.2.1 i) (z_tail hst))
theorem g_put {ix o ci sl i : Nat} {z : Int} {fl : List (Nat ⊕ Nat)} (hd : decode (m_c M) pc = .ok (.putfield ix, 3)) (hq : pc + 3 = q) (hk : z_fk (m_y M).cls ix ci sl) (hp : z_fp ci sl) (ho : z_obj o = some (ci, fl)) (hf : fl[sl]? = some (.inr i)) (k : z_G M F u q al st (z_sS S i z)) : z_G M F u pc al (zI z :: zR o :: st) S := by
  intro E p l e R s m args below meth c C H locs ls hW hS hL hst
  subst hq
  obtain ⟨Cn, T, N, h1, h2, h3, h4, h5⟩ := hk
  obtain ⟨C', T', N', ty, g1, g2, g3, g4, g5⟩ := hp
  cases h1.symm.trans g1
  have h64 := z_obj_lt ho
  have hl := (List.getElem?_eq_some_iff.mp hf).1
  have hh : z_home i = (o, sl) := z_homes o h64 _ ho sl hl i hf
  have he : (z_w E S)[o]? = some (e_ad E o, .inr (ci, fl.map (z_fv (e_ad E) S))) := by rw [z_wl_get h64, z_cell_obj ho]
  have hset : (z_w E S).set o (e_ad E o, .inr (ci, (fl.map (z_fv (e_ad E) S)).set sl (.int (Int32.ofInt z)))) = z_w E (z_sS S i z) := z_wl_set h64 (z_cell_sS_at h64 hh ho hf) (z_cell_sS hh)
  refine va_put (ref := Cn) (v := .int (Int32.ofInt z)) C.1 C.2.1 C.2.2.2.2.2.1 h3 ty g2 g3 C.2.2.2.2.1 hW.2.1 hW.1 hW.2.2.1 hS o he h1 sl h2 (C.2.2.2.2.2.1 _ h4) (fun x hx => by rw [h5] at hx; exact hx) g4 g5 rfl rfl (by rw [List.length_map]; exact hl) hd (fun H1 locs1 hP1 hD1 hS1 => ?_)
  rw [hset] at hP1 hD1
  refine k E p l e R s m args below meth c C H1 locs1 ls ⟨hP1, hW.2.1, hD1, ?_, ⟨Nat.le_trans C.2.2.2.2.2.2.2.2.2.2.1 hS1.1, hW.2.2.2.2.1.2⟩, z_okS_s hW.2.2.2.2.2 (z_top hst)⟩ hS1 hL (z_tail (z_tail hst))
  exact C.2.2.2.2.2.2.2.2.2.2.2.2.kept C.2.2.2.2.2.2.2.2.2.2.1 hW.2.2.2.2.1.2.1 hS1.2.1
theorem g_iald {o n : Nat} {i : Int} (hd : decode (m_c M) pc = .ok (.iaload, 1)) (hq : pc + 1 = q) (ho : o < 49 ∧ z_obj o = none ∧ z_arr o = (0, n)) (h0 : 0 ≤ i) (h1 : i < n) (k : z_G M F u q al (zI (S.2.1 o i) :: st) S) : z_G M F u pc al (zI i :: zR o :: st) S := by
  intro E p l e R s m args below meth c C H locs ls hW hS hL hst
  subst hq
  have hi : z_in i := z_top hst
  have he : (z_w E S)[o]? = some (e_ad E o, .inl (e_cy E 0, n, .inl (fun j => Int32.ofInt (S.2.1 o j)))) := by rw [z_wl_get ho.1, z_cell_arr ho.2.1 ho.2.2]; rfl
  refine va_iald C.1 C.2.1 hW.2.1 hW.1 o 0 he rfl (z_vin hi h0 h1) hd ?_
  rw [z_clamp hi, show ((i.toNat : Nat) : Int) = i by omega]
  exact k E p l e R s m args below meth c C H locs ls hW hS hL (z_cons (hW.2.2.2.2.2.2.1 o i) (z_tail (z_tail hst)))
theorem g_zald {o n : Nat} {i : Int} (hd : decode (m_c M) pc = .ok (.baload, 1)) (hq : pc + 1 = q) (ho : o < 49 ∧ z_obj o = none ∧ z_arr o = (1, n)) (h0 : 0 ≤ i) (h1 : i < n) (k : z_G M F u q al (zI (S.2.1 o i) :: st) S) : z_G M F u pc al (zI i :: zR o :: st) S := by
  intro E p l e R s m args below meth c C H locs ls hW hS hL hst
  subst hq
  have hi : z_in i := z_top hst
  have he : (z_w E S)[o]? = some (e_ad E o, .inl (e_cy E 1, n, .inl (fun j => Int32.ofInt (S.2.1 o j)))) := by rw [z_wl_get ho.1, z_cell_arr ho.2.1 ho.2.2]; rfl
  refine va_zald C.1 C.2.1 hW.2.1 hW.1 o 1 he rfl (z_vin hi h0 h1) hd ?_
  rw [z_clamp hi, show ((i.toNat : Nat) : Int) = i by omega]
  exact k E p l e R s m args below meth c C H locs ls hW hS hL (z_cons (hW.2.2.2.2.2.2.1 o i) (z_tail (z_tail hst)))
theorem g_aald {i : Int} (hd : decode (m_c M) pc = .ok (.aaload, 1)) (hq : pc + 1 = q) (h0 : 0 ≤ i) (h1 : i < 6) (k : z_G M F u q al (zR (30 + i.toNat) :: st) S) : z_G M F u pc al (zI i :: zR 29 :: st) S := by
  intro E p l e R s m args below meth c C H locs ls hW hS hL hst
  subst hq
  have hi : z_in i := z_top hst
  have he : (z_w E S)[29]? = some (e_ad E 29, .inl (e_cy E 2, 6, .inr (.inr (.inr (.inr (fun j => if j < 6 then some (e_ad E (30 + j)) else none)))))) := by rw [z_wl_get (by omega)]; rfl
  have hin := z_vin (n := 6) hi h0 h1
  have ha := hW.2.1.2 2 _ rfl
  refine W.aald (v := .ref (e_ad E (30 + i.toNat))) (ty := .array .int) C.1 C.2.1 (hW.1 29 _ he) (ha.1 6 (fun j => va_rf (if j < 6 then some (e_ad E (30 + j)) else none))) rfl (fun q => by cases q) (by show ¬ (_ ∨ (arrV _ _ _).slots.size ≤ _); rw [arrV_size]; exact hin) ?_ rfl rfl hd ?_
  · show (arrV _ _ _).slots[_]? = _
    rw [z_clamp hi, arrV_read _ _ (show i.toNat < 6 by omega)]
    show some (va_rf (if i.toNat < 6 then some (e_ad E (30 + i.toNat)) else none)) = _
    rw [if_pos (show i.toNat < 6 by omega)]
    rfl
  · exact k E p l e R s m args below meth c C H locs ls hW hS hL (z_cons trivial (z_tail (z_tail hst)))
theorem g_alen {o a n : Nat} (hd : decode (m_c M) pc = .ok (.arraylength, 1)) (hq : pc + 1 = q) (ho : o < 49 ∧ z_obj o = none ∧ z_arr o = (0, n)) (hn : (n : Int) < 10000) (k : z_G M F u q al (zI n :: st) S) : z_G M F u pc al (zR o :: st) S := by
  intro E p l e R s m args below meth c C H locs ls hW hS hL hst
  subst hq
  have he : (z_w E S)[o]? = some (e_ad E o, .inl (e_cy E 0, n, .inl (fun j => Int32.ofInt (S.2.1 o j)))) := by rw [z_wl_get ho.1, z_cell_arr ho.2.1 ho.2.2]; rfl
  refine va_alen C.1 C.2.1 hW.2.1 hW.1 o 0 he (ty := .int) rfl (v := Int32.ofInt (n : Int)) (Int32.ofInt_eq_ofNat (n := n)).symm hd ?_
  exact k E p l e R s m args below meth c C H locs ls hW hS hL (z_cons ⟨by omega, by omega⟩ (z_tail hst))
theorem z_world {E : zE} {p : Program} {l : Launch} {R : Room} {s : State} {m : MethodId} {args : Array Value} {meth : Method} {c : Code} {H H1 : Heap} {locs1 : List Loc} {S' : zS} (C : z_Cx E M F p l R s m args meth c) (hW : z_wd E S s H) (hP1 : va_P (e_D E) vwCl (z_w E S') H1) (hD1 : va_D (z_A E) (z_w E S')) (hS1 : va_S (z_A E) s.heap H1 locs1) (hok : z_okS S') : z_wd E S' s H1 :=
  ⟨hP1, hW.2.1, hD1, C.2.2.2.2.2.2.2.2.2.2.2.2.kept C.2.2.2.2.2.2.2.2.2.2.1 hW.2.2.2.2.1.2.1 hS1.2.1, ⟨Nat.le_trans C.2.2.2.2.2.2.2.2.2.2.1 hS1.1, hW.2.2.2.2.1.2⟩, hok⟩
theorem g_iast {o n : Nat} {i v : Int} (hd : decode (m_c M) pc = .ok (.iastore, 1)) (hq : pc + 1 = q) (ho : o < 49 ∧ z_obj o = none ∧ z_arr o = (0, n)) (h0 : 0 ≤ i) (h1 : i < n) (k : z_G M F u q al st (z_sA S o i v)) : z_G M F u pc al (zI v :: zI i :: zR o :: st) S := by
  intro E p l e R s m args below meth c C H locs ls hW hS hL hst
  subst hq
  have hv : z_in v := z_top hst
  have hi : z_in i := z_top (z_tail hst)
  have he : (z_w E S)[o]? = some (e_ad E o, .inl (e_cy E 0, n, .inl (fun j => Int32.ofInt (S.2.1 o j)))) := by rw [z_wl_get ho.1, z_cell_arr ho.2.1 ho.2.2]; rfl
  refine va_iast C.1 C.2.1 hW.2.1 hW.1 hW.2.2.1 hS o 0 he rfl (z_vin hi h0 h1) hd (fun H1 locs1 hP1 hD1 hS1 => ?_)
  rw [z_clamp hi, z_wl_set ho.1 (z_cell_sA_0 ho.2.1 ho.2.2 h0) z_cell_sA] at hP1 hD1
  exact k E p l e R s m args below meth c C H1 locs1 ls (z_world C hW hP1 hD1 hS1 (z_okS_a hW.2.2.2.2.2 hv)) hS1 hL (z_tail (z_tail (z_tail hst)))
theorem z_bool {v : Int} (h : v = 0 ∨ v = 1) : vp_nar .boolean (Int32.ofInt v) = Int32.ofInt v := by
  rcases h with rfl | rfl <;> decide
theorem g_zast {o n : Nat} {i v : Int} (hd : decode (m_c M) pc = .ok (.bastore, 1)) (hq : pc + 1 = q) (ho : o < 49 ∧ z_obj o = none ∧ z_arr o = (1, n)) (h0 : 0 ≤ i) (h1 : i < n) (hb : v = 0 ∨ v = 1) (k : z_G M F u q al st (z_sA S o i v)) : z_G M F u pc al (zI v :: zI i :: zR o :: st) S := by
  intro E p l e R s m args below meth c C H locs ls hW hS hL hst
  subst hq
  have hv : z_in v := z_top hst
  have hi : z_in i := z_top (z_tail hst)
  have he : (z_w E S)[o]? = some (e_ad E o, .inl (e_cy E 1, n, .inl (fun j => Int32.ofInt (S.2.1 o j)))) := by rw [z_wl_get ho.1, z_cell_arr ho.2.1 ho.2.2]; rfl
  refine va_zast C.1 C.2.1 hW.2.1 hW.1 hW.2.2.1 hS o 1 he rfl (z_vin hi h0 h1) hd (fun H1 locs1 hP1 hD1 hS1 => ?_)
  rw [z_bool hb, z_clamp hi, z_wl_set ho.1 (z_cell_sA_1 ho.2.1 ho.2.2 h0) z_cell_sA] at hP1 hD1
  exact k E p l e R s m args below meth c C H1 locs1 ls (z_world C hW hP1 hD1 hS1 (z_okS_a hW.2.2.2.2.2 hv)) hS1 hL (z_tail (z_tail (z_tail hst)))
theorem g_last {i z : Int} (hd : decode (m_c M) pc = .ok (.lastore, 1)) (hq : pc + 1 = q) (h0 : 0 ≤ i) (h1 : i < 6) (k : z_G M F u q al st (z_sL S i z)) : z_G M F u pc al (zL z :: zI i :: zR 48 :: st) S := by
  intro E p l e R s m args below meth c C H locs ls hW hS hL hst
  subst hq
  have hv : z_inL z := z_top hst
  have hi : z_in i := z_top (z_tail hst)
  have he : (z_w E S)[48]? = some (e_ad E 48, .inl (e_cy E 3, 6, .inr (.inl (fun j => Int64.ofInt (S.2.2 j))))) := by rw [z_wl_get (by omega)]; rfl
  refine va_last C.1 C.2.1 hW.2.1 hW.1 hW.2.2.1 hS 48 3 he rfl (z_vin hi h0 h1) hd (fun H1 locs1 hP1 hD1 hS1 => ?_)
  rw [z_clamp hi, z_wl_set (by omega) (z_cell_sL_at h0) z_cell_sL] at hP1 hD1
  exact k E p l e R s m args below meth c C H1 locs1 ls (z_world C hW hP1 hD1 hS1 (z_okS_l hW.2.2.2.2.2 hv)) hS1 hL (z_tail (z_tail (z_tail hst)))
theorem g_lald {i : Int} (hd : decode (m_c M) pc = .ok (.laload, 1)) (hq : pc + 1 = q) (h0 : 0 ≤ i) (h1 : i < 6) (k : z_G M F u q al (zL (S.2.2 i) :: st) S) : z_G M F u pc al (zI i :: zR 48 :: st) S := by
  intro E p l e R s m args below meth c C H locs ls hW hS hL hst
  subst hq
  have hi : z_in i := z_top hst
  have he : (z_w E S)[48]? = some (e_ad E 48, .inl (e_cy E 3, 6, .inr (.inl (fun j => Int64.ofInt (S.2.2 j))))) := by rw [z_wl_get (by omega)]; rfl
  refine va_lald C.1 C.2.1 hW.2.1 hW.1 48 3 he rfl (i := Int32.ofInt i) (z_vin hi h0 h1) hd ?_
  rw [z_clamp hi, show ((i.toNat : Nat) : Int) = i by omega]
  exact k E p l e R s m args below meth c C H locs ls hW hS hL (z_cons (hW.2.2.2.2.2.2.2 i) (z_tail (z_tail hst)))
-- ends
theorem g_ret {Q : zQ} {z : Int} (hd : decode (m_c M) pc = .ok (.ireturn, 1)) (hr : m_r M = some .int) (hu : u ≤ m_u M) (hQ : Q (.ok (some (zI z))) S) : z_G M (z_F M Q) u pc al [zI z] S := by
  intro E p l e R s m args below meth c C H locs ls hW hS hL hst
  refine W.widen (k := m_u M) (n := 6 * m_u M) (by show 0 + u ≤ _; omega) (by show 0 + 6 * u ≤ _; omega) (vx_ret ?_)
  exact W.iret (v := Int32.ofInt z) C.1 C.2.1 (C.2.2.2.1.trans hr) (fun t ht hw => ⟨⟨some (zI z), S, rfl, hQ, fun v hv => by cases hv; exact z_top hst, by rw [ht]; exact hW.moved hw.alike⟩, by rw [va_F, ht]; exact ⟨hS.1, hS.2.1⟩⟩) hS.2.2 hd C.2.2.2.2.2.2.1
theorem g_retz {Q : zQ} {z : Int} (hd : decode (m_c M) pc = .ok (.ireturn, 1)) (hr : m_r M = some .boolean) (hb : z = 0 ∨ z = 1) (hu : u ≤ m_u M) (hQ : Q (.ok (some (zI z))) S) : z_G M (z_F M Q) u pc al [zI z] S := by
  intro E p l e R s m args below meth c C H locs ls hW hS hL hst
  refine W.widen (k := m_u M) (n := 6 * m_u M) (by show 0 + u ≤ _; omega) (by show 0 + 6 * u ≤ _; omega) (vx_ret ?_)
  exact W.zret (v := Int32.ofInt z) (ty := .boolean) C.1 C.2.1 (C.2.2.2.1.trans hr) (by rcases hb with rfl | rfl <;> decide) (fun t ht hw => ⟨⟨some (zI z), S, rfl, hQ, fun v hv => by cases hv; exact z_top hst, by rw [ht]; exact hW.moved hw.alike⟩, by rw [va_F, ht]; exact ⟨hS.1, hS.2.1⟩⟩) hS.2.2 hd C.2.2.2.2.2.2.1
theorem g_retv {Q : zQ} (hd : decode (m_c M) pc = .ok (.return_, 1)) (hr : m_r M = none) (hu : u ≤ m_u M) (hQ : Q (.ok none) S) : z_G M (z_F M Q) u pc al [] S := by
  intro E p l e R s m args below meth c C H locs ls hW hS hL hst
  refine W.widen (k := m_u M) (n := 6 * m_u M) (by show 0 + u ≤ _; omega) (by show 0 + 6 * u ≤ _; omega) (vx_ret ?_)
  exact W.vret C.1 C.2.1 (C.2.2.2.1.trans hr) (fun t ht hw => ⟨⟨none, S, rfl, hQ, (fun v hv => by cases hv), by rw [ht]; exact hW.moved hw.alike⟩, by rw [va_F, ht]; exact ⟨hS.1, hS.2.1⟩⟩) hS.2.2 hd C.2.2.2.2.2.2.1
theorem g_retL {Q : zQ} {z : Int} (hd : decode (m_c M) pc = .ok (.lreturn, 1)) (hr : m_r M = some .long) (hu : u ≤ m_u M) (hQ : Q (.ok (some (zL z))) S) : z_G M (z_F M Q) u pc al [zL z] S := by
  intro E p l e R s m args below meth c C H locs ls hW hS hL hst
  refine W.widen (k := m_u M) (n := 6 * m_u M) (by show 0 + u ≤ _; omega) (by show 0 + 6 * u ≤ _; omega) (vx_ret ?_)
  exact W.lret (v := Int64.ofInt z) C.1 C.2.1 (C.2.2.2.1.trans hr) (fun t ht hw => ⟨⟨some (zL z), S, rfl, hQ, fun v hv => by cases hv; exact z_top hst, by rw [ht]; exact hW.moved hw.alike⟩, by rw [va_F, ht]; exact ⟨hS.1, hS.2.1⟩⟩) hS.2.2 hd C.2.2.2.2.2.2.1
end
end
section
/-! ===== RULES: calls, throws, a method from its entry ===== -/
/-- a method, called by invokevirtual from own by its link ix, its receiver of class ci -/
def z_vk (own : String) (ix ci n : Nat) (M : zM) : Prop := ∃ (T : u_T) (N : Nat), vwCl[ci]? = some ((m_y M).cls, T, N) ∧ (∀ w ∈ ([.methodLink own ix (m_y M), .instanceMethod (m_y M), .selects (m_y M).cls (m_y M) (m_y M), .initialized (m_y M).cls, .code (m_y M) (m_c M) (m_l M) (m_r M)] : List Cond), w ∈ z_big) ∧
  ((m_y M).cls ≠ "java/lang/invoke/MethodHandle" ∧ (m_y M).cls ≠ "java/lang/invoke/VarHandle" ∧ (parseMethodDescriptor (m_y M).desc).map (fun d => d.parameters.length) = some n)
def z_sk (own : String) (ix n : Nat) (M : zM) : Prop := (∀ w ∈ ([.methodLink own ix (m_y M), .static (m_y M), .initialized (m_y M).cls, .code (m_y M) (m_c M) (m_l M) (m_r M)] : List Cond), w ∈ z_big) ∧
  ((m_y M).cls ≠ "java/lang/invoke/MethodHandle" ∧ (m_y M).cls ≠ "java/lang/invoke/VarHandle" ∧ (parseMethodDescriptor (m_y M).desc).map (fun d => d.parameters.length) = some n)
theorem z_Pc_blind {E : zE} {args : List zV} {S : zS} : FrameBlind (z_Pc E args S) := by
  intro a U g mk h
  obtain ⟨h1, h2, h3, h4⟩ := h
  exact ⟨h1, z_wd.moved (u := U) (U := U.calling g mk a) (Vm.Alike.refl U.vm) h2, z_sw.warm (s := U) (U := U.calling g mk a) (State.WarmedH.refl U) h3, h4⟩
theorem z_Pc_of {E : zE} {args : List zV} {S : zS} {s : State} {H : Heap} (hW : z_wd E S s H) (hs : z_sw s) (hok : ∀ v ∈ args, z_ok v) : ∀ U : State, U.heap = H → s.WarmedH U.vm → z_Pc E args S (args.map (z_tv (e_ad E))).toArray U := by
  intro U hU hw
  refine ⟨rfl, ?_, hs.warm hw, hok⟩
  rw [hU]
  exact hW.moved hw.alike
section
variable {p : Program} {l : Launch} {e : Env} {R : Room} {s : State} {m : MethodId} {args : Array Value} {below : List Frame} {meth : Method} {c : Code} {H : Heap} {locs : List Loc} {cells slots : Nat} {Q : State → Prop}
/-- what a call gives, for its caller -/
theorem z_run {mc ms pc : Nat} {E : zE} {ls : Array Slot} {st0 rest : List Value} {a : Array Value} {Q' : zQ} (hr : vx_Run p l e R s m args below meth c H locs cells slots mc ms (F0 m pc ls st0) rest (z_Qc E Q' a) (z_XC E Q') (z_A E)) (hS : va_S (z_A E) s.heap H locs)
    (kx : ∀ (X : String) (ce : Cell) (q9 : Addr) (S' : zS) (H1 : Heap) (locs1 : List Loc), Q' (.error X) S' → z_wd E S' s H1 → va_S (z_A E) s.heap H1 locs1 → H1[q9]? = some ce → ce.vm = .none → s.vm.findClass X = some ce.cls → vx_W p l e R s m args below meth c H1 locs1 (cells + mc) (slots + ms) Q (F0 m pc ls rest) q9)
    (kk : ∀ (r : Option zV) (S' : zS) (H1 : Heap) (locs1 : List Loc), Q' (.ok r) S' → (∀ v, r = some v → z_ok v) → z_wd E S' s H1 → va_S (z_A E) s.heap H1 locs1 → W p l e R s m args below meth c H1 locs1 (cells + mc) (slots + ms) Q (F0 m (pc + 3) ls ((r.map (z_tv (e_ad E))).toList ++ rest))) : W p l e R s m args below meth c H locs cells slots Q (F0 m pc ls st0) := by
  intro T hT X
  rcases hr T hT X with ⟨v, st₀, t, T', L, h0, X', hL, e1, e2, ⟨⟨r, S', hv, hq, hrok, hw⟩, hF⟩, stp⟩ | ⟨q, st₀, t, T', L, Ex, ce, h0, X', hL, e1, e2, ⟨S', hq, hw, hF⟩, hce, hcv, hcl, stp⟩
  · cases hv
    obtain ⟨k1, k2, k3⟩ := vx_keep h0 e1 hS (fun q _ h => h) (fun q h => h) hL hF
    have hw1 : z_wd E S' s T'.heap := by
      rw [e1]
      exact hw.moved (by rw [← e2]; exact X'.warmed.alike.symm)
    obtain ⟨t2, a1, b1⟩ := kk r S' T'.heap (locs ++ L) hq hrok hw1 k3 T' rfl X'
    exact ⟨t2, stp t2 a1, b1⟩
  · obtain ⟨k1, k2, k3⟩ := vx_keep h0 e1 hS (fun q _ h => h) (fun q h => h) hL hF
    have hw1 : z_wd E S' s T'.heap := by
      rw [e1]
      exact hw.moved (by rw [← e2]; exact X'.warmed.alike.symm)
    obtain ⟨t2, a1, b1⟩ := kx Ex ce q S' T'.heap (locs ++ L) hq hw1 k3 (by rw [e1]; exact hce) hcv hcl T' rfl X'
    exact ⟨t2, stp.trans a1, b1⟩
end
/-- thrown in a method's body at pc -/
def z_GX (M : zM) (F : zF) (u pc : Nat) (al : List (Option zV)) (X : String) (S : zS) : Prop :=
  ∀ (E : zE) (p : Program) (l : Launch) (e : Env) (R : Room) (s : State) (m : MethodId) (args : Array Value) (below : List Frame) (meth : Method) (c : Code), z_Cx E M F p l R s m args meth c →
    ∀ (H : Heap) (locs : List Loc) (ls : Array Slot) (rest : List Value) (ce : Cell) (q9 : Addr), z_wd E S s H → va_S (z_A E) s.heap H locs → z_lok (e_ad E) (m_l M) (m_w M) al ls → H[q9]? = some ce → ce.vm = .none → s.vm.findClass X = some ce.cls →
      vx_W p l e R s m args below meth c H locs (F.2.1 + u) (F.2.2 + 6 * u) (F.1 E below args s) (F0 m pc ls rest) q9
/-- out of a method without handlers -/
theorem gx_out {M : zM} {u pc : Nat} {al : List (Option zV)} {X : String} {S : zS} {Q : zQ} (hh : m_h M = []) (hu : u ≤ m_u M) (hQ : Q (.error X) S) : z_GX M (z_F M Q) u pc al X S := by
  intro E p l e R s m args below meth c C H locs ls rest ce q9 hW hS hL hce hcv hcl
  have htab : ∀ x ∈ c.exceptionTable.toList, covers x pc = false := by
    have h1 := C.2.2.2.2.2.2.2.1
    unfold z_tab at h1
    rw [hh] at h1
    intro x hx
    rw [List.map_eq_nil_iff.mp h1] at hx
    cases hx
  refine vx_out htab C.2.2.2.2.2.2.1 hce hcv hcl (fun t ht hv => ⟨S, hQ, by rw [ht]; exact hW.moved hv, by rw [va_F, ht]; exact ⟨hS.1, hS.2.1⟩⟩) hS.2.2 (by show 0 + u ≤ _; omega) (by show 0 + 6 * u ≤ _; omega)
def z_ca (st : List zV) : Prop := st.length ≤ 4
theorem z_ca_sum {ad : Nat → Nat} {st : List zV} (h : st.length ≤ 4) : ((st.map (z_tv ad)).map fun v => v.category).sum ≤ 8 := by
  have h1 : ∀ st : List zV, ((st.map (z_tv ad)).map fun v => v.category).sum ≤ 2 * st.length := by
    intro st
    induction st with
    | nil => exact Nat.le_refl _
    | cons v st ih =>
      have h2 : (z_tv ad v).category ≤ 2 := by rcases v with z | k | z <;> simp [z_tv, Value.category]
      simp only [List.map_cons, List.sum_cons, List.length_cons]
      omega
  have := h1 st
  omega
section
variable {M M' : zM} {F : zF} {u pc q ix : Nat} {al : List (Option zV)} {st : List zV} {S : zS}
theorem g_callV {Q' : zQ} {o ci n : Nat} {fl : List (Nat ⊕ Nat)} {as st0 : List zV} (hd : decode (m_c M) pc = .ok (.invokevirtual ix, 3)) (hq : pc + 3 = q) (hm : z_vk (m_y M).cls ix ci n M') (ho : z_obj o = some (ci, fl)) (hn : as.length = n) (hs0 : st0 = as.reverse ++ zR o :: st) (hst4 : st.length ≤ 4)
    (hR : m_F M' + 1 ≤ m_F M ∧ 8 + (m_l M' + 11) + m_L M' ≤ m_L M) (hu : u + m_u M' ≤ m_u M) (sp : z_Sp M' (zR o :: as) S Q') (kx : ∀ X S', Q' (.error X) S' → z_GX M F (u + m_u M') pc al X S') (k : ∀ r S', Q' (.ok r) S' → z_G M F (u + m_u M') q al (r.toList ++ st) S') : z_G M F u pc al st0 S := by
  intro E p l e R s m args below meth c C H locs ls hW hS hL hst
  subst hq
  subst hs0
  obtain ⟨hx, hb, hml, hret, hown, hts, hlocks, htab, ⟨hRF, hRL, hRc, hRs⟩, hflag, hbase, hsw, hst9⟩ := id C
  obtain ⟨T, N, hcl, hws, hd1, hd2, hd3⟩ := hm
  have he : (z_w E S)[o]? = some (e_ad E o, .inr (ci, fl.map (z_fv (e_ad E) S))) := by rw [z_wl_get (z_obj_lt ho), z_cell_obj ho]
  have hG : GoodIn z_big (wsV (m_y M).cls ix (m_y M').cls (m_y M') (.code (m_y M') (m_c M') (m_l M') (m_r M') :: z_big)) := z_goodIn (fun w hw => by
    simp only [wsV, List.cons_append, List.nil_append, List.mem_cons] at hw
    rcases hw with rfl | rfl | rfl | rfl | rfl | hw
    · exact hws _ (by simp)
    · exact hws _ (by simp)
    · exact hws _ (by simp)
    · exact hws _ (by simp)
    · exact hws _ (by simp)
    · exact hw)
  refine z_run (Q' := Q') (vx_runV (As := as.map (z_tv (e_ad E))) (rest := st.map (z_tv (e_ad E))) (b := e_ad E o) ⟨hx, hb, hml, hown, hts⟩ (sp l E hflag) (cwV n hts hG rfl rfl rfl ⟨rfl, hd1, hd2, hd3⟩ (by rw [hRF, hRL]; exact hR)) ⟨z_Pc_blind, va_recv hW.2.1 hW.1 hcl he, z_Pc_of hW hsw (fun v hv => by
    rcases List.mem_cons.mp hv with rfl | hv
    · trivial
    · exact hst v (List.mem_append_left _ (List.mem_reverse.mpr hv)))⟩ rfl (by rw [List.length_map]; exact hn) (hL.1) (by show List.map _ _ = _; simp [List.map_append, List.map_reverse, z_tv]) (lv_room (z_ca_sum hst4)) hd ⟨by omega, by omega⟩) hS (fun X ce q9 S' H1 locs1 hq hw1 hs1 hce hcv hcl => ?_) (fun r S' H1 locs1 hq hrok hw1 hs1 => ?_)
  · have h := kx X S' hq E p l e R s m args below meth c C H1 locs1 ls (st.map (z_tv (e_ad E))) ce q9 hw1 hs1 hL hce hcv hcl
    rw [show F.2.1 + u + m_u M' = F.2.1 + (u + m_u M') by omega, show F.2.2 + 6 * u + 6 * m_u M' = F.2.2 + 6 * (u + m_u M') by omega]
    exact h
  · have h := k r S' hq E p l e R s m args below meth c C H1 locs1 ls hw1 hs1 hL (by
      intro v hv
      rcases List.mem_append.mp hv with hv | hv
      · exact hrok v (by cases r with
          | none => cases hv
          | some x =>
            rcases List.mem_singleton.mp hv with rfl
            rfl)
      · exact hst v (List.mem_append_right _ (List.mem_cons_of_mem _ hv)))
    rw [show F.2.1 + u + m_u M' = F.2.1 + (u + m_u M') by omega, show F.2.2 + 6 * u + 6 * m_u M' = F.2.2 + 6 * (u + m_u M') by omega]
    rw [List.map_append] at h
    rw [show (r.map (z_tv (e_ad E))).toList = r.toList.map (z_tv (e_ad E)) by cases r <;> rfl]
    exact h
theorem g_callS {Q' : zQ} {n : Nat} {as st0 : List zV} (hd : decode (m_c M) pc = .ok (.invokestatic ix, 3)) (hq : pc + 3 = q) (hm : z_sk (m_y M).cls ix n M') (hn : as.length = n) (hs0 : st0 = as.reverse ++ st) (hst4 : st.length ≤ 4)
    (hR : m_F M' + 1 ≤ m_F M ∧ 8 + (m_l M' + 11) + m_L M' ≤ m_L M) (hu : u + m_u M' ≤ m_u M) (sp : z_Sp M' as S Q') (kx : ∀ X S', Q' (.error X) S' → z_GX M F (u + m_u M') pc al X S') (k : ∀ r S', Q' (.ok r) S' → z_G M F (u + m_u M') q al (r.toList ++ st) S') : z_G M F u pc al st0 S := by
  intro E p l e R s m args below meth c C H locs ls hW hS hL hst
  subst hq
  subst hs0
  obtain ⟨hx, hb, hml, hret, hown, hts, hlocks, htab, ⟨hRF, hRL, hRc, hRs⟩, hflag, hbase, hsw, hst9⟩ := id C
  obtain ⟨hws, hd1, hd2, hd3⟩ := hm
  have hG : GoodIn z_big (va_wsS (m_y M).cls ix (m_y M') (.code (m_y M') (m_c M') (m_l M') (m_r M') :: z_big)) := z_goodIn (fun w hw => by
    simp only [va_wsS, List.cons_append, List.nil_append, List.mem_cons] at hw
    rcases hw with rfl | rfl | rfl | rfl | hw
    · exact hws _ (by simp)
    · exact hws _ (by simp)
    · exact hws _ (by simp)
    · exact hws _ (by simp)
    · exact hw)
  refine z_run (Q' := Q') (vx_runS (As := as.map (z_tv (e_ad E))) (rest := st.map (z_tv (e_ad E))) ⟨hx, hb, hml, hown, hts⟩ (sp l E hflag) (va_cwS n hts hG rfl rfl rfl ⟨hd1, hd2, hd3⟩ (by rw [hRF, hRL]; exact hR)) ⟨z_Pc_blind, z_Pc_of hW hsw (fun v hv => hst v (List.mem_append_left _ (List.mem_reverse.mpr hv)))⟩ rfl (by rw [List.length_map]; exact hn) (hL.1) (by show List.map _ _ = _; simp [List.map_append, List.map_reverse]) (lv_room (z_ca_sum hst4)) hd ⟨by omega, by omega⟩) hS (fun X ce q9 S' H1 locs1 hq hw1 hs1 hce hcv hcl => ?_) (fun r S' H1 locs1 hq hrok hw1 hs1 => ?_)
  · have h := kx X S' hq E p l e R s m args below meth c C H1 locs1 ls (st.map (z_tv (e_ad E))) ce q9 hw1 hs1 hL hce hcv hcl
    rw [show F.2.1 + u + m_u M' = F.2.1 + (u + m_u M') by omega, show F.2.2 + 6 * u + 6 * m_u M' = F.2.2 + 6 * (u + m_u M') by omega]
    exact h
  · have h := k r S' hq E p l e R s m args below meth c C H1 locs1 ls hw1 hs1 hL (by
      intro v hv
      rcases List.mem_append.mp hv with hv | hv
      · exact hrok v (by cases r with
          | none => cases hv
          | some x =>
            rcases List.mem_singleton.mp hv with rfl
            rfl)
      · exact hst v (List.mem_append_right _ hv))
    rw [show F.2.1 + u + m_u M' = F.2.1 + (u + m_u M') by omega, show F.2.2 + 6 * u + 6 * m_u M' = F.2.2 + 6 * (u + m_u M') by omega]
    rw [List.map_append] at h
    rw [show (r.map (z_tv (e_ad E))).toList = r.toList.map (z_tv (e_ad E)) by cases r <;> rfl]
    exact h
end

/-- a method without handlers, from its entry -/
theorem z_args_mem {ad : Nat → Nat} : ∀ (as : List zV) (i0 : Nat), (∀ v ∈ as, z_nl v) → ∀ (i : Nat) (v : zV), as[i]? = some v → (i0 + i, z_tv ad v) ∈ lv_args i0 (as.map (z_tv ad)) := by
  intro as
  induction as with
  | nil => intro i0 _ i v h; simp at h
  | cons a as ih =>
    intro i0 hn i v h
    have hc : ¬ (z_tv ad a).category = 2 := by rw [z_cat (hn a List.mem_cons_self)]; decide
    simp only [List.map_cons, lv_args, if_neg hc]
    cases i with
    | zero =>
      simp at h
      subst h
      exact List.mem_cons_self
    | succ i =>
      rw [List.getElem?_cons_succ] at h
      have h1 := ih (i0 + 1) (fun v hv => hn v (List.mem_cons_of_mem _ hv)) i v h
      rw [show i0 + 1 + i = i0 + (i + 1) by omega] at h1
      exact List.mem_cons_of_mem _ h1
theorem z_lg_len {ad : Nat → Nat} : ∀ (as : List zV), (∀ v ∈ as, z_nl v) → (lg_sl (as.map (z_tv ad))).length = as.length := by
  intro as
  induction as with
  | nil => intro _; rfl
  | cons a as ih =>
    intro hn
    have hc : ¬ (z_tv ad a).category = 2 := by rw [z_cat (hn a List.mem_cons_self)]; decide
    have h1 := ih (fun v hv => hn v (List.mem_cons_of_mem _ hv))
    unfold lg_sl at h1 ⊢
    rw [List.map_cons, List.flatMap_cons, if_neg hc, List.length_append, h1]
    simp [Nat.add_comm]
theorem z_lok_entry {ad : Nat → Nat} {as : List zV} {n : Nat} {w : List Nat} (hn : ∀ v ∈ as, z_nl v) (hok : ∀ v ∈ as, z_ok v) (hl : as.length ≤ n) : z_lok ad n w (as.map some ++ List.replicate (n - as.length) none) ((lg_sl (as.map (z_tv ad)) ++ List.replicate (n - (lg_sl (as.map (z_tv ad))).length) Slot.unset).toArray) := by
  have h := lv_entry (as.map (z_tv ad)) (n := n) (by rw [z_lg_len as hn]; exact hl)
  refine ⟨h.1, h.2.1, by simp; omega, fun i v hi => ?_⟩
  have hi2 : as[i]? = some v := by
    by_cases hlt : i < as.length
    · rw [List.getElem?_append_left (by rw [List.length_map]; exact hlt), List.getElem?_map] at hi
      cases hx : as[i]? with
      | none => rw [hx] at hi; cases hi
      | some w => rw [hx] at hi; cases hi; rfl
    · rw [List.getElem?_append_right (by rw [List.length_map]; omega)] at hi
      have := List.mem_of_getElem? hi
      have := List.eq_of_mem_replicate this
      cases this
  have hm := List.mem_of_getElem? hi2
  have h1 := h.2.2 _ (z_args_mem (ad := ad) as 0 hn i v hi2)
  rw [Nat.zero_add] at h1
  exact ⟨h1, .inl (hn v hm), hok v hm⟩
theorem z_enter {M : zM} {as : List zV} {S : zS} {Q : zQ} (hy : plainName (m_y M).cls = true) (hh : m_h M = []) (hn : ∀ v ∈ as, z_nl v) (hl : as.length ≤ m_l M)
    (k : z_G M (z_F M Q) 0 0 (as.map some ++ List.replicate (m_l M - as.length) none) [] S) : z_Sp M as S Q := by
  intro l E hflag
  refine vx_ofW (cc := m_c M) (maxL := m_l M) (ret := m_r M) hy rfl ?_
  intro p e s m args below meth c s₁ B hml htab hv
  obtain ⟨rfl, hW, hsw, hok⟩ := hv
  have hts0 := atoms_spec (ws := Cond.code (m_y M) (m_c M) (m_l M) (m_r M) :: z_big) B.pre
  have hts : ∀ w ∈ z_big, w.before ((as.map (z_tv (e_ad E))).toArray) s = true := fun w hw => hts0 w (List.mem_cons_of_mem _ hw)
  have hown : s.vm.findClass (m_y M).cls = some m.cls := findClass_of_methodNamed B.named
  have htab2 : z_tab M c := by
    unfold z_tab
    rw [hh]
    cases hx : c.exceptionTable.toList with
    | nil => rfl
    | cons a t => exact (htab a (by rw [hx]; exact List.mem_cons_self)).elim
  rw [lg_entry_eq]
  exact k E p l e (z_rm M) s m _ below meth c ⟨B.exec, B.bytes, hml, B.returns, hown, hts, B.notSynchronized, htab2, ⟨rfl, rfl, by show 0 + _ ≤ _; exact Nat.le_of_eq (Nat.zero_add _), by show 0 + _ ≤ _; exact Nat.le_of_eq (Nat.zero_add _)⟩, hflag, hW.2.2.2.2.1.1, hsw, hW.2.2.2.1⟩ s.heap [] _ hW va_S.rf (z_lok_entry hn hok hl) (fun v hv => nomatch hv)
theorem z_Sp.mono {M : zM} {as : List zV} {S : zS} {Q Q' : zQ} (h : z_Sp M as S Q) (hi : ∀ r S', Q r S' → Q' r S') : z_Sp M as S Q' := by
  intro l E hflag p e ha hc hk s m args below hf happ hP hK
  obtain ⟨k, o, h1, h2, h3, hq⟩ := h l E hflag p e ha hc hk s m args below hf happ hP hK
  refine ⟨k, o, h1, h2, h3, ?_⟩
  rcases hq with ⟨⟨⟨r, S', e1, e2, e3⟩, hF⟩, hL⟩ | ⟨q, e1, X, ce, L, ⟨S', e2, e3⟩, e4⟩
  · exact Or.inl ⟨⟨⟨r, S', e1, hi _ _ e2, e3⟩, hF⟩, hL⟩
  · exact Or.inr ⟨q, e1, X, ce, L, ⟨S', hi _ _ e2, e3⟩, e4⟩
/-- it ends with r, in S' -/
def z_Fn (M : zM) (as : List zV) (S : zS) (r : Option zV) (S' : zS) : Prop := z_Sp M as S (fun x T => x = .ok r ∧ T = S')
/-- it throws X, in S' -/
def z_Ex (M : zM) (as : List zV) (S : zS) (X : String) (S' : zS) : Prop := z_Sp M as S (fun x T => x = .error X ∧ T = S')
theorem z_wd.grow {E : zE} {S : zS} {s t : State} {H : Heap} (h : z_wd E S s H) (hv : s.vm.Alike t.vm) (h1 : H.size ≤ t.heap.size) (h2 : ∀ q : Nat, q < H.size → t.heap[q]? = H[q]?) : z_wd E S t t.heap := by
  obtain ⟨g1, g2, g3, g4, g5, g6⟩ := h.moved hv
  exact ⟨g1.kept (fun k q hk => h2 q.1 ((g1 k q hk).lt)), g2, g3, g4.kept g5.1 g5.2.1 (fun a ha _ => h2 a ha), ⟨Nat.le_trans g5.1 h1, g5.2⟩, g6⟩
def z_xw (X : String) : List Cond := [.castable X X, .declares (Bundle.initS "java/lang/RuntimeException"), .declares (Bundle.initS "java/lang/Exception"), .declares (Bundle.initS Bundle.tN)]
/-- what 'new X(text)' of Portinghall rests on -/
def z_tk (ix ic : Nat) (X : String) : Prop := Bundle.fit X = true ∧ Cond.classLink RX6 ix X ∈ z_big ∧ Cond.initialized X ∈ z_big ∧ (∀ w ∈ (vx_atS RX6 ic X xR).filter goodWord, w ∈ z_big) ∧ (∀ w ∈ (vx_atS RX6 ic X xR).filter (fun w => !goodWord w), w ∈ z_xw X) ∧
  (∀ w ∈ Cond.classLink RX6 ix X :: Cond.initialized X :: vx_atS RX6 ic X xR, vx_ot w = true) ∧ X ∈ [xI, xA, xS]
theorem z_xw_of {X : String} {s : State} {args : Array Value} (hs : z_sw s) (hX : X ∈ [xI, xA, xS]) : ∀ w ∈ z_xw X, w.before args s = true := by
  obtain ⟨-, h2, h3, -, -⟩ := hs
  refine vx_c ((h2 X hX).use rfl) (vx_c ((h3 _ (by simp)).use rfl) (vx_c ((h3 _ (by simp)).use rfl) (vx_c ((h3 _ (by simp)).use rfl) vx_n)))
theorem z_xR_fit : ∀ n ∈ xR, Bundle.fit n = true := by decide +kernel
section
variable {M : zM} {u pc : Nat} {al : List (Option zV)} {S : zS} {Q : zQ} {ix is ic : Nat} {X text : String}
theorem g_throw (hc : (m_y M).cls = RX6) (hh : m_h M = []) (ht : z_tk ix ic X) (hs : (is, text) ∈ z_strs)
    (d0 : decode (m_c M) pc = .ok (.new ix, 3)) (d3 : decode (m_c M) (pc + 3) = .ok (.dup, 1)) (d4 : decode (m_c M) (pc + 4) = .ok (.ldc is, 2)) (d6 : decode (m_c M) (pc + 6) = .ok (.invokespecial ic, 3)) (d9 : decode (m_c M) (pc + 9) = .ok (.athrow, 1))
    (hF : 6 ≤ m_F M) (hL9 : 82 ≤ m_L M) (hu : u + 1 ≤ m_u M) (hQ : Q (.error X) S) : z_G M (z_F M Q) u pc al [] S := by
  intro E p l e R s m args below meth c C H locs ls hW hS hL hst
  obtain ⟨hx, hb, hml, hret, hown, hts, hlocks, htab, ⟨hRF, hRL, hRc, hRs⟩, hflag, hbase, hsw, hst9⟩ := id C
  rw [hc] at hown
  obtain ⟨t1, t2, t3, t4, t5, t6, t7⟩ := ht
  obtain ⟨sa, hsa⟩ := hsw.1 _ hs
  have hout : ∀ x ∈ c.exceptionTable.toList, covers x (pc + 9) = false := by
    unfold z_tab at htab
    rw [hh] at htab
    intro x hx
    rw [List.map_eq_nil_iff.mp htab] at hx
    cases hx
  have hRc2 : 0 + m_u M ≤ R.cells := hRc
  have hRs2 : 0 + 6 * m_u M ≤ R.slots := hRs
  exact vx_throwS hx hb hflag (own := RX6) (cls := X) (text := text) (names := xR) (ik := ix) (is := is) (ic := ic) (sa := sa) (A := z_A E) hown t1 z_xR_fit (hts _ t2) (hts _ t3) hsa (vx_hat (fun w hw => hts w (t4 w hw)) t5 (z_xw_of hsw t7)) t6 hst9.1 hst9.2.1 hS (hL.1.trans hml.symm) d0 d3 d4 d6 d9 hout
    (by rw [hRF]; show 2 + 3 < _; omega) (by rw [hRL]; show 0 + (13 * (2 + 1) + 43) ≤ _; omega) (by show 0 + u + 1 ≤ _; omega) (by show 0 + 6 * u + 6 ≤ _; omega) hlocks
    (fun t hv h1 h2 => ⟨S, hQ, hW.grow hv h1 h2, ⟨Nat.le_trans hS.1 h1, fun q hq hA => (h2 q (Nat.lt_of_lt_of_le hq hS.1)).trans (hS.2.1 q hq hA)⟩⟩) hS.2.2 (by show 0 + u + 1 ≤ _; omega) (by show 0 + 6 * u + 6 ≤ _; omega)
theorem g_throwW (hc : (m_y M).cls = RX6) (hh : m_h M = []) (ht : z_tk ix ic X) (hs : (is, text) ∈ z_strs)
    (d0 : decode (m_c M) pc = .ok (.new ix, 3)) (d3 : decode (m_c M) (pc + 3) = .ok (.dup, 1)) (d4 : decode (m_c M) (pc + 4) = .ok (.ldc_w is, 3)) (d6 : decode (m_c M) (pc + 7) = .ok (.invokespecial ic, 3)) (d9 : decode (m_c M) (pc + 10) = .ok (.athrow, 1))
    (hF : 6 ≤ m_F M) (hL9 : 82 ≤ m_L M) (hu : u + 1 ≤ m_u M) (hQ : Q (.error X) S) : z_G M (z_F M Q) u pc al [] S := by
  intro E p l e R s m args below meth c C H locs ls hW hS hL hst
  obtain ⟨hx, hb, hml, hret, hown, hts, hlocks, htab, ⟨hRF, hRL, hRc, hRs⟩, hflag, hbase, hsw, hst9⟩ := id C
  rw [hc] at hown
  obtain ⟨t1, t2, t3, t4, t5, t6, t7⟩ := ht
  obtain ⟨sa, hsa⟩ := hsw.1 _ hs
  have hout : ∀ x ∈ c.exceptionTable.toList, covers x (pc + 10) = false := by
    unfold z_tab at htab
    rw [hh] at htab
    intro x hx
    rw [List.map_eq_nil_iff.mp htab] at hx
    cases hx
  have hRc2 : 0 + m_u M ≤ R.cells := hRc
  have hRs2 : 0 + 6 * m_u M ≤ R.slots := hRs
  exact vx_throwSW hx hb hflag (own := RX6) (cls := X) (text := text) (names := xR) (ik := ix) (is := is) (ic := ic) (sa := sa) (A := z_A E) hown t1 z_xR_fit (hts _ t2) (hts _ t3) hsa (vx_hat (fun w hw => hts w (t4 w hw)) t5 (z_xw_of hsw t7)) t6 hst9.1 hst9.2.1 hS (hL.1.trans hml.symm) d0 d3 d4 d6 d9 hout
    (by rw [hRF]; show 2 + 3 < _; omega) (by rw [hRL]; show 0 + (13 * (2 + 1) + 43) ≤ _; omega) (by show 0 + u + 1 ≤ _; omega) (by show 0 + 6 * u + 6 ≤ _; omega) hlocks
    (fun t hv h1 h2 => ⟨S, hQ, hW.grow hv h1 h2, ⟨Nat.le_trans hS.1 h1, fun q hq hA => (h2 q (Nat.lt_of_lt_of_le hq hS.1)).trans (hS.2.1 q hq hA)⟩⟩) hS.2.2 (by show 0 + u + 1 ≤ _; omega) (by show 0 + 6 * u + 6 ≤ _; omega)
end
theorem z_tk_I : z_tk 72 76 xI := ⟨by decide +kernel, z_big_of (by decide +kernel) rfl, z_big_of (by decide +kernel) rfl, by decide +kernel, by decide +kernel, by decide +kernel, by decide⟩
theorem z_tk_S : z_tk 83 87 xS := ⟨by decide +kernel, z_big_of (by decide +kernel) rfl, z_big_of (by decide +kernel) rfl, by decide +kernel, by decide +kernel, by decide +kernel, by decide⟩
theorem z_tk_A : z_tk 153 157 xA := ⟨by decide +kernel, z_big_of (by decide +kernel) rfl, z_big_of (by decide +kernel) rfl, by decide +kernel, by decide +kernel, by decide +kernel, by decide⟩
end
section
/-! ===== the kit's static call of a nest mate's method that may throw (pasted from kit/laws) ===== -/
section
variable {p : Program} {l : Launch} {e : Env} {R : Room} {s : State} {m : MethodId} {args : Array Value} {below : List Frame} {meth : Method} {c : Code} {T : State} {locs : List Loc} {cells slots : Nat}
theorem vx_callSN (X : Stand p l e R s m args below meth c T locs cells slots) (hexec : p.tables.exec = Jvm.exec) {own : String} {index : Nat} {host : String} {y : MethodName} {bytes : ByteArray} {maxL : Nat} {ret : Option FieldType}
    (hown : s.vm.findClass own = some m.cls) (hlink : (Cond.methodLinkNest own index y host).before args s = true) (hstat : (Cond.static y).before args s = true) (hinit : (Cond.initialized y.cls).before args s = true)
    (hcode : (Cond.code y bytes maxL ret).before args s = true) (hy : y.cls ≠ "java/lang/invoke/MethodHandle" ∧ y.cls ≠ "java/lang/invoke/VarHandle")
    {W : Nat} {Pre : Pt → Array Value → Prop} {Post : Pt → Array Value → Option Value → Pt → Prop} {PostX : Pt → Array Value → Addr → Pt → Prop} (hK : vx_Back l R p e below s args y 3 W Pre Post PostX)
    {g : JFrame} (hg : g.method = m) (hsize : g.locals.size = c.maxLocals) {argsL rest : List Value} (hlen : ∀ sig, parseMethodDescriptor y.desc = some sig → argsL.length = sig.parameters.length)
    (hstack : g.stack = argsL.reverse ++ rest) (hW : 2 * g.monitorRoom + (rest.map fun v => v.category).sum ≤ W) (hdg : decode c.code g.pc = .ok (.invokestatic index, 3))
    (hpre : ∀ vm₁, s.WarmedH vm₁ → Pre ⟨T.setVm vm₁, locs, cells, slots⟩ argsL.toArray) :
    (∃ (v : Option Value) (vm₁ : Vm) (B : Pt), s.WarmedH vm₁ ∧ Stand p l e R s m args below meth c B.U B.locs B.cells B.slots ∧ Post ⟨T.setVm vm₁, locs, cells, slots⟩ argsL.toArray v B ∧
      ∀ target, Steps p.tables e below (B.U.setTop { g with pc := g.pc + 3, stack := v.toList ++ rest }) target → Steps p.tables e below (T.setTop g) target) ∨
    (∃ (q : Addr) (vm₁ : Vm) (B : Pt), s.WarmedH vm₁ ∧ Stand p l e R s m args below meth c B.U B.locs B.cells B.slots ∧ PostX ⟨T.setVm vm₁, locs, cells, slots⟩ argsL.toArray q B ∧
      Steps p.tables e below (T.setTop g) ((B.U.setTop { g with stack := rest }).pushFrame (.throwing q))) := by
  obtain ⟨mk, hnamed⟩ := Cond.code_named hcode
  obtain ⟨methM, cM, hmethM, -, -, -, -, -, -, hsigM⟩ := Cond.code_spec hnamed hcode
  have hstatic : methM.isStatic = true := Cond.static_spec hnamed hmethM hstat
  obtain ⟨kP, hkP, -⟩ := className_of_methodNamed hnamed
  have hinitP : kP.init = .initialized := Cond.initialized_spec (findClass_of_methodNamed hnamed) hkP hinit
  obtain ⟨vm₁, X₁, hstep₁⟩ := X.invokestaticNest hexec hown hlink hnamed hmethM hstatic hkP hinitP hy (g := g) hg (argsL := argsL) (rest := rest) (hlen _ hsigM) hstack hdg
  rcases hK m meth c ⟨T.setVm vm₁, locs, cells, slots⟩ { g with stack := rest } (.invokestatic index) mk argsL.toArray X₁ hg hsize hdg hW (X₁.named hnamed) (hpre vm₁ X₁.warmed) with ⟨v, B, X', hpost, hsteps⟩ | ⟨q, B, X', hpost, hsteps⟩
  · exact Or.inl ⟨v, vm₁, B, X₁.warmed, X', hpost, fun target h => hstep₁ _ fun acts => by rw [doInvoke_state]; exact hsteps.trans h⟩
  · exact Or.inr ⟨q, vm₁, B, X₁.warmed, X', hpost, hstep₁ _ fun acts => by rw [doInvoke_state]; exact hsteps⟩
end
section
variable {p : Program} {l : Launch} {e : Env} {R : Room} {s : State} {m : MethodId} {args : Array Value} {below : List Frame} {meth : Method} {c : Code} {H : Heap} {locs : List Loc} {cells slots : Nat}
theorem vx_runSN {y : MethodName} {bytes cc : ByteArray} {maxL nL mc ms n index : Nat} {ret : Option FieldType} {ws : List Cond} {rm : Room} {Pc : Array Value → State → Prop} {Qc : Array Value → State → Outcome → State → Prop} {XC : String → State → State → Prop} {free : Addr → Prop} {Ts : List Cond} {own host : String} {As rest : List Value} {g : JFrame}
    (S : CallFix p m c cc nL s args Ts own) (hM : vx_Met l y ws rm Pc Qc XC mc ms free) (cw : va_CN R s args own index y host bytes maxL ret ws rm mc ms n ∧ (Cond.static y).before args s = true ∧ True) (hp : PreS s H Pc As)
    (hg : g.method = m) (hn : As.length = n) (hsize : g.locals.size = nL) (hstack : g.stack = As.reverse ++ rest) (hW : 2 * g.monitorRoom + (rest.map fun v => v.category).sum ≤ 8) (hdg : decode cc g.pc = .ok (.invokestatic index, 3)) (hf : cells + mc ≤ R.cells ∧ slots + ms ≤ R.slots) :
    vx_Run p l e R s m args below meth c H locs cells slots mc ms g rest (Qc As.toArray) XC free := by
  obtain ⟨⟨⟨hrc, hrs, hfr, hlo, hws, hcw⟩, hcode, hini, hy, hlen, hl⟩, hx1, hx2⟩ := cw
  have hK : vx_Back l R p e below s args y 3 8 (PreOf R mc ms Pc) (PostOf Qc mc ms free) (vx_Post XC mc ms free) := vx_back (bytes := bytes) (maxL := maxL) (ret := ret) hM hp.1 hrc hrs hfr hlo hws hcw (fun a' U hW => word_at hW (Or.inl (by first | rfl | simp [Cond.onTables, Cond.keeps, Cond.steady])) hini)
  obtain ⟨hx, hb, hml, ho, -⟩ := S
  have hPc := hp.2
  intro T hT X
  rcases vx_callSN X hx (bytes := bytes) (maxL := maxL) (ret := ret) ho hl hx1 hini hcode hy hK hg (hsize.trans hml.symm) (argsL := As) (rest := rest) (fun sig h => hn.trans (hlen sig h)) hstack hW (by rw [hb]; exact hdg)
    (fun vm₁ hW₁ => ⟨hf.1, hf.2, hPc (T.setVm vm₁) hT hW₁⟩) with ⟨v, vm₁, ⟨U', l2, c2, s2⟩, hW₁, X', ⟨g', mk, t, L, e1, e2, hq, h1, hL, h2, h3⟩, st⟩ | ⟨q, vm₁, ⟨U', l2, c2, s2⟩, hW₁, X', ⟨g', mk, t, L, E, ce, e1, e2, hq, hce, hcv, hcl, h1, hL, h2, h3⟩, st⟩
  · dsimp only [Pt.U, Pt.locs, Pt.cells, Pt.slots] at X' e1 e2 h1 h2 h3 st
    subst h1; subst h2; subst h3
    exact Or.inl ⟨v, (T.setVm vm₁).calling g' mk As.toArray, t, U', L, hT, X', hL, e1, e2, hq, st⟩
  · dsimp only [Pt.U, Pt.locs, Pt.cells, Pt.slots] at X' e1 e2 h1 h2 h3 st hcl
    subst h1; subst h2; subst h3
    exact Or.inr ⟨q, (T.setVm vm₁).calling g' mk As.toArray, t, U', L, E, ce, hT, X', hL, e1, e2, hq, hce, hcv, vx_cls hW₁ hcl, st⟩
end
/-! ===== calls by what they do ===== -/
def z_nk (own : String) (ix n : Nat) (host : String) (M : zM) : Prop := (∀ w ∈ ([.static (m_y M), .initialized (m_y M).cls, .code (m_y M) (m_c M) (m_l M) (m_r M)] : List Cond), w ∈ z_big) ∧ (own = RX2 ∧ ix = 25 ∧ m_y M = yX6_isFirm ∧ host = RX6) ∧
  ((m_y M).cls ≠ "java/lang/invoke/MethodHandle" ∧ (m_y M).cls ≠ "java/lang/invoke/VarHandle" ∧ (parseMethodDescriptor (m_y M).desc).map (fun d => d.parameters.length) = some n)
section
variable {M M' : zM} {F : zF} {u u' pc q ix : Nat} {al : List (Option zV)} {st : List zV} {S S' : zS}
theorem g_callN {Q' : zQ} {n : Nat} {host : String} {as st0 : List zV} (hd : decode (m_c M) pc = .ok (.invokestatic ix, 3)) (hq : pc + 3 = q) (hm : z_nk (m_y M).cls ix n host M') (hn : as.length = n) (hs0 : st0 = as.reverse ++ st) (hst4 : st.length ≤ 4)
    (hR : m_F M' + 1 ≤ m_F M ∧ 8 + (m_l M' + 11) + m_L M' ≤ m_L M) (hu : u + m_u M' ≤ m_u M) (sp : z_Sp M' as S Q') (kx : ∀ X S', Q' (.error X) S' → z_GX M F (u + m_u M') pc al X S') (k : ∀ r S', Q' (.ok r) S' → z_G M F (u + m_u M') q al (r.toList ++ st) S') : z_G M F u pc al st0 S := by
  intro E p l e R s m args below meth c C H locs ls hW hS hL hst
  subst hq
  subst hs0
  obtain ⟨hx, hb, hml, hret, hown, hts, hlocks, htab, ⟨hRF, hRL, hRc, hRs⟩, hflag, hbase, hsw, hst9⟩ := id C
  obtain ⟨hws, ⟨e1, e2, e3, e4⟩, hd1, hd2, hd3⟩ := hm
  have hG : GoodIn z_big (.code (m_y M') (m_c M') (m_l M') (m_r M') :: z_big) := z_goodIn (fun w hw => by
    rcases List.mem_cons.mp hw with rfl | hw
    · exact hws _ (by simp)
    · exact hw)
  have hnest : va_Nw (.methodLinkNest (m_y M).cls ix (m_y M') host) s := by rw [e1, e2, e3, e4]; exact hsw.2.2.2.1
  refine z_run (Q' := Q') (vx_runSN (As := as.map (z_tv (e_ad E))) (rest := st.map (z_tv (e_ad E))) ⟨hx, hb, hml, hown, hts⟩ (sp l E hflag) ⟨va_cnB n hts hG rfl rfl rfl hnest (hts _ (hws _ (by simp))) ⟨hd1, hd2, hd3⟩ (by rw [hRF, hRL]; exact hR), hts _ (hws _ (by simp)), trivial⟩ ⟨z_Pc_blind, z_Pc_of hW hsw (fun v hv => hst v (List.mem_append_left _ (List.mem_reverse.mpr hv)))⟩ rfl (by rw [List.length_map]; exact hn) (hL.1) (by show List.map _ _ = _; simp [List.map_append, List.map_reverse]) (lv_room (z_ca_sum hst4)) hd ⟨by omega, by omega⟩) hS (fun X ce q9 S' H1 locs1 hq hw1 hs1 hce hcv hcl => ?_) (fun r S' H1 locs1 hq hrok hw1 hs1 => ?_)
  · have h := kx X S' hq E p l e R s m args below meth c C H1 locs1 ls (st.map (z_tv (e_ad E))) ce q9 hw1 hs1 hL hce hcv hcl
    rw [show F.2.1 + u + m_u M' = F.2.1 + (u + m_u M') by omega, show F.2.2 + 6 * u + 6 * m_u M' = F.2.2 + 6 * (u + m_u M') by omega]
    exact h
  · have h := k r S' hq E p l e R s m args below meth c C H1 locs1 ls hw1 hs1 hL (by
      intro v hv
      rcases List.mem_append.mp hv with hv | hv
      · exact hrok v (by cases r with
          | none => cases hv
          | some x =>
            rcases List.mem_singleton.mp hv with rfl
            rfl)
      · exact hst v (List.mem_append_right _ hv))
    rw [show F.2.1 + u + m_u M' = F.2.1 + (u + m_u M') by omega, show F.2.2 + 6 * u + 6 * m_u M' = F.2.2 + 6 * (u + m_u M') by omega]
    rw [List.map_append] at h
    rw [show (r.map (z_tv (e_ad E))).toList = r.toList.map (z_tv (e_ad E)) by cases r <;> rfl]
    exact h
theorem g_fnV {o ci n : Nat} {fl : List (Nat ⊕ Nat)} {as st0 st1 : List zV} {r : Option zV} (hd : decode (m_c M) pc = .ok (.invokevirtual ix, 3)) (hq : pc + 3 = q) (hm : z_vk (m_y M).cls ix ci n M') (ho : z_obj o = some (ci, fl)) (hn : as.length = n) (hs0 : st0 = as.reverse ++ zR o :: st) (hst4 : st.length ≤ 4)
    (hR : m_F M' + 1 ≤ m_F M ∧ 8 + (m_l M' + 11) + m_L M' ≤ m_L M) (hu1 : u + m_u M' = u') (hu : u' ≤ m_u M) (sp : z_Fn M' (zR o :: as) S r S') (hs1 : r.toList ++ st = st1) (k : z_G M F u' q al st1 S') : z_G M F u pc al st0 S := by
  subst hu1
  subst hs1
  exact g_callV hd hq hm ho hn hs0 hst4 hR hu sp (fun X S1 h => by cases h.1) (fun r1 S1 h => by
    obtain ⟨h1, rfl⟩ := h
    cases h1
    exact k)
theorem g_exV {o ci n : Nat} {fl : List (Nat ⊕ Nat)} {as st0 : List zV} {X : String} {Q : zQ} (hd : decode (m_c M) pc = .ok (.invokevirtual ix, 3)) (hm : z_vk (m_y M).cls ix ci n M') (ho : z_obj o = some (ci, fl)) (hn : as.length = n) (hs0 : st0 = as.reverse ++ zR o :: st) (hst4 : st.length ≤ 4)
    (hR : m_F M' + 1 ≤ m_F M ∧ 8 + (m_l M' + 11) + m_L M' ≤ m_L M) (hu : u + m_u M' ≤ m_u M) (hh : m_h M = []) (sp : z_Ex M' (zR o :: as) S X S') (hQ : Q (.error X) S') : z_G M (z_F M Q) u pc al st0 S :=
  g_callV hd rfl hm ho hn hs0 hst4 hR hu sp (fun X1 S1 h => by
    obtain ⟨h1, rfl⟩ := h
    cases h1
    exact gx_out hh hu hQ) (fun r1 S1 h => by cases h.1)
theorem g_fnS {n : Nat} {as st0 st1 : List zV} {r : Option zV} (hd : decode (m_c M) pc = .ok (.invokestatic ix, 3)) (hq : pc + 3 = q) (hm : z_sk (m_y M).cls ix n M') (hn : as.length = n) (hs0 : st0 = as.reverse ++ st) (hst4 : st.length ≤ 4)
    (hR : m_F M' + 1 ≤ m_F M ∧ 8 + (m_l M' + 11) + m_L M' ≤ m_L M) (hu1 : u + m_u M' = u') (hu : u' ≤ m_u M) (sp : z_Fn M' (as) S r S') (hs1 : r.toList ++ st = st1) (k : z_G M F u' q al st1 S') : z_G M F u pc al st0 S := by
  subst hu1
  subst hs1
  exact g_callS hd hq hm hn hs0 hst4 hR hu sp (fun X S1 h => by cases h.1) (fun r1 S1 h => by
    obtain ⟨h1, rfl⟩ := h
    cases h1
    exact k)
theorem g_exS {n : Nat} {as st0 : List zV} {X : String} {Q : zQ} (hd : decode (m_c M) pc = .ok (.invokestatic ix, 3)) (hm : z_sk (m_y M).cls ix n M') (hn : as.length = n) (hs0 : st0 = as.reverse ++ st) (hst4 : st.length ≤ 4)
    (hR : m_F M' + 1 ≤ m_F M ∧ 8 + (m_l M' + 11) + m_L M' ≤ m_L M) (hu : u + m_u M' ≤ m_u M) (hh : m_h M = []) (sp : z_Ex M' (as) S X S') (hQ : Q (.error X) S') : z_G M (z_F M Q) u pc al st0 S :=
  g_callS hd rfl hm hn hs0 hst4 hR hu sp (fun X1 S1 h => by
    obtain ⟨h1, rfl⟩ := h
    cases h1
    exact gx_out hh hu hQ) (fun r1 S1 h => by cases h.1)
theorem g_fnN {n : Nat} {host : String} {as st0 st1 : List zV} {r : Option zV} (hd : decode (m_c M) pc = .ok (.invokestatic ix, 3)) (hq : pc + 3 = q) (hm : z_nk (m_y M).cls ix n host M') (hn : as.length = n) (hs0 : st0 = as.reverse ++ st) (hst4 : st.length ≤ 4)
    (hR : m_F M' + 1 ≤ m_F M ∧ 8 + (m_l M' + 11) + m_L M' ≤ m_L M) (hu1 : u + m_u M' = u') (hu : u' ≤ m_u M) (sp : z_Fn M' (as) S r S') (hs1 : r.toList ++ st = st1) (k : z_G M F u' q al st1 S') : z_G M F u pc al st0 S := by
  subst hu1
  subst hs1
  exact g_callN hd hq hm hn hs0 hst4 hR hu sp (fun X S1 h => by cases h.1) (fun r1 S1 h => by
    obtain ⟨h1, rfl⟩ := h
    cases h1
    exact k)
theorem g_exN {n : Nat} {host : String} {as st0 : List zV} {X : String} {Q : zQ} (hd : decode (m_c M) pc = .ok (.invokestatic ix, 3)) (hm : z_nk (m_y M).cls ix n host M') (hn : as.length = n) (hs0 : st0 = as.reverse ++ st) (hst4 : st.length ≤ 4)
    (hR : m_F M' + 1 ≤ m_F M ∧ 8 + (m_l M' + 11) + m_L M' ≤ m_L M) (hu : u + m_u M' ≤ m_u M) (hh : m_h M = []) (sp : z_Ex M' (as) S X S') (hQ : Q (.error X) S') : z_G M (z_F M Q) u pc al st0 S :=
  g_callN hd rfl hm hn hs0 hst4 hR hu sp (fun X1 S1 h => by
    obtain ⟨h1, rfl⟩ := h
    cases h1
    exact gx_out hh hu hQ) (fun r1 S1 h => by cases h.1)
end
end
section
/-! ===== printed by mkmethods.py: the methods; their links ===== -/
abbrev mX0_add : zM := (yX0_add, cX0_add, 4, none, [], 0, 0, 0, [])
abbrev mX0_countUnknown : zM := (yX0_countUnknown, cX0_countUnknown, 2, (some .int), [], 0, 0, 0, [])
abbrev mX0_learnAll : zM := (yX0_learnAll, cX0_learnAll, 3, none, [], 0, 0, 0, [])
abbrev mX0_learnUpTo : zM := (yX0_learnUpTo, cX0_learnUpTo, 4, none, [], 0, 0, 0, [])
abbrev mX1_isInUse : zM := (yX1_isInUse, cX1_isInUse, 2, (some .boolean), [], 0, 0, 0, [])
abbrev mX1_isInQuarantine : zM := (yX1_isInQuarantine, cX1_isInQuarantine, 3, (some .boolean), [], 0, 0, 0, [])
abbrev mX1_isSilent : zM := (yX1_isSilent, cX1_isSilent, 3, (some .boolean), [], 0, 0, 0, [])
abbrev mX1_mayBeCalledBack : zM := (yX1_mayBeCalledBack, cX1_mayBeCalledBack, 3, (some .boolean), [], 0, 0, 0, [])
abbrev mX1_begin : zM := (yX1_begin, cX1_begin, 4, none, [], 0, 0, 0, [])
abbrev mX1_finish : zM := (yX1_finish, cX1_finish, 3, none, [], 0, 0, 0, [])
abbrev mX1_countServedBy : zM := (yX1_countServedBy, cX1_countServedBy, 4, (some .int), [], 0, 0, 0, [])
abbrev mX6_isFirm : zM := (yX6_isFirm, cX6_isFirm, 1, (some .boolean), [], 0, 0, 0, [])
abbrev mX2_pay : zM := (yX2_pay, cX2_pay, 4, none, [], 1, 20, 0, [])
abbrev mX3_note : zM := (yX3_note, cX3_note, 4, none, [], 0, 0, 0, [])
abbrev mX3_serves : zM := (yX3_serves, cX3_serves, 3, none, [], 1, 23, 0, [])
abbrev mX3_firmEnds : zM := (yX3_firmEnds, cX3_firmEnds, 3, none, [], 1, 23, 0, [])
abbrev mX3_replay : zM := (yX3_replay, cX3_replay, 5, (some .int), [], 0, 0, 0, [])
abbrev mX4_add : zM := (yX4_add, cX4_add, 7, (some .int), [], 0, 0, 0, [])
abbrev mX4_waitingFor : zM := (yX4_waitingFor, cX4_waitingFor, 3, (some .int), [], 0, 0, 0, [])
abbrev mX4_countWaiting : zM := (yX4_countWaiting, cX4_countWaiting, 3, (some .int), [], 0, 0, 0, [])
abbrev mX4_countWaitingAt : zM := (yX4_countWaitingAt, cX4_countWaitingAt, 4, (some .int), [], 0, 0, 0, [])
abbrev mX4_cancelFor : zM := (yX4_cancelFor, cX4_cancelFor, 3, none, [], 1, 22, 0, [])
abbrev mX4_cancelBy : zM := (yX4_cancelBy, cX4_cancelBy, 3, none, [], 0, 0, 0, [])
abbrev mX4_putOff : zM := (yX4_putOff, cX4_putOff, 4, none, [], 1, 23, 0, [])
abbrev mX5_begin : zM := (yX5_begin, cX5_begin, 2, none, [], 0, 0, 0, [])
abbrev mX5_add : zM := (yX5_add, cX5_add, 2, none, [], 0, 0, 0, [])
abbrev mX5_hopAt : zM := (yX5_hopAt, cX5_hopAt, 2, (some .int), [], 0, 0, 0, [])
abbrev mX5_has : zM := (yX5_has, cX5_has, 3, (some .boolean), [], 0, 0, 0, [])
abbrev mX6_isBlock : zM := (yX6_isBlock, cX6_isBlock, 1, (some .boolean), [], 0, 0, 0, [])
abbrev mX6_countBlocksOf : zM := (yX6_countBlocksOf, cX6_countBlocksOf, 4, (some .int), [], 0, 0, 0, [])
abbrev mX6_give : zM := (yX6_give, cX6_give, 3, (some .int), [], 6, 82, 1, [])
abbrev mX6_isBlockBusy : zM := (yX6_isBlockBusy, cX6_isBlockBusy, 4, (some .boolean), [], 1, 22, 0, [])
abbrev mX6_giveBack : zM := (yX6_giveBack, cX6_giveBack, 3, (some .int), [], 6, 82, 1, [])
abbrev mX6_requireNumber : zM := (yX6_requireNumber, cX6_requireNumber, 1, none, [], 6, 82, 1, [])
abbrev mX6_requireSecret : zM := (yX6_requireSecret, cX6_requireSecret, 1, none, [], 6, 82, 1, [])
abbrev mX6_holderOf : zM := (yX6_holderOf, cX6_holderOf, 2, (some .int), [], 0, 0, 0, [])
abbrev mX6_assign : zM := (yX6_assign, cX6_assign, 4, (some .int), [], 7, 102, 3, [])
abbrev mX6_requireInUse : zM := (yX6_requireInUse, cX6_requireInUse, 2, none, [], 6, 82, 1, [])
abbrev mX6_end : zM := (yX6_end, cX6_end, 3, (some .int), [], 7, 103, 2, [])
abbrev mX6_swap : zM := (yX6_swap, cX6_swap, 4, (some .int), [], 7, 103, 3, [])
abbrev mX6_emergency : zM := (yX6_emergency, cX6_emergency, 2, (some .int), [], 7, 103, 2, [])
abbrev mX6_requireFirm : zM := (yX6_requireFirm, cX6_requireFirm, 1, none, [], 6, 82, 1, [])
abbrev mX6_announceHeir : zM := (yX6_announceHeir, cX6_announceHeir, 5, none, [], 1, 23, 0, [])
abbrev mX6_inheritBlock : zM := (yX6_inheritBlock, cX6_inheritBlock, 9, (some .int), [], 2, 47, 0, [])
abbrev mX6_endFirm : zM := (yX6_endFirm, cX6_endFirm, 5, (some .int), [], 7, 102, 3, [])
abbrev mX6_isInWindow : zM := (yX6_isInWindow, cX6_isInWindow, 1, (some .boolean), [], 0, 0, 0, [])
abbrev mX6_reasonToReject : zM := (yX6_reasonToReject, cX6_reasonToReject, 5, (some .int), [], 1, 23, 0, [])
abbrev mX6_order : zM := (yX6_order, cX6_order, 6, (some .int), [], 7, 102, 4, [])
abbrev mX6_requireOrder : zM := (yX6_requireOrder, cX6_requireOrder, 2, none, [], 6, 82, 1, [])
abbrev mX6_cancel : zM := (yX6_cancel, cX6_cancel, 2, (some .int), [], 7, 103, 2, [])
abbrev mX6_canReverse : zM := (yX6_canReverse, cX6_canReverse, 4, (some .boolean), [], 1, 21, 0, [])
abbrev mX6_moveTo : zM := (yX6_moveTo, cX6_moveTo, 3, none, [], 2, 45, 0, [])
abbrev mX6_reverse : zM := (yX6_reverse, cX6_reverse, 3, (some .int), [], 7, 103, 2, [])
abbrev mX6_carryOut : zM := (yX6_carryOut, cX6_carryOut, 5, none, [], 3, 67, 0, [])
abbrev mX6_carryOutDueOrders : zM := (yX6_carryOutDueOrders, cX6_carryOutDueOrders, 3, (some .int), [], 4, 91, 0, [])
abbrev mX6_learnInTime : zM := (yX6_learnInTime, cX6_learnInTime, 2, none, [], 1, 23, 0, [])
abbrev mX6_pass : zM := (yX6_pass, cX6_pass, 4, (some .int), [], 6, 113, 1, [])
abbrev mX6_setLag : zM := (yX6_setLag, cX6_setLag, 4, (some .int), [], 7, 102, 2, [])
abbrev mX6_setDown : zM := (yX6_setDown, cX6_setDown, 4, (some .boolean), [], 7, 102, 1, [])
abbrev mX6_correct : zM := (yX6_correct, cX6_correct, 3, (some .int), [], 7, 102, 1, [])
abbrev mX6_server : zM := (yX6_server, cX6_server, 2, (some .int), [], 7, 102, 1, [])
abbrev mX6_serverAnew : zM := (yX6_serverAnew, cX6_serverAnew, 2, (some .int), [], 7, 102, 1, [])
abbrev mX6_requireWhat : zM := (yX6_requireWhat, cX6_requireWhat, 2, none, [], 6, 82, 1, [])
abbrev mX6_asInt : zM := (yX6_asInt, cX6_asInt, 1, (some .int), [], 0, 0, 0, [])
abbrev mX6_number : zM := (yX6_number, cX6_number, 3, (some .int), [], 7, 103, 2, [])
abbrev mX6_of : zM := (yX6_of, cX6_of, 3, (some .int), [], 7, 103, 2, [])
abbrev mX6_room : zM := (yX6_room, cX6_room, 2, (some .int), [], 6, 82, 1, [])
abbrev mX6_firm : zM := (yX6_firm, cX6_firm, 3, (some .int), [], 7, 103, 2, [])
abbrev mX6_placeByTable : zM := (yX6_placeByTable, cX6_placeByTable, 5, (some .int), [], 1, 21, 0, [])
abbrev mX6_known : zM := (yX6_known, cX6_known, 3, (some .int), [], 7, 102, 2, [])
abbrev mX6_audit : zM := (yX6_audit, cX6_audit, 4, (some .int), [], 7, 102, 1, [])
abbrev mX6_requireWay : zM := (yX6_requireWay, cX6_requireWay, 1, none, [], 6, 82, 1, [])
abbrev mX6_followTables : zM := (yX6_followTables, cX6_followTables, 11, (some .int), [], 2, 45, 0, [])
abbrev mX6_traceCall : zM := (yX6_traceCall, cX6_traceCall, 5, (some .int), [], 3, 75, 0, [])
abbrev mX6_hop : zM := (yX6_hop, cX6_hop, 5, (some .int), [], 7, 102, 4, [])
abbrev mX6_why : zM := (yX6_why, cX6_why, 4, (some .int), [], 7, 102, 3, [])
abbrev mX6_payForCall : zM := (yX6_payForCall, cX6_payForCall, 4, none, [], 2, 43, 0, [])
abbrev mX6_dial : zM := (yX6_dial, cX6_dial, 5, (some .int), [], 7, 103, 4, [])
abbrev mX6_minute : zM := (yX6_minute, cX6_minute, 1, (some .int), [], 0, 0, 0, [])
abbrev mL_cell : zM := (yL_cell, cL_cell, 2, (some .int), [], 0, 0, 0, [])
abbrev mL_low : zM := (yL_low, cL_low, 2, (some .int), [], 0, 0, 0, [])
abbrev mL_digits : zM := (yL_digits, cL_digits, 1, (some .int), [], 0, 0, 0, [])
abbrev mL_state : zM := (yL_state, cL_state, 1, (some .int), [], 0, 0, 0, [])
abbrev mL_winner : zM := (yL_winner, cL_winner, 1, (some .int), [], 0, 0, 0, [])
abbrev mL_minute : zM := (yL_minute, cL_minute, 1, (some .int), [], 0, 0, 0, [])
abbrev mL_isDown : zM := (yL_isDown, cL_isDown, 1, (some .boolean), [], 0, 0, 0, [])
abbrev mL_isGone : zM := (yL_isGone, cL_isGone, 1, (some .boolean), [], 0, 0, 0, [])
abbrev mL_account : zM := (yL_account, cL_account, 1, (some .int), [], 0, 0, 0, [])
abbrev mL_waits : zM := (yL_waits, cL_waits, 4, (some .int), [], 1, 20, 0, [])
abbrev mL_waitAt : zM := (yL_waitAt, cL_waitAt, 5, (some .int), [], 1, 20, 0, [])
abbrev mL_goesTo : zM := (yL_goesTo, cL_goesTo, 6, none, [], 0, 0, 0, [])
abbrev mL_learns : zM := (yL_learns, cL_learns, 9, (some .int), [], 1, 20, 0, [])
abbrev mL_isWith : zM := (yL_isWith, cL_isWith, 5, (some .int), [], 0, 0, 0, [])
abbrev mL_goes : zM := (yL_goes, cL_goes, 16, (some .long), [], 1, 24, 0, [8])
abbrev mL_isTold : zM := (yL_isTold, cL_isTold, 20, (some .boolean), [], 9, 152, 400, [15, 18])
abbrev mL_give : zM := (yL_give, cL_give, 5, (some .int), [(0, 7, 10, 14), (0, 7, 16, 16)], 7, 104, 1, [])
abbrev mL_giveBack : zM := (yL_giveBack, cL_giveBack, 4, (some .int), [(0, 6, 9, 14), (0, 6, 14, 16)], 7, 104, 1, [])
abbrev mL_assign : zM := (yL_assign, cL_assign, 5, (some .int), [(0, 7, 10, 14), (0, 7, 16, 25), (0, 7, 22, 16)], 8, 125, 3, [])
abbrev mL_end : zM := (yL_end, cL_end, 4, (some .int), [(0, 6, 9, 14), (0, 6, 14, 16)], 8, 125, 2, [])
abbrev mL_swap : zM := (yL_swap, cL_swap, 5, (some .int), [(0, 7, 10, 14), (0, 7, 16, 25), (0, 7, 22, 16)], 8, 126, 3, [])
abbrev mL_emergency : zM := (yL_emergency, cL_emergency, 4, (some .int), [(0, 6, 9, 14), (0, 6, 14, 16)], 8, 124, 2, [])
abbrev mL_endFirm : zM := (yL_endFirm, cL_endFirm, 5, (some .int), [(0, 7, 10, 14), (0, 7, 16, 25), (0, 7, 22, 16)], 8, 126, 3, [])
abbrev mL_order : zM := (yL_order, cL_order, 7, (some .int), [(0, 11, 14, 14), (0, 11, 20, 25), (0, 11, 26, 16)], 8, 127, 4, [])
abbrev mL_cancel : zM := (yL_cancel, cL_cancel, 4, (some .int), [(0, 6, 9, 14), (0, 6, 14, 16)], 8, 124, 2, [])
abbrev mL_reverse : zM := (yL_reverse, cL_reverse, 4, (some .int), [(0, 6, 9, 14), (0, 6, 14, 16)], 8, 125, 2, [])
abbrev mL_pass : zM := (yL_pass, cL_pass, 4, (some .int), [(0, 6, 9, 25), (0, 6, 14, 16)], 7, 136, 1, [])
abbrev mL_setLag : zM := (yL_setLag, cL_setLag, 5, (some .int), [(0, 7, 10, 14), (0, 7, 16, 25)], 8, 125, 2, [])
abbrev mL_setDown : zM := (yL_setDown, cL_setDown, 5, (some .int), [(0, 7, 10, 14)], 8, 125, 1, [])
abbrev mL_correct : zM := (yL_correct, cL_correct, 4, (some .int), [(0, 6, 9, 14)], 8, 124, 1, [])
abbrev mL_server : zM := (yL_server, cL_server, 4, (some .int), [(0, 6, 9, 14)], 8, 123, 1, [])
abbrev mL_serverAnew : zM := (yL_serverAnew, cL_serverAnew, 4, (some .int), [(0, 6, 9, 14)], 8, 123, 1, [])
abbrev mL_number : zM := (yL_number, cL_number, 5, (some .int), [(0, 7, 10, 14), (0, 7, 16, 25)], 8, 125, 2, [])
abbrev mL_of : zM := (yL_of, cL_of, 5, (some .int), [(0, 7, 10, 14), (0, 7, 16, 25)], 8, 125, 2, [])
abbrev mL_room : zM := (yL_room, cL_room, 4, (some .int), [(0, 6, 9, 25)], 7, 103, 1, [])
abbrev mL_firm : zM := (yL_firm, cL_firm, 5, (some .int), [(0, 7, 10, 14), (0, 7, 16, 25)], 8, 125, 2, [])
abbrev mL_known : zM := (yL_known, cL_known, 5, (some .int), [(0, 7, 10, 14)], 8, 124, 2, [])
abbrev mL_audit : zM := (yL_audit, cL_audit, 4, (some .int), [(0, 6, 9, 14)], 8, 125, 1, [])
abbrev mL_hop : zM := (yL_hop, cL_hop, 7, (some .int), [(0, 11, 14, 14), (0, 11, 20, 25)], 8, 126, 4, [])
abbrev mL_why : zM := (yL_why, cL_why, 6, (some .int), [(0, 9, 12, 14), (0, 9, 18, 25)], 8, 125, 3, [])
abbrev mL_dial : zM := (yL_dial, cL_dial, 6, (some .int), [(0, 9, 12, 14), (0, 9, 18, 25), (0, 9, 24, 16)], 8, 127, 4, [])
abbrev mL_law : zM := (yL_law, cL_law, 50, (some .boolean), [], 10, 191, 100000, [41, 44])
theorem z_in_ws {C : String} {T : u_T} {N : Nat} (h : ((List.range N).map (u_lay C T)).all (fun w => decide (w ∈ lw_tbl) && goodWord w) = true) : ∀ w ∈ u_ws C T N, w ∈ z_big := fun w hw => by
  have h1 := List.all_eq_true.mp h w hw
  rw [Bool.and_eq_true, decide_eq_true_eq] at h1
  exact z_big_of h1.1 h1.2
theorem z_ws0 : ∀ w ∈ u_ws RX0 TX0 6, w ∈ z_big := z_in_ws (by decide +kernel)
theorem z_ws1 : ∀ w ∈ u_ws RX1 TX1 6, w ∈ z_big := z_in_ws (by decide +kernel)
theorem z_ws2 : ∀ w ∈ u_ws RX2 TX2 4, w ∈ z_big := z_in_ws (by decide +kernel)
theorem z_ws3 : ∀ w ∈ u_ws RX3 TX3 4, w ∈ z_big := z_in_ws (by decide +kernel)
theorem z_ws4 : ∀ w ∈ u_ws RX4 TX4 7, w ∈ z_big := z_in_ws (by decide +kernel)
theorem z_ws5 : ∀ w ∈ u_ws RX5 TX5 2, w ∈ z_big := z_in_ws (by decide +kernel)
theorem z_ws6 : ∀ w ∈ u_ws RX6 TX6 8, w ∈ z_big := z_in_ws (by decide +kernel)
theorem z_all_big {L : List Cond} (h : L.all (fun w => decide (w ∈ lw_tbl) && goodWord w) = true) : ∀ w ∈ L, w ∈ z_big := fun w hw => by
  have h1 := List.all_eq_true.mp h w hw
  rw [Bool.and_eq_true, decide_eq_true_eq] at h1
  exact z_big_of h1.1 h1.2
theorem fk_X0_11 : z_fk RX0 11 0 0 := ⟨RX0, TX0, 6, rfl, by decide, z_ws0, z_big_of (by decide +kernel) rfl, rfl⟩
theorem fk_X0_15 : z_fk RX0 15 0 1 := ⟨RX0, TX0, 6, rfl, by decide, z_ws0, z_big_of (by decide +kernel) rfl, rfl⟩
theorem fk_X0_18 : z_fk RX0 18 0 2 := ⟨RX0, TX0, 6, rfl, by decide, z_ws0, z_big_of (by decide +kernel) rfl, rfl⟩
theorem fk_X0_21 : z_fk RX0 21 0 3 := ⟨RX0, TX0, 6, rfl, by decide, z_ws0, z_big_of (by decide +kernel) rfl, rfl⟩
theorem fk_X0_25 : z_fk RX0 25 0 4 := ⟨RX0, TX0, 6, rfl, by decide, z_ws0, z_big_of (by decide +kernel) rfl, rfl⟩
theorem fk_X0_30 : z_fk RX0 30 0 5 := ⟨RX0, TX0, 6, rfl, by decide, z_ws0, z_big_of (by decide +kernel) rfl, rfl⟩
theorem fk_X1_9 : z_fk RX1 9 1 0 := ⟨RX1, TX1, 6, rfl, by decide, z_ws1, z_big_of (by decide +kernel) rfl, rfl⟩
theorem fk_X1_15 : z_fk RX1 15 1 1 := ⟨RX1, TX1, 6, rfl, by decide, z_ws1, z_big_of (by decide +kernel) rfl, rfl⟩
theorem fk_X1_18 : z_fk RX1 18 1 2 := ⟨RX1, TX1, 6, rfl, by decide, z_ws1, z_big_of (by decide +kernel) rfl, rfl⟩
theorem fk_X1_21 : z_fk RX1 21 1 3 := ⟨RX1, TX1, 6, rfl, by decide, z_ws1, z_big_of (by decide +kernel) rfl, rfl⟩
theorem fk_X1_24 : z_fk RX1 24 1 4 := ⟨RX1, TX1, 6, rfl, by decide, z_ws1, z_big_of (by decide +kernel) rfl, rfl⟩
theorem fk_X1_27 : z_fk RX1 27 1 5 := ⟨RX1, TX1, 6, rfl, by decide, z_ws1, z_big_of (by decide +kernel) rfl, rfl⟩
theorem fk_X2_9 : z_fk RX2 9 2 0 := ⟨RX2, TX2, 4, rfl, by decide, z_ws2, z_big_of (by decide +kernel) rfl, rfl⟩
theorem fk_X2_15 : z_fk RX2 15 2 1 := ⟨RX2, TX2, 4, rfl, by decide, z_ws2, z_big_of (by decide +kernel) rfl, rfl⟩
theorem fk_X2_18 : z_fk RX2 18 2 2 := ⟨RX2, TX2, 4, rfl, by decide, z_ws2, z_big_of (by decide +kernel) rfl, rfl⟩
theorem fk_X2_22 : z_fk RX2 22 2 3 := ⟨RX2, TX2, 4, rfl, by decide, z_ws2, z_big_of (by decide +kernel) rfl, rfl⟩
theorem fk_X3_11 : z_fk RX3 11 3 0 := ⟨RX3, TX3, 4, rfl, by decide, z_ws3, z_big_of (by decide +kernel) rfl, rfl⟩
theorem fk_X3_15 : z_fk RX3 15 3 1 := ⟨RX3, TX3, 4, rfl, by decide, z_ws3, z_big_of (by decide +kernel) rfl, rfl⟩
theorem fk_X3_19 : z_fk RX3 19 3 2 := ⟨RX3, TX3, 4, rfl, by decide, z_ws3, z_big_of (by decide +kernel) rfl, rfl⟩
theorem fk_X3_22 : z_fk RX3 22 3 3 := ⟨RX3, TX3, 4, rfl, by decide, z_ws3, z_big_of (by decide +kernel) rfl, rfl⟩
theorem fk_X4_9 : z_fk RX4 9 4 0 := ⟨RX4, TX4, 7, rfl, by decide, z_ws4, z_big_of (by decide +kernel) rfl, rfl⟩
theorem fk_X4_15 : z_fk RX4 15 4 1 := ⟨RX4, TX4, 7, rfl, by decide, z_ws4, z_big_of (by decide +kernel) rfl, rfl⟩
theorem fk_X4_18 : z_fk RX4 18 4 2 := ⟨RX4, TX4, 7, rfl, by decide, z_ws4, z_big_of (by decide +kernel) rfl, rfl⟩
theorem fk_X4_21 : z_fk RX4 21 4 3 := ⟨RX4, TX4, 7, rfl, by decide, z_ws4, z_big_of (by decide +kernel) rfl, rfl⟩
theorem fk_X4_24 : z_fk RX4 24 4 4 := ⟨RX4, TX4, 7, rfl, by decide, z_ws4, z_big_of (by decide +kernel) rfl, rfl⟩
theorem fk_X4_27 : z_fk RX4 27 4 5 := ⟨RX4, TX4, 7, rfl, by decide, z_ws4, z_big_of (by decide +kernel) rfl, rfl⟩
theorem fk_X4_30 : z_fk RX4 30 4 6 := ⟨RX4, TX4, 7, rfl, by decide, z_ws4, z_big_of (by decide +kernel) rfl, rfl⟩
theorem fk_X5_9 : z_fk RX5 9 5 0 := ⟨RX5, TX5, 2, rfl, by decide, z_ws5, z_big_of (by decide +kernel) rfl, rfl⟩
theorem fk_X5_15 : z_fk RX5 15 5 1 := ⟨RX5, TX5, 2, rfl, by decide, z_ws5, z_big_of (by decide +kernel) rfl, rfl⟩
theorem fk_X6_9 : z_fk RX6 9 6 0 := ⟨RX6, TX6, 8, rfl, by decide, z_ws6, z_big_of (by decide +kernel) rfl, rfl⟩
theorem fk_X6_16 : z_fk RX6 16 6 1 := ⟨RX6, TX6, 8, rfl, by decide, z_ws6, z_big_of (by decide +kernel) rfl, rfl⟩
theorem fk_X6_23 : z_fk RX6 23 6 2 := ⟨RX6, TX6, 8, rfl, by decide, z_ws6, z_big_of (by decide +kernel) rfl, rfl⟩
theorem fk_X6_30 : z_fk RX6 30 6 3 := ⟨RX6, TX6, 8, rfl, by decide, z_ws6, z_big_of (by decide +kernel) rfl, rfl⟩
theorem fk_X6_37 : z_fk RX6 37 6 4 := ⟨RX6, TX6, 8, rfl, by decide, z_ws6, z_big_of (by decide +kernel) rfl, rfl⟩
theorem fk_X6_44 : z_fk RX6 44 6 5 := ⟨RX6, TX6, 8, rfl, by decide, z_ws6, z_big_of (by decide +kernel) rfl, rfl⟩
theorem fk_X6_51 : z_fk RX6 51 6 6 := ⟨RX6, TX6, 8, rfl, by decide, z_ws6, z_big_of (by decide +kernel) rfl, rfl⟩
theorem fk_X6_55 : z_fk RX6 55 6 7 := ⟨RX6, TX6, 8, rfl, by decide, z_ws6, z_big_of (by decide +kernel) rfl, rfl⟩
theorem fk_X6_79 : z_fk RX6 79 2 0 := ⟨RX2, TX2, 4, rfl, by decide, z_ws2, z_big_of (by decide +kernel) rfl, rfl⟩
theorem fk_X6_129 : z_fk RX6 129 1 0 := ⟨RX1, TX1, 6, rfl, by decide, z_ws1, z_big_of (by decide +kernel) rfl, rfl⟩
theorem fk_X6_141 : z_fk RX6 141 1 1 := ⟨RX1, TX1, 6, rfl, by decide, z_ws1, z_big_of (by decide +kernel) rfl, rfl⟩
theorem fk_X6_144 : z_fk RX6 144 1 3 := ⟨RX1, TX1, 6, rfl, by decide, z_ws1, z_big_of (by decide +kernel) rfl, rfl⟩
theorem fk_X6_147 : z_fk RX6 147 1 4 := ⟨RX1, TX1, 6, rfl, by decide, z_ws1, z_big_of (by decide +kernel) rfl, rfl⟩
theorem fk_X6_172 : z_fk RX6 172 4 6 := ⟨RX4, TX4, 7, rfl, by decide, z_ws4, z_big_of (by decide +kernel) rfl, rfl⟩
theorem fk_X6_187 : z_fk RX6 187 4 0 := ⟨RX4, TX4, 7, rfl, by decide, z_ws4, z_big_of (by decide +kernel) rfl, rfl⟩
theorem fk_X6_190 : z_fk RX6 190 4 5 := ⟨RX4, TX4, 7, rfl, by decide, z_ws4, z_big_of (by decide +kernel) rfl, rfl⟩
theorem fk_X6_204 : z_fk RX6 204 4 4 := ⟨RX4, TX4, 7, rfl, by decide, z_ws4, z_big_of (by decide +kernel) rfl, rfl⟩
theorem fk_X6_207 : z_fk RX6 207 4 2 := ⟨RX4, TX4, 7, rfl, by decide, z_ws4, z_big_of (by decide +kernel) rfl, rfl⟩
theorem fk_X6_213 : z_fk RX6 213 4 3 := ⟨RX4, TX4, 7, rfl, by decide, z_ws4, z_big_of (by decide +kernel) rfl, rfl⟩
theorem fk_X6_231 : z_fk RX6 231 2 2 := ⟨RX2, TX2, 4, rfl, by decide, z_ws2, z_big_of (by decide +kernel) rfl, rfl⟩
theorem fk_X6_234 : z_fk RX6 234 2 1 := ⟨RX2, TX2, 4, rfl, by decide, z_ws2, z_big_of (by decide +kernel) rfl, rfl⟩
theorem fk_X6_262 : z_fk RX6 262 4 1 := ⟨RX4, TX4, 7, rfl, by decide, z_ws4, z_big_of (by decide +kernel) rfl, rfl⟩
theorem fk_X6_274 : z_fk RX6 274 2 3 := ⟨RX2, TX2, 4, rfl, by decide, z_ws2, z_big_of (by decide +kernel) rfl, rfl⟩
theorem fk_X6_309 : z_fk RX6 309 1 5 := ⟨RX1, TX1, 6, rfl, by decide, z_ws1, z_big_of (by decide +kernel) rfl, rfl⟩
theorem fk_X6_325 : z_fk RX6 325 0 5 := ⟨RX0, TX0, 6, rfl, by decide, z_ws0, z_big_of (by decide +kernel) rfl, rfl⟩
theorem fk_X6_339 : z_fk RX6 339 5 1 := ⟨RX5, TX5, 2, rfl, by decide, z_ws5, z_big_of (by decide +kernel) rfl, rfl⟩
theorem fp_6_7 : z_fp 6 7 := ⟨RX6, TX6, 8, tyX6, rfl, tyX6_ok, nmX6, rfl, by decide +kernel⟩
theorem fp_4_6 : z_fp 4 6 := ⟨RX4, TX4, 7, tyX4, rfl, tyX4_ok, nmX4, rfl, by decide +kernel⟩
theorem fp_0_3 : z_fp 0 3 := ⟨RX0, TX0, 6, tyX0, rfl, tyX0_ok, nmX0, rfl, by decide +kernel⟩
theorem fp_3_3 : z_fp 3 3 := ⟨RX3, TX3, 4, tyX3, rfl, tyX3_ok, nmX3, rfl, by decide +kernel⟩
theorem fp_5_1 : z_fp 5 1 := ⟨RX5, TX5, 2, tyX5, rfl, tyX5_ok, nmX5, rfl, by decide +kernel⟩
theorem ck_X2_25 : z_nk RX2 25 1 RX6 mX6_isFirm := ⟨z_all_big (by decide +kernel), ⟨rfl, rfl, rfl, rfl⟩, by decide +kernel⟩
theorem ck_X3_26 : z_vk RX3 26 3 3 mX3_note := ⟨TX3, 4, rfl, z_all_big (by decide +kernel), by decide +kernel⟩
theorem ck_X4_34 : z_vk RX4 34 4 1 mX4_waitingFor := ⟨TX4, 7, rfl, z_all_big (by decide +kernel), by decide +kernel⟩
theorem ck_X4_38 : z_vk RX4 38 4 1 mX4_countWaitingAt := ⟨TX4, 7, rfl, z_all_big (by decide +kernel), by decide +kernel⟩
theorem ck_X6_65 : z_sk RX6 65 1 mX6_isBlock := ⟨z_all_big (by decide +kernel), by decide +kernel⟩
theorem ck_X6_69 : z_sk RX6 69 1 mX6_isFirm := ⟨z_all_big (by decide +kernel), by decide +kernel⟩
theorem ck_X6_88 : z_vk RX6 88 6 1 mX6_countBlocksOf := ⟨TX6, 8, rfl, z_all_big (by decide +kernel), by decide +kernel⟩
theorem ck_X6_109 : z_vk RX6 109 1 1 mX1_isInUse := ⟨TX1, 6, rfl, z_all_big (by decide +kernel), by decide +kernel⟩
theorem ck_X6_112 : z_vk RX6 112 1 2 mX1_isInQuarantine := ⟨TX1, 6, rfl, z_all_big (by decide +kernel), by decide +kernel⟩
theorem ck_X6_94 : z_vk RX6 94 6 1 mX6_isBlockBusy := ⟨TX6, 8, rfl, z_all_big (by decide +kernel), by decide +kernel⟩
theorem ck_X6_99 : z_sk RX6 99 1 mX6_requireNumber := ⟨z_all_big (by decide +kernel), by decide +kernel⟩
theorem ck_X6_103 : z_sk RX6 103 1 mX6_requireSecret := ⟨z_all_big (by decide +kernel), by decide +kernel⟩
theorem ck_X6_106 : z_vk RX6 106 6 1 mX6_holderOf := ⟨TX6, 8, rfl, z_all_big (by decide +kernel), by decide +kernel⟩
theorem ck_X6_118 : z_vk RX6 118 1 3 mX1_begin := ⟨TX1, 6, rfl, z_all_big (by decide +kernel), by decide +kernel⟩
theorem ck_X6_122 : z_vk RX6 122 3 2 mX3_serves := ⟨TX3, 4, rfl, z_all_big (by decide +kernel), by decide +kernel⟩
theorem ck_X6_126 : z_vk RX6 126 6 1 mX6_requireInUse := ⟨TX6, 8, rfl, z_all_big (by decide +kernel), by decide +kernel⟩
theorem ck_X6_132 : z_vk RX6 132 1 2 mX1_finish := ⟨TX1, 6, rfl, z_all_big (by decide +kernel), by decide +kernel⟩
theorem ck_X6_135 : z_vk RX6 135 4 1 mX4_cancelFor := ⟨TX4, 7, rfl, z_all_big (by decide +kernel), by decide +kernel⟩
theorem ck_X6_138 : z_vk RX6 138 0 3 mX0_add := ⟨TX0, 6, rfl, z_all_big (by decide +kernel), by decide +kernel⟩
theorem ck_X6_312 : z_vk RX6 312 6 4 mX6_announceHeir := ⟨TX6, 8, rfl, z_all_big (by decide +kernel), by decide +kernel⟩
theorem ck_X6_150 : z_sk RX6 150 1 mX6_requireFirm := ⟨z_all_big (by decide +kernel), by decide +kernel⟩
theorem ck_X6_160 : z_vk RX6 160 6 3 mX6_inheritBlock := ⟨TX6, 8, rfl, z_all_big (by decide +kernel), by decide +kernel⟩
theorem ck_X6_164 : z_vk RX6 164 3 2 mX3_firmEnds := ⟨TX3, 4, rfl, z_all_big (by decide +kernel), by decide +kernel⟩
theorem ck_X6_167 : z_vk RX6 167 4 1 mX4_cancelBy := ⟨TX4, 7, rfl, z_all_big (by decide +kernel), by decide +kernel⟩
theorem ck_X6_259 : z_vk RX6 259 4 1 mX4_waitingFor := ⟨TX4, 7, rfl, z_all_big (by decide +kernel), by decide +kernel⟩
theorem ck_X6_253 : z_vk RX6 253 1 2 mX1_isSilent := ⟨TX1, 6, rfl, z_all_big (by decide +kernel), by decide +kernel⟩
theorem ck_X6_265 : z_sk RX6 265 1 mX6_isInWindow := ⟨z_all_big (by decide +kernel), by decide +kernel⟩
theorem ck_X6_268 : z_vk RX6 268 4 1 mX4_countWaitingAt := ⟨TX4, 7, rfl, z_all_big (by decide +kernel), by decide +kernel⟩
theorem ck_X6_177 : z_vk RX6 177 6 4 mX6_reasonToReject := ⟨TX6, 8, rfl, z_all_big (by decide +kernel), by decide +kernel⟩
theorem ck_X6_181 : z_vk RX6 181 4 5 mX4_add := ⟨TX4, 7, rfl, z_all_big (by decide +kernel), by decide +kernel⟩
theorem ck_X6_184 : z_vk RX6 184 6 1 mX6_requireOrder := ⟨TX6, 8, rfl, z_all_big (by decide +kernel), by decide +kernel⟩
theorem ck_X6_195 : z_vk RX6 195 4 0 mX4_countWaiting := ⟨TX4, 7, rfl, z_all_big (by decide +kernel), by decide +kernel⟩
theorem ck_X6_199 : z_vk RX6 199 6 1 mX6_canReverse := ⟨TX6, 8, rfl, z_all_big (by decide +kernel), by decide +kernel⟩
theorem ck_X6_210 : z_vk RX6 210 6 2 mX6_moveTo := ⟨TX6, 8, rfl, z_all_big (by decide +kernel), by decide +kernel⟩
theorem ck_X6_216 : z_vk RX6 216 2 3 mX2_pay := ⟨TX2, 4, rfl, z_all_big (by decide +kernel), by decide +kernel⟩
theorem ck_X6_256 : z_vk RX6 256 1 2 mX1_mayBeCalledBack := ⟨TX1, 6, rfl, z_all_big (by decide +kernel), by decide +kernel⟩
theorem ck_X6_319 : z_vk RX6 319 4 1 mX4_putOff := ⟨TX4, 7, rfl, z_all_big (by decide +kernel), by decide +kernel⟩
theorem ck_X6_316 : z_vk RX6 316 6 1 mX6_carryOut := ⟨TX6, 8, rfl, z_all_big (by decide +kernel), by decide +kernel⟩
theorem ck_X6_322 : z_vk RX6 322 0 2 mX0_learnUpTo := ⟨TX0, 6, rfl, z_all_big (by decide +kernel), by decide +kernel⟩
theorem ck_X6_223 : z_vk RX6 223 6 0 mX6_carryOutDueOrders := ⟨TX6, 8, rfl, z_all_big (by decide +kernel), by decide +kernel⟩
theorem ck_X6_226 : z_vk RX6 226 6 0 mX6_learnInTime := ⟨TX6, 8, rfl, z_all_big (by decide +kernel), by decide +kernel⟩
theorem ck_X6_237 : z_vk RX6 237 0 1 mX0_countUnknown := ⟨TX0, 6, rfl, z_all_big (by decide +kernel), by decide +kernel⟩
theorem ck_X6_240 : z_vk RX6 240 0 1 mX0_learnAll := ⟨TX0, 6, rfl, z_all_big (by decide +kernel), by decide +kernel⟩
theorem ck_X6_243 : z_vk RX6 243 3 1 mX3_replay := ⟨TX3, 4, rfl, z_all_big (by decide +kernel), by decide +kernel⟩
theorem ck_X6_246 : z_sk RX6 246 2 mX6_requireWhat := ⟨z_all_big (by decide +kernel), by decide +kernel⟩
theorem ck_X6_249 : z_sk RX6 249 1 mX6_asInt := ⟨z_all_big (by decide +kernel), by decide +kernel⟩
theorem ck_X6_271 : z_vk RX6 271 1 1 mX1_countServedBy := ⟨TX1, 6, rfl, z_all_big (by decide +kernel), by decide +kernel⟩
theorem ck_X6_277 : z_vk RX6 277 6 2 mX6_placeByTable := ⟨TX6, 8, rfl, z_all_big (by decide +kernel), by decide +kernel⟩
theorem ck_X6_289 : z_vk RX6 289 5 1 mX5_hopAt := ⟨TX5, 2, rfl, z_all_big (by decide +kernel), by decide +kernel⟩
theorem ck_X6_336 : z_vk RX6 336 5 1 mX5_has := ⟨TX5, 2, rfl, z_all_big (by decide +kernel), by decide +kernel⟩
theorem ck_X6_331 : z_vk RX6 331 5 1 mX5_add := ⟨TX5, 2, rfl, z_all_big (by decide +kernel), by decide +kernel⟩
theorem ck_X6_329 : z_vk RX6 329 5 1 mX5_begin := ⟨TX5, 2, rfl, z_all_big (by decide +kernel), by decide +kernel⟩
theorem ck_X6_333 : z_vk RX6 333 6 3 mX6_followTables := ⟨TX6, 8, rfl, z_all_big (by decide +kernel), by decide +kernel⟩
theorem ck_X6_283 : z_sk RX6 283 1 mX6_requireWay := ⟨z_all_big (by decide +kernel), by decide +kernel⟩
theorem ck_X6_286 : z_vk RX6 286 6 3 mX6_traceCall := ⟨TX6, 8, rfl, z_all_big (by decide +kernel), by decide +kernel⟩
theorem ck_X6_292 : z_vk RX6 292 6 0 mX6_payForCall := ⟨TX6, 8, rfl, z_all_big (by decide +kernel), by decide +kernel⟩
theorem ck_L_131 : z_vk RL 131 6 0 mX6_minute := ⟨TX6, 8, rfl, z_all_big (by decide +kernel), by decide +kernel⟩
theorem ck_L_8 : z_vk RL 8 6 2 mX6_give := ⟨TX6, 8, rfl, z_all_big (by decide +kernel), by decide +kernel⟩
theorem ck_L_18 : z_vk RL 18 6 1 mX6_giveBack := ⟨TX6, 8, rfl, z_all_big (by decide +kernel), by decide +kernel⟩
theorem ck_L_22 : z_vk RL 22 6 2 mX6_assign := ⟨TX6, 8, rfl, z_all_big (by decide +kernel), by decide +kernel⟩
theorem ck_L_27 : z_vk RL 27 6 1 mX6_end := ⟨TX6, 8, rfl, z_all_big (by decide +kernel), by decide +kernel⟩
theorem ck_L_30 : z_vk RL 30 6 2 mX6_swap := ⟨TX6, 8, rfl, z_all_big (by decide +kernel), by decide +kernel⟩
theorem ck_L_33 : z_vk RL 33 6 1 mX6_emergency := ⟨TX6, 8, rfl, z_all_big (by decide +kernel), by decide +kernel⟩
theorem ck_L_36 : z_vk RL 36 6 2 mX6_endFirm := ⟨TX6, 8, rfl, z_all_big (by decide +kernel), by decide +kernel⟩
theorem ck_L_39 : z_vk RL 39 6 4 mX6_order := ⟨TX6, 8, rfl, z_all_big (by decide +kernel), by decide +kernel⟩
theorem ck_L_43 : z_vk RL 43 6 1 mX6_cancel := ⟨TX6, 8, rfl, z_all_big (by decide +kernel), by decide +kernel⟩
theorem ck_L_46 : z_vk RL 46 6 1 mX6_reverse := ⟨TX6, 8, rfl, z_all_big (by decide +kernel), by decide +kernel⟩
theorem ck_L_49 : z_vk RL 49 6 1 mX6_pass := ⟨TX6, 8, rfl, z_all_big (by decide +kernel), by decide +kernel⟩
theorem ck_L_52 : z_vk RL 52 6 2 mX6_setLag := ⟨TX6, 8, rfl, z_all_big (by decide +kernel), by decide +kernel⟩
theorem ck_L_55 : z_vk RL 55 6 2 mX6_setDown := ⟨TX6, 8, rfl, z_all_big (by decide +kernel), by decide +kernel⟩
theorem ck_L_59 : z_vk RL 59 6 1 mX6_correct := ⟨TX6, 8, rfl, z_all_big (by decide +kernel), by decide +kernel⟩
theorem ck_L_62 : z_vk RL 62 6 1 mX6_server := ⟨TX6, 8, rfl, z_all_big (by decide +kernel), by decide +kernel⟩
theorem ck_L_65 : z_vk RL 65 6 1 mX6_serverAnew := ⟨TX6, 8, rfl, z_all_big (by decide +kernel), by decide +kernel⟩
theorem ck_L_68 : z_vk RL 68 6 2 mX6_number := ⟨TX6, 8, rfl, z_all_big (by decide +kernel), by decide +kernel⟩
theorem ck_L_71 : z_vk RL 71 6 2 mX6_of := ⟨TX6, 8, rfl, z_all_big (by decide +kernel), by decide +kernel⟩
theorem ck_L_74 : z_vk RL 74 6 1 mX6_room := ⟨TX6, 8, rfl, z_all_big (by decide +kernel), by decide +kernel⟩
theorem ck_L_77 : z_vk RL 77 6 2 mX6_firm := ⟨TX6, 8, rfl, z_all_big (by decide +kernel), by decide +kernel⟩
theorem ck_L_80 : z_vk RL 80 6 2 mX6_known := ⟨TX6, 8, rfl, z_all_big (by decide +kernel), by decide +kernel⟩
theorem ck_L_83 : z_vk RL 83 6 1 mX6_audit := ⟨TX6, 8, rfl, z_all_big (by decide +kernel), by decide +kernel⟩
theorem ck_L_86 : z_vk RL 86 6 4 mX6_hop := ⟨TX6, 8, rfl, z_all_big (by decide +kernel), by decide +kernel⟩
theorem ck_L_89 : z_vk RL 89 6 3 mX6_why := ⟨TX6, 8, rfl, z_all_big (by decide +kernel), by decide +kernel⟩
theorem ck_L_93 : z_vk RL 93 6 3 mX6_dial := ⟨TX6, 8, rfl, z_all_big (by decide +kernel), by decide +kernel⟩
end
section
/-! ===== the state read; rules that name what is read ===== -/
theorem za_sA (S : zS) (k k' : Nat) (i v j : Int) : (z_sA S k i v).2.1 k' j = if k' = k ∧ j = i then v else S.2.1 k' j := rfl
theorem za_sS (S : zS) (i k' : Nat) (v j : Int) : (z_sS S i v).2.1 k' j = S.2.1 k' j := rfl
theorem zv_sA (S : zS) (k i' : Nat) (i v : Int) : (z_sA S k i v).1 i' = S.1 i' := rfl
theorem zv_sS (S : zS) (i i' : Nat) (v : Int) : (z_sS S i v).1 i' = if i' = i then v else S.1 i' := rfl
theorem za_ne {S : zS} {k k' : Nat} {i v j : Int} (h : k' ≠ k) : (z_sA S k i v).2.1 k' j = S.2.1 k' j := by rw [za_sA, if_neg (fun q => h q.1)]
theorem za_ni {S : zS} {k k' : Nat} {i v j : Int} (h : j ≠ i) : (z_sA S k i v).2.1 k' j = S.2.1 k' j := by rw [za_sA, if_neg (fun q => h q.2)]
theorem za_eq {S : zS} {k : Nat} {i v : Int} : (z_sA S k i v).2.1 k i = v := by rw [za_sA, if_pos ⟨rfl, rfl⟩]
section
variable {M : zM} {F : zF} {u pc q : Nat} {al : List (Option zV)} {st : List zV} {S : zS}
theorem g_getv {ix o ci sl i : Nat} {z : Int} {fl : List (Nat ⊕ Nat)} (hd : decode (m_c M) pc = .ok (.getfield ix, 3)) (hq : pc + 3 = q) (hk : z_fk (m_y M).cls ix ci sl) (ho : z_obj o = some (ci, fl)) (hf : fl[sl]? = some (.inr i)) (hv : S.1 i = z) (k : z_G M F u q al (zI z :: st) S) : z_G M F u pc al (zR o :: st) S := by
  subst hv
  exact g_geti hd hq hk ho hf k
theorem g_ildv {o n : Nat} {i z : Int} (hd : decode (m_c M) pc = .ok (.iaload, 1)) (hq : pc + 1 = q) (ho : o < 49 ∧ z_obj o = none ∧ z_arr o = (0, n)) (h0 : 0 ≤ i) (h1 : i < n) (hv : S.2.1 o i = z) (k : z_G M F u q al (zI z :: st) S) : z_G M F u pc al (zI i :: zR o :: st) S := by
  subst hv
  exact g_iald hd hq ho h0 h1 k
theorem g_zldv {o n : Nat} {i z : Int} (hd : decode (m_c M) pc = .ok (.baload, 1)) (hq : pc + 1 = q) (ho : o < 49 ∧ z_obj o = none ∧ z_arr o = (1, n)) (h0 : 0 ≤ i) (h1 : i < n) (hv : S.2.1 o i = z) (k : z_G M F u q al (zI z :: st) S) : z_G M F u pc al (zI i :: zR o :: st) S := by
  subst hv
  exact g_zald hd hq ho h0 h1 k
/-- the top of the stack by another name -/
theorem g_top {x z : Int} (h : x = z) (k : z_G M F u pc al (zI z :: st) S) : z_G M F u pc al (zI x :: st) S := h ▸ k
theorem g_state {S' : zS} (h : S = S') (k : z_G M F u pc al st S') : z_G M F u pc al st S := h ▸ k
theorem g_locals {al' : List (Option zV)} (h : al = al') (k : z_G M F u pc al' st S) : z_G M F u pc al st S := h ▸ k
end
theorem z_row {i : Int} (h0 : 0 ≤ i) (h1 : i < 6) : 30 + i.toNat < 49 ∧ z_obj (30 + i.toNat) = none ∧ z_arr (30 + i.toNat) = (0, 200) := by
  have h : i = 0 ∨ i = 1 ∨ i = 2 ∨ i = 3 ∨ i = 4 ∨ i = 5 := by omega
  rcases h with rfl | rfl | rfl | rfl | rfl | rfl <;> decide
/-! counting -/
def z_ct (p : Nat → Bool) : Nat → Nat
  | 0 => 0
  | n + 1 => z_ct p n + (if p n then 1 else 0)
theorem z_ct_le (p : Nat → Bool) : ∀ n, z_ct p n ≤ n
  | 0 => Nat.le_refl _
  | n + 1 => by
    have h := z_ct_le p n
    unfold z_ct
    split <;> omega
theorem z_ct_cong {p q : Nat → Bool} : ∀ {n : Nat}, (∀ k, k < n → p k = q k) → z_ct p n = z_ct q n
  | 0, _ => rfl
  | n + 1, h => by unfold z_ct; rw [z_ct_cong (fun k hk => h k (by omega)), h n (by omega)]
/-- the first k below n with p, else none -/
def z_first (p : Nat → Bool) : Nat → Nat → Option Nat
  | _, 0 => none
  | i, n + 1 => if p i then some i else z_first p (i + 1) n
def z_on (r : Option Nat) : Int := match r with
  | some k => (k : Int)
  | none => -1
end
section
/-! ===== Orders ===== -/
theorem z_n0 : ∀ v ∈ ([] : List zV), z_nl v := fun _ h => nomatch h
theorem z_n1 {v : zV} {l : List zV} (h : z_nl v) (t : ∀ v ∈ l, z_nl v) : ∀ w ∈ v :: l, z_nl w := List.forall_mem_cons.mpr ⟨h, t⟩
/-- the order that waits for n -/
def x_wf (S : zS) (n : Int) (c : Nat) : Option Nat := z_first (fun o => decide (S.2.1 19 o = 1 ∧ S.2.1 21 o = n)) 0 c
def x_cw (S : zS) (c : Nat) : Nat := z_ct (fun o => decide (S.2.1 19 o = 1)) c
def x_cwa (S : zS) (m : Int) (c : Nat) : Nat := z_ct (fun o => decide (S.2.1 19 o = 1 ∧ S.2.1 24 o = m)) c
theorem l_X4_waitingFor {Q : zQ} {S : zS} {n : Int} {c : Nat} (hc : S.1 1 = c) (h60 : c ≤ 60) : ∀ (k i : Nat), i + k = c → Q (.ok (some (zI (z_on (z_first (fun o => decide (S.2.1 19 o = 1 ∧ S.2.1 21 o = n)) i k))))) S → z_G mX4_waitingFor (z_F mX4_waitingFor Q) 0 2 [some (zR 3), some (zI n), some (zI (i : Int))] [] S := by
  intro k
  induction k with
  | zero =>
    intro i hi hQ
    refine g_iload_n (i := 2) (q := 3) dX4_waitingFor_2 rfl rfl rfl ?_
    refine g_aload_n (i := 0) (q := 4) dX4_waitingFor_3 rfl rfl rfl ?_
    refine g_getv (q := 7) (z := S.1 1) dX4_waitingFor_4 rfl fk_X4_30 rfl rfl rfl ?_
    refine g_icmp_ge (t := 38) (q := 10) dX4_waitingFor_7 (by decide) rfl (fun h7 => ?_) (fun h7 => (False.elim (by omega)))
    refine g_iconst (q := 39) dX4_waitingFor_38 rfl ⟨by decide, by decide⟩ ?_
    exact g_ret dX4_waitingFor_39 rfl (by decide) hQ
  | succ k ih =>
    intro i hi hQ
    have hlt : (i : Int) < S.1 1 := by omega
    unfold z_first at hQ
    refine g_iload_n (i := 2) (q := 3) dX4_waitingFor_2 rfl rfl rfl ?_
    refine g_aload_n (i := 0) (q := 4) dX4_waitingFor_3 rfl rfl rfl ?_
    refine g_getv (q := 7) (z := S.1 1) dX4_waitingFor_4 rfl fk_X4_30 rfl rfl rfl ?_
    refine g_icmp_ge (t := 38) (q := 10) dX4_waitingFor_7 (by decide) rfl (fun h7 => (False.elim (by omega))) (fun h7 => ?_)
    refine g_aload_n (i := 0) (q := 11) dX4_waitingFor_10 rfl rfl rfl ?_
    refine g_getr (q := 14) dX4_waitingFor_11 rfl fk_X4_9 rfl rfl ?_
    refine g_iload_n (i := 2) (q := 15) dX4_waitingFor_14 rfl rfl rfl ?_
    refine g_ildv (q := 16) (z := S.2.1 19 (i : Int)) dX4_waitingFor_15 rfl ⟨by decide, rfl, rfl⟩ (by omega) (by omega) rfl ?_
    refine g_iconst (q := 17) dX4_waitingFor_16 rfl ⟨by decide, by decide⟩ ?_
    refine g_icmp_ne (t := 32) (q := 20) dX4_waitingFor_17 (by decide) rfl (fun h17 => ?_) (fun h17 => ?_)
    · refine g_iinc (q := 35) (i := 2) (n := 1) dX4_waitingFor_32 rfl rfl (by constructor <;> omega) ?_
      refine g_goto (q := 0) (t := 2) dX4_waitingFor_35 (by decide) ?_
      exact ih (i + 1) (by omega) (by rw [if_neg (by simp; omega)] at hQ; exact hQ)
    · refine g_aload_n (i := 0) (q := 21) dX4_waitingFor_20 rfl rfl rfl ?_
      refine g_getr (q := 24) dX4_waitingFor_21 rfl fk_X4_18 rfl rfl ?_
      refine g_iload_n (i := 2) (q := 25) dX4_waitingFor_24 rfl rfl rfl ?_
      refine g_ildv (q := 26) (z := S.2.1 21 (i : Int)) dX4_waitingFor_25 rfl ⟨by decide, rfl, rfl⟩ (by omega) (by omega) rfl ?_
      refine g_iload_n (i := 1) (q := 27) dX4_waitingFor_26 rfl rfl rfl ?_
      refine g_icmp_ne (t := 32) (q := 30) dX4_waitingFor_27 (by decide) rfl (fun h27 => ?_) (fun h27 => ?_)
      · refine g_iinc (q := 35) (i := 2) (n := 1) dX4_waitingFor_32 rfl rfl (by constructor <;> omega) ?_
        refine g_goto (q := 0) (t := 2) dX4_waitingFor_35 (by decide) ?_
        exact ih (i + 1) (by omega) (by rw [if_neg (by simp; omega)] at hQ; exact hQ)
      · refine g_iload_n (i := 2) (q := 31) dX4_waitingFor_30 rfl rfl rfl ?_
        exact g_ret dX4_waitingFor_31 rfl (by decide) (by rw [if_pos (by simp; exact ⟨h17, h27⟩)] at hQ; exact hQ)
theorem s_X4_waitingFor {S : zS} {n : Int} {c : Nat} (hc : S.1 1 = c) (h60 : c ≤ 60) : z_Fn mX4_waitingFor [zR 3, zI n] S (some (zI (z_on (x_wf S n c)))) S := by
  refine z_enter (by decide +kernel) rfl (z_n1 trivial (z_n1 trivial z_n0)) (Nat.le_of_ble_eq_true rfl) ?_
  refine g_iconst (q := 1) dX4_waitingFor_0 rfl ⟨by decide, by decide⟩ ?_
  refine g_istore_n (i := 2) (q := 2) dX4_waitingFor_1 rfl rfl (by decide) ?_
  exact l_X4_waitingFor hc h60 c 0 (by omega) ⟨rfl, rfl⟩
theorem x_cw_s (S : zS) (i : Nat) : x_cw S (i + 1) = x_cw S i + if S.2.1 19 i = 1 then 1 else 0 := by
  unfold x_cw
  rw [z_ct]
  simp
theorem x_cwa_s (S : zS) (m : Int) (i : Nat) : x_cwa S m (i + 1) = x_cwa S m i + if S.2.1 19 i = 1 ∧ S.2.1 24 i = m then 1 else 0 := by
  unfold x_cwa
  rw [z_ct]
  simp
theorem x_cw_le (S : zS) (i : Nat) : x_cw S i ≤ i := z_ct_le _ _
theorem x_cwa_le (S : zS) (m : Int) (i : Nat) : x_cwa S m i ≤ i := z_ct_le _ _
theorem l_X4_countWaiting {Q : zQ} {S : zS} {c : Nat} (hc : S.1 1 = c) (h60 : c ≤ 60) (hQ : Q (.ok (some (zI (x_cw S c)))) S) : ∀ (k i : Nat) (w : Int), i + k = c → w = x_cw S i → z_G mX4_countWaiting (z_F mX4_countWaiting Q) 0 4 [some (zR 3), some (zI w), some (zI (i : Int))] [] S := by
  intro k
  induction k with
  | zero =>
    intro i w hi hw
    have e : i = c := by omega
    subst e
    subst hw
    refine g_iload_n (i := 2) (q := 5) dX4_countWaiting_4 rfl rfl rfl ?_
    refine g_aload_n (i := 0) (q := 6) dX4_countWaiting_5 rfl rfl rfl ?_
    refine g_getv (q := 9) (z := S.1 1) dX4_countWaiting_6 rfl fk_X4_30 rfl rfl rfl ?_
    refine g_icmp_ge (t := 31) (q := 12) dX4_countWaiting_9 (by decide) rfl (fun h9 => ?_) (fun h9 => (False.elim (by omega)))
    refine g_iload_n (i := 1) (q := 32) dX4_countWaiting_31 rfl rfl rfl ?_
    exact g_ret dX4_countWaiting_32 rfl (by decide) hQ
  | succ k ih =>
    intro i w hi hw
    have hlt : (i : Int) < S.1 1 := by omega
    have hle := x_cw_le S i
    refine g_iload_n (i := 2) (q := 5) dX4_countWaiting_4 rfl rfl rfl ?_
    refine g_aload_n (i := 0) (q := 6) dX4_countWaiting_5 rfl rfl rfl ?_
    refine g_getv (q := 9) (z := S.1 1) dX4_countWaiting_6 rfl fk_X4_30 rfl rfl rfl ?_
    refine g_icmp_ge (t := 31) (q := 12) dX4_countWaiting_9 (by decide) rfl (fun h9 => (False.elim (by omega))) (fun h9 => ?_)
    refine g_aload_n (i := 0) (q := 13) dX4_countWaiting_12 rfl rfl rfl ?_
    refine g_getr (q := 16) dX4_countWaiting_13 rfl fk_X4_9 rfl rfl ?_
    refine g_iload_n (i := 2) (q := 17) dX4_countWaiting_16 rfl rfl rfl ?_
    refine g_ildv (q := 18) (z := S.2.1 19 (i : Int)) dX4_countWaiting_17 rfl ⟨by decide, rfl, rfl⟩ (by omega) (by omega) rfl ?_
    refine g_iconst (q := 19) dX4_countWaiting_18 rfl ⟨by decide, by decide⟩ ?_
    refine g_icmp_ne (t := 25) (q := 22) dX4_countWaiting_19 (by decide) rfl (fun h19 => ?_) (fun h19 => ?_)
    · refine g_iinc (q := 28) (i := 2) (n := 1) dX4_countWaiting_25 rfl rfl (by constructor <;> omega) ?_
      refine g_goto (q := 0) (t := 4) dX4_countWaiting_28 (by decide) ?_
      exact ih (i + 1) _ (by omega) (by rw [x_cw_s]; split <;> omega)
    · refine g_iinc (q := 25) (i := 1) (n := 1) dX4_countWaiting_22 rfl rfl (by constructor <;> omega) ?_
      refine g_iinc (q := 28) (i := 2) (n := 1) dX4_countWaiting_25 rfl rfl (by constructor <;> omega) ?_
      refine g_goto (q := 0) (t := 4) dX4_countWaiting_28 (by decide) ?_
      exact ih (i + 1) _ (by omega) (by rw [x_cw_s]; split <;> omega)
theorem s_X4_countWaiting {S : zS} {c : Nat} (hc : S.1 1 = c) (h60 : c ≤ 60) : z_Fn mX4_countWaiting [zR 3] S (some (zI (x_cw S c))) S := by
  refine z_enter (by decide +kernel) rfl (z_n1 trivial z_n0) (Nat.le_of_ble_eq_true rfl) ?_
  refine g_iconst (q := 1) dX4_countWaiting_0 rfl ⟨by decide, by decide⟩ ?_
  refine g_istore_n (i := 1) (q := 2) dX4_countWaiting_1 rfl rfl (by decide) ?_
  refine g_iconst (q := 3) dX4_countWaiting_2 rfl ⟨by decide, by decide⟩ ?_
  refine g_istore_n (i := 2) (q := 4) dX4_countWaiting_3 rfl rfl (by decide) ?_
  exact l_X4_countWaiting hc h60 ⟨rfl, rfl⟩ c 0 0 (by omega) rfl
theorem l_X4_countWaitingAt {Q : zQ} {S : zS} {m : Int} {c : Nat} (hc : S.1 1 = c) (h60 : c ≤ 60) (hQ : Q (.ok (some (zI (x_cwa S m c)))) S) : ∀ (k i : Nat) (w : Int), i + k = c → w = x_cwa S m i → z_G mX4_countWaitingAt (z_F mX4_countWaitingAt Q) 0 4 [some (zR 3), some (zI m), some (zI w), some (zI (i : Int))] [] S := by
  intro k
  induction k with
  | zero =>
    intro i w hi hw
    have e : i = c := by omega
    subst e
    subst hw
    refine g_iload_n (i := 3) (q := 5) dX4_countWaitingAt_4 rfl rfl rfl ?_
    refine g_aload_n (i := 0) (q := 6) dX4_countWaitingAt_5 rfl rfl rfl ?_
    refine g_getv (q := 9) (z := S.1 1) dX4_countWaitingAt_6 rfl fk_X4_30 rfl rfl rfl ?_
    refine g_icmp_ge (t := 41) (q := 12) dX4_countWaitingAt_9 (by decide) rfl (fun h9 => ?_) (fun h9 => (False.elim (by omega)))
    refine g_iload_n (i := 2) (q := 42) dX4_countWaitingAt_41 rfl rfl rfl ?_
    exact g_ret dX4_countWaitingAt_42 rfl (by decide) hQ
  | succ k ih =>
    intro i w hi hw
    have hlt : (i : Int) < S.1 1 := by omega
    have hle := x_cwa_le S m i
    refine g_iload_n (i := 3) (q := 5) dX4_countWaitingAt_4 rfl rfl rfl ?_
    refine g_aload_n (i := 0) (q := 6) dX4_countWaitingAt_5 rfl rfl rfl ?_
    refine g_getv (q := 9) (z := S.1 1) dX4_countWaitingAt_6 rfl fk_X4_30 rfl rfl rfl ?_
    refine g_icmp_ge (t := 41) (q := 12) dX4_countWaitingAt_9 (by decide) rfl (fun h9 => (False.elim (by omega))) (fun h9 => ?_)
    refine g_aload_n (i := 0) (q := 13) dX4_countWaitingAt_12 rfl rfl rfl ?_
    refine g_getr (q := 16) dX4_countWaitingAt_13 rfl fk_X4_9 rfl rfl ?_
    refine g_iload_n (i := 3) (q := 17) dX4_countWaitingAt_16 rfl rfl rfl ?_
    refine g_ildv (q := 18) (z := S.2.1 19 (i : Int)) dX4_countWaitingAt_17 rfl ⟨by decide, rfl, rfl⟩ (by omega) (by omega) rfl ?_
    refine g_iconst (q := 19) dX4_countWaitingAt_18 rfl ⟨by decide, by decide⟩ ?_
    refine g_icmp_ne (t := 35) (q := 22) dX4_countWaitingAt_19 (by decide) rfl (fun h19 => ?_) (fun h19 => ?_)
    · refine g_iinc (q := 38) (i := 3) (n := 1) dX4_countWaitingAt_35 rfl rfl (by constructor <;> omega) ?_
      refine g_goto (q := 0) (t := 4) dX4_countWaitingAt_38 (by decide) ?_
      exact ih (i + 1) _ (by omega) (by rw [x_cwa_s]; split <;> omega)
    · refine g_aload_n (i := 0) (q := 23) dX4_countWaitingAt_22 rfl rfl rfl ?_
      refine g_getr (q := 26) dX4_countWaitingAt_23 rfl fk_X4_27 rfl rfl ?_
      refine g_iload_n (i := 3) (q := 27) dX4_countWaitingAt_26 rfl rfl rfl ?_
      refine g_ildv (q := 28) (z := S.2.1 24 (i : Int)) dX4_countWaitingAt_27 rfl ⟨by decide, rfl, rfl⟩ (by omega) (by omega) rfl ?_
      refine g_iload_n (i := 1) (q := 29) dX4_countWaitingAt_28 rfl rfl rfl ?_
      refine g_icmp_ne (t := 35) (q := 32) dX4_countWaitingAt_29 (by decide) rfl (fun h29 => ?_) (fun h29 => ?_)
      · refine g_iinc (q := 38) (i := 3) (n := 1) dX4_countWaitingAt_35 rfl rfl (by constructor <;> omega) ?_
        refine g_goto (q := 0) (t := 4) dX4_countWaitingAt_38 (by decide) ?_
        exact ih (i + 1) _ (by omega) (by rw [x_cwa_s]; split <;> omega)
      · refine g_iinc (q := 35) (i := 2) (n := 1) dX4_countWaitingAt_32 rfl rfl (by constructor <;> omega) ?_
        refine g_iinc (q := 38) (i := 3) (n := 1) dX4_countWaitingAt_35 rfl rfl (by constructor <;> omega) ?_
        refine g_goto (q := 0) (t := 4) dX4_countWaitingAt_38 (by decide) ?_
        exact ih (i + 1) _ (by omega) (by rw [x_cwa_s]; split <;> omega)
theorem s_X4_countWaitingAt {S : zS} {m : Int} {c : Nat} (hc : S.1 1 = c) (h60 : c ≤ 60) : z_Fn mX4_countWaitingAt [zR 3, zI m] S (some (zI (x_cwa S m c))) S := by
  refine z_enter (by decide +kernel) rfl (z_n1 trivial (z_n1 trivial z_n0)) (Nat.le_of_ble_eq_true rfl) ?_
  refine g_iconst (q := 1) dX4_countWaitingAt_0 rfl ⟨by decide, by decide⟩ ?_
  refine g_istore_n (i := 2) (q := 2) dX4_countWaitingAt_1 rfl rfl (by decide) ?_
  refine g_iconst (q := 3) dX4_countWaitingAt_2 rfl ⟨by decide, by decide⟩ ?_
  refine g_istore_n (i := 3) (q := 4) dX4_countWaitingAt_3 rfl rfl (by decide) ?_
  exact l_X4_countWaitingAt hc h60 ⟨rfl, rfl⟩ c 0 0 (by omega) rfl
/-- the orders of a number: the one that waits is cancelled -/
def x_cf (S : zS) (n : Int) (c : Nat) : zS := match x_wf S n c with
  | some k => z_sA S 19 k 3
  | none => S
theorem z_first_lt {p : Nat → Bool} : ∀ {k i r : Nat}, z_first p i k = some r → i ≤ r ∧ r < i + k ∧ p r = true
  | 0, _, _, h => nomatch h
  | k + 1, i, r, h => by
    unfold z_first at h
    split at h
    · next hp =>
      cases h
      exact ⟨Nat.le_refl _, by omega, hp⟩
    · have := z_first_lt h
      exact ⟨by omega, by omega, this.2.2⟩
theorem s_X4_cancelFor {S : zS} {n : Int} {c : Nat} (hc : S.1 1 = c) (h60 : c ≤ 60) : z_Fn mX4_cancelFor [zR 3, zI n] S none (x_cf S n c) := by
  refine z_enter (by decide +kernel) rfl (z_n1 trivial (z_n1 trivial z_n0)) (Nat.le_of_ble_eq_true rfl) ?_
  cases hx : x_wf S n c with
  | none =>
    have e : z_on (x_wf S n c) = -1 := by rw [hx]; rfl
    have e2 : x_cf S n c = S := by unfold x_cf; rw [hx]
    rw [e2]
    have sp := s_X4_waitingFor (n := n) hc h60
    rw [e] at sp
    refine g_aload_n (i := 0) (q := 1) dX4_cancelFor_0 rfl rfl rfl ?_
    refine g_iload_n (i := 1) (q := 2) dX4_cancelFor_1 rfl rfl rfl ?_
    refine g_fnV (as := [zI n]) (q := 5) (u' := 0) dX4_cancelFor_2 rfl ck_X4_34 rfl rfl rfl (Nat.le_of_ble_eq_true rfl) (by decide) rfl (by decide) (sp) rfl ?_
    refine g_istore_n (i := 2) (q := 6) dX4_cancelFor_5 rfl rfl (by decide) ?_
    refine g_iload_n (i := 2) (q := 7) dX4_cancelFor_6 rfl rfl rfl ?_
    refine g_iconst (q := 8) dX4_cancelFor_7 rfl ⟨by decide, by decide⟩ ?_
    refine g_icmp_eq (t := 18) (q := 11) dX4_cancelFor_8 (by decide) rfl (fun h8 => ?_) (fun h8 => (False.elim (by omega)))
    exact g_retv dX4_cancelFor_18 rfl (by decide) ⟨rfl, rfl⟩
  | some k =>
    have e : z_on (x_wf S n c) = (k : Int) := by rw [hx]; rfl
    have e2 : x_cf S n c = z_sA S 19 k 3 := by unfold x_cf; rw [hx]
    rw [e2]
    have hk := z_first_lt hx
    have sp := s_X4_waitingFor (n := n) hc h60
    rw [e] at sp
    refine g_aload_n (i := 0) (q := 1) dX4_cancelFor_0 rfl rfl rfl ?_
    refine g_iload_n (i := 1) (q := 2) dX4_cancelFor_1 rfl rfl rfl ?_
    refine g_fnV (as := [zI n]) (q := 5) (u' := 0) dX4_cancelFor_2 rfl ck_X4_34 rfl rfl rfl (Nat.le_of_ble_eq_true rfl) (by decide) rfl (by decide) (sp) rfl ?_
    refine g_istore_n (i := 2) (q := 6) dX4_cancelFor_5 rfl rfl (by decide) ?_
    refine g_iload_n (i := 2) (q := 7) dX4_cancelFor_6 rfl rfl rfl ?_
    refine g_iconst (q := 8) dX4_cancelFor_7 rfl ⟨by decide, by decide⟩ ?_
    refine g_icmp_eq (t := 18) (q := 11) dX4_cancelFor_8 (by decide) rfl (fun h8 => (False.elim (by omega))) (fun h8 => ?_)
    refine g_aload_n (i := 0) (q := 12) dX4_cancelFor_11 rfl rfl rfl ?_
    refine g_getr (q := 15) dX4_cancelFor_12 rfl fk_X4_9 rfl rfl ?_
    refine g_iload_n (i := 2) (q := 16) dX4_cancelFor_15 rfl rfl rfl ?_
    refine g_iconst (q := 17) dX4_cancelFor_16 rfl ⟨by decide, by decide⟩ ?_
    refine g_iast (q := 18) dX4_cancelFor_17 rfl ⟨by decide, rfl, rfl⟩ (by omega) (by omega) ?_
    exact g_retv dX4_cancelFor_18 rfl (by decide) ⟨rfl, rfl⟩
def x_cby (S : zS) (f : Int) : Nat → Nat → zS
  | _, 0 => S
  | i, k + 1 => x_cby (if S.2.1 19 i = 1 ∧ S.2.1 22 i = f then z_sA S 19 i 3 else S) f (i + 1) k
theorem l_X4_cancelBy {Q : zQ} {f : Int} {c : Nat} (h60 : c ≤ 60) : ∀ (k i : Nat) (S : zS), S.1 1 = c → i + k = c → Q (.ok none) (x_cby S f i k) → z_G mX4_cancelBy (z_F mX4_cancelBy Q) 0 2 [some (zR 3), some (zI f), some (zI (i : Int))] [] S := by
  intro k
  induction k with
  | zero =>
    intro i S hc hi hQ
    refine g_iload_n (i := 2) (q := 3) dX4_cancelBy_2 rfl rfl rfl ?_
    refine g_aload_n (i := 0) (q := 4) dX4_cancelBy_3 rfl rfl rfl ?_
    refine g_getv (q := 7) (z := S.1 1) dX4_cancelBy_4 rfl fk_X4_30 rfl rfl rfl ?_
    refine g_icmp_ge (t := 43) (q := 10) dX4_cancelBy_7 (by decide) rfl (fun h7 => ?_) (fun h7 => (False.elim (by omega)))
    exact g_retv dX4_cancelBy_43 rfl (by decide) hQ
  | succ k ih =>
    intro i S hc hi hQ
    have hlt : (i : Int) < S.1 1 := by omega
    unfold x_cby at hQ
    refine g_iload_n (i := 2) (q := 3) dX4_cancelBy_2 rfl rfl rfl ?_
    refine g_aload_n (i := 0) (q := 4) dX4_cancelBy_3 rfl rfl rfl ?_
    refine g_getv (q := 7) (z := S.1 1) dX4_cancelBy_4 rfl fk_X4_30 rfl rfl rfl ?_
    refine g_icmp_ge (t := 43) (q := 10) dX4_cancelBy_7 (by decide) rfl (fun h7 => (False.elim (by omega))) (fun h7 => ?_)
    refine g_aload_n (i := 0) (q := 11) dX4_cancelBy_10 rfl rfl rfl ?_
    refine g_getr (q := 14) dX4_cancelBy_11 rfl fk_X4_9 rfl rfl ?_
    refine g_iload_n (i := 2) (q := 15) dX4_cancelBy_14 rfl rfl rfl ?_
    refine g_ildv (q := 16) (z := S.2.1 19 (i : Int)) dX4_cancelBy_15 rfl ⟨by decide, rfl, rfl⟩ (by omega) (by omega) rfl ?_
    refine g_iconst (q := 17) dX4_cancelBy_16 rfl ⟨by decide, by decide⟩ ?_
    refine g_icmp_ne (t := 37) (q := 20) dX4_cancelBy_17 (by decide) rfl (fun h17 => ?_) (fun h17 => ?_)
    · refine g_iinc (q := 40) (i := 2) (n := 1) dX4_cancelBy_37 rfl rfl (by constructor <;> omega) ?_
      refine g_goto (q := 0) (t := 2) dX4_cancelBy_40 (by decide) ?_
      first | exact ih (i + 1) _ hc (by omega) (by rw [if_pos ⟨‹_›, ‹_›⟩] at hQ; exact hQ) | exact ih (i + 1) _ hc (by omega) (by rw [if_neg (by omega)] at hQ; exact hQ)
    · refine g_aload_n (i := 0) (q := 21) dX4_cancelBy_20 rfl rfl rfl ?_
      refine g_getr (q := 24) dX4_cancelBy_21 rfl fk_X4_21 rfl rfl ?_
      refine g_iload_n (i := 2) (q := 25) dX4_cancelBy_24 rfl rfl rfl ?_
      refine g_ildv (q := 26) (z := S.2.1 22 (i : Int)) dX4_cancelBy_25 rfl ⟨by decide, rfl, rfl⟩ (by omega) (by omega) rfl ?_
      refine g_iload_n (i := 1) (q := 27) dX4_cancelBy_26 rfl rfl rfl ?_
      refine g_icmp_ne (t := 37) (q := 30) dX4_cancelBy_27 (by decide) rfl (fun h27 => ?_) (fun h27 => ?_)
      · refine g_iinc (q := 40) (i := 2) (n := 1) dX4_cancelBy_37 rfl rfl (by constructor <;> omega) ?_
        refine g_goto (q := 0) (t := 2) dX4_cancelBy_40 (by decide) ?_
        first | exact ih (i + 1) _ hc (by omega) (by rw [if_pos ⟨‹_›, ‹_›⟩] at hQ; exact hQ) | exact ih (i + 1) _ hc (by omega) (by rw [if_neg (by omega)] at hQ; exact hQ)
      · refine g_aload_n (i := 0) (q := 31) dX4_cancelBy_30 rfl rfl rfl ?_
        refine g_getr (q := 34) dX4_cancelBy_31 rfl fk_X4_9 rfl rfl ?_
        refine g_iload_n (i := 2) (q := 35) dX4_cancelBy_34 rfl rfl rfl ?_
        refine g_iconst (q := 36) dX4_cancelBy_35 rfl ⟨by decide, by decide⟩ ?_
        refine g_iast (q := 37) dX4_cancelBy_36 rfl ⟨by decide, rfl, rfl⟩ (by omega) (by omega) ?_
        refine g_iinc (q := 40) (i := 2) (n := 1) dX4_cancelBy_37 rfl rfl (by constructor <;> omega) ?_
        refine g_goto (q := 0) (t := 2) dX4_cancelBy_40 (by decide) ?_
        first | exact ih (i + 1) _ hc (by omega) (by rw [if_pos ⟨‹_›, ‹_›⟩] at hQ; exact hQ) | exact ih (i + 1) _ hc (by omega) (by rw [if_neg (by omega)] at hQ; exact hQ)
theorem s_X4_cancelBy {S : zS} {f : Int} {c : Nat} (hc : S.1 1 = c) (h60 : c ≤ 60) : z_Fn mX4_cancelBy [zR 3, zI f] S none (x_cby S f 0 c) := by
  refine z_enter (by decide +kernel) rfl (z_n1 trivial (z_n1 trivial z_n0)) (Nat.le_of_ble_eq_true rfl) ?_
  refine g_iconst (q := 1) dX4_cancelBy_0 rfl ⟨by decide, by decide⟩ ?_
  refine g_istore_n (i := 2) (q := 2) dX4_cancelBy_1 rfl rfl (by decide) ?_
  exact l_X4_cancelBy h60 c 0 S hc (by omega) ⟨rfl, rfl⟩
/-- an order more -/
def x_oa (S : zS) (f n d m r : Int) : zS := z_sS (z_sA (z_sA (z_sA (z_sA (z_sA (z_sA S 19 (S.1 1) (if r = 0 then 1 else 0)) 20 (S.1 1) r) 21 (S.1 1) n) 22 (S.1 1) f) 23 (S.1 1) d) 24 (S.1 1) m) 1 (S.1 1 + 1)
theorem s_X4_add {S : zS} {f n d m r : Int} (h0 : 0 ≤ S.1 1) (h60 : S.1 1 < 60) : z_Fn mX4_add [zR 3, zI f, zI n, zI d, zI m, zI r] S (some (zI (S.1 1))) (x_oa S f n d m r) := by
  refine z_enter (by decide +kernel) rfl (z_n1 trivial (z_n1 trivial (z_n1 trivial (z_n1 trivial (z_n1 trivial (z_n1 trivial z_n0)))))) (Nat.le_of_ble_eq_true rfl) ?_
  unfold x_oa
  by_cases hr : r = 0
  · rw [if_pos hr]
    refine g_aload_n (i := 0) (q := 1) dX4_add_0 rfl rfl rfl ?_
    refine g_getv (q := 4) (z := S.1 1) dX4_add_1 rfl fk_X4_30 rfl rfl rfl ?_
    refine g_bipush (q := 6) dX4_add_4 rfl ⟨by decide, by decide⟩ (by decide) ?_
    refine g_icmp_lt (t := 11) (q := 9) dX4_add_6 (by decide) rfl (fun h6 => ?_) (fun h6 => (False.elim (by omega)))
    refine g_aload_n (i := 0) (q := 12) dX4_add_11 rfl rfl rfl ?_
    refine g_getv (q := 15) (z := S.1 1) dX4_add_12 rfl fk_X4_30 rfl rfl rfl ?_
    refine g_istore (q := 17) dX4_add_15 rfl (by decide) ?_
    refine g_aload_n (i := 0) (q := 18) dX4_add_17 rfl rfl rfl ?_
    refine g_getr (q := 21) dX4_add_18 rfl fk_X4_9 rfl rfl ?_
    refine g_iload (q := 23) dX4_add_21 rfl rfl ?_
    refine g_iload (q := 25) dX4_add_23 rfl rfl ?_
    refine g_if_ne (t := 32) (q := 28) dX4_add_25 (by decide) rfl (fun h25 => (False.elim (by omega))) (fun h25 => ?_)
    refine g_iconst (q := 29) dX4_add_28 rfl ⟨by decide, by decide⟩ ?_
    refine g_goto (q := 0) (t := 33) dX4_add_29 (by decide) ?_
    refine g_iast (q := 34) dX4_add_33 rfl ⟨by decide, rfl, rfl⟩ (by omega) (by omega) ?_
    refine g_aload_n (i := 0) (q := 35) dX4_add_34 rfl rfl rfl ?_
    refine g_getr (q := 38) dX4_add_35 rfl fk_X4_15 rfl rfl ?_
    refine g_iload (q := 40) dX4_add_38 rfl rfl ?_
    refine g_iload (q := 42) dX4_add_40 rfl rfl ?_
    refine g_iast (q := 43) dX4_add_42 rfl ⟨by decide, rfl, rfl⟩ (by omega) (by omega) ?_
    refine g_aload_n (i := 0) (q := 44) dX4_add_43 rfl rfl rfl ?_
    refine g_getr (q := 47) dX4_add_44 rfl fk_X4_18 rfl rfl ?_
    refine g_iload (q := 49) dX4_add_47 rfl rfl ?_
    refine g_iload_n (i := 2) (q := 50) dX4_add_49 rfl rfl rfl ?_
    refine g_iast (q := 51) dX4_add_50 rfl ⟨by decide, rfl, rfl⟩ (by omega) (by omega) ?_
    refine g_aload_n (i := 0) (q := 52) dX4_add_51 rfl rfl rfl ?_
    refine g_getr (q := 55) dX4_add_52 rfl fk_X4_21 rfl rfl ?_
    refine g_iload (q := 57) dX4_add_55 rfl rfl ?_
    refine g_iload_n (i := 1) (q := 58) dX4_add_57 rfl rfl rfl ?_
    refine g_iast (q := 59) dX4_add_58 rfl ⟨by decide, rfl, rfl⟩ (by omega) (by omega) ?_
    refine g_aload_n (i := 0) (q := 60) dX4_add_59 rfl rfl rfl ?_
    refine g_getr (q := 63) dX4_add_60 rfl fk_X4_24 rfl rfl ?_
    refine g_iload (q := 65) dX4_add_63 rfl rfl ?_
    refine g_iload_n (i := 3) (q := 66) dX4_add_65 rfl rfl rfl ?_
    refine g_iast (q := 67) dX4_add_66 rfl ⟨by decide, rfl, rfl⟩ (by omega) (by omega) ?_
    refine g_aload_n (i := 0) (q := 68) dX4_add_67 rfl rfl rfl ?_
    refine g_getr (q := 71) dX4_add_68 rfl fk_X4_27 rfl rfl ?_
    refine g_iload (q := 73) dX4_add_71 rfl rfl ?_
    refine g_iload (q := 75) dX4_add_73 rfl rfl ?_
    refine g_iast (q := 76) dX4_add_75 rfl ⟨by decide, rfl, rfl⟩ (by omega) (by omega) ?_
    refine g_aload_n (i := 0) (q := 77) dX4_add_76 rfl rfl rfl ?_
    refine g_dup (q := 78) dX4_add_77 rfl trivial ?_
    refine g_getv (q := 81) (z := S.1 1) dX4_add_78 rfl fk_X4_30 rfl rfl rfl ?_
    refine g_iconst (q := 82) dX4_add_81 rfl ⟨by decide, by decide⟩ ?_
    refine g_iadd (q := 83) dX4_add_82 rfl (by constructor <;> omega) ?_
    refine g_put (q := 86) dX4_add_83 rfl fk_X4_30 fp_4_6 rfl rfl ?_
    refine g_iload (q := 88) dX4_add_86 rfl rfl ?_
    exact g_ret dX4_add_88 rfl (by decide) ⟨rfl, rfl⟩
  · rw [if_neg hr]
    refine g_aload_n (i := 0) (q := 1) dX4_add_0 rfl rfl rfl ?_
    refine g_getv (q := 4) (z := S.1 1) dX4_add_1 rfl fk_X4_30 rfl rfl rfl ?_
    refine g_bipush (q := 6) dX4_add_4 rfl ⟨by decide, by decide⟩ (by decide) ?_
    refine g_icmp_lt (t := 11) (q := 9) dX4_add_6 (by decide) rfl (fun h6 => ?_) (fun h6 => (False.elim (by omega)))
    refine g_aload_n (i := 0) (q := 12) dX4_add_11 rfl rfl rfl ?_
    refine g_getv (q := 15) (z := S.1 1) dX4_add_12 rfl fk_X4_30 rfl rfl rfl ?_
    refine g_istore (q := 17) dX4_add_15 rfl (by decide) ?_
    refine g_aload_n (i := 0) (q := 18) dX4_add_17 rfl rfl rfl ?_
    refine g_getr (q := 21) dX4_add_18 rfl fk_X4_9 rfl rfl ?_
    refine g_iload (q := 23) dX4_add_21 rfl rfl ?_
    refine g_iload (q := 25) dX4_add_23 rfl rfl ?_
    refine g_if_ne (t := 32) (q := 28) dX4_add_25 (by decide) rfl (fun h25 => ?_) (fun h25 => (False.elim (by omega)))
    refine g_iconst (q := 33) dX4_add_32 rfl ⟨by decide, by decide⟩ ?_
    refine g_iast (q := 34) dX4_add_33 rfl ⟨by decide, rfl, rfl⟩ (by omega) (by omega) ?_
    refine g_aload_n (i := 0) (q := 35) dX4_add_34 rfl rfl rfl ?_
    refine g_getr (q := 38) dX4_add_35 rfl fk_X4_15 rfl rfl ?_
    refine g_iload (q := 40) dX4_add_38 rfl rfl ?_
    refine g_iload (q := 42) dX4_add_40 rfl rfl ?_
    refine g_iast (q := 43) dX4_add_42 rfl ⟨by decide, rfl, rfl⟩ (by omega) (by omega) ?_
    refine g_aload_n (i := 0) (q := 44) dX4_add_43 rfl rfl rfl ?_
    refine g_getr (q := 47) dX4_add_44 rfl fk_X4_18 rfl rfl ?_
    refine g_iload (q := 49) dX4_add_47 rfl rfl ?_
    refine g_iload_n (i := 2) (q := 50) dX4_add_49 rfl rfl rfl ?_
    refine g_iast (q := 51) dX4_add_50 rfl ⟨by decide, rfl, rfl⟩ (by omega) (by omega) ?_
    refine g_aload_n (i := 0) (q := 52) dX4_add_51 rfl rfl rfl ?_
    refine g_getr (q := 55) dX4_add_52 rfl fk_X4_21 rfl rfl ?_
    refine g_iload (q := 57) dX4_add_55 rfl rfl ?_
    refine g_iload_n (i := 1) (q := 58) dX4_add_57 rfl rfl rfl ?_
    refine g_iast (q := 59) dX4_add_58 rfl ⟨by decide, rfl, rfl⟩ (by omega) (by omega) ?_
    refine g_aload_n (i := 0) (q := 60) dX4_add_59 rfl rfl rfl ?_
    refine g_getr (q := 63) dX4_add_60 rfl fk_X4_24 rfl rfl ?_
    refine g_iload (q := 65) dX4_add_63 rfl rfl ?_
    refine g_iload_n (i := 3) (q := 66) dX4_add_65 rfl rfl rfl ?_
    refine g_iast (q := 67) dX4_add_66 rfl ⟨by decide, rfl, rfl⟩ (by omega) (by omega) ?_
    refine g_aload_n (i := 0) (q := 68) dX4_add_67 rfl rfl rfl ?_
    refine g_getr (q := 71) dX4_add_68 rfl fk_X4_27 rfl rfl ?_
    refine g_iload (q := 73) dX4_add_71 rfl rfl ?_
    refine g_iload (q := 75) dX4_add_73 rfl rfl ?_
    refine g_iast (q := 76) dX4_add_75 rfl ⟨by decide, rfl, rfl⟩ (by omega) (by omega) ?_
    refine g_aload_n (i := 0) (q := 77) dX4_add_76 rfl rfl rfl ?_
    refine g_dup (q := 78) dX4_add_77 rfl trivial ?_
    refine g_getv (q := 81) (z := S.1 1) dX4_add_78 rfl fk_X4_30 rfl rfl rfl ?_
    refine g_iconst (q := 82) dX4_add_81 rfl ⟨by decide, by decide⟩ ?_
    refine g_iadd (q := 83) dX4_add_82 rfl (by constructor <;> omega) ?_
    refine g_put (q := 86) dX4_add_83 rfl fk_X4_30 fp_4_6 rfl rfl ?_
    refine g_iload (q := 88) dX4_add_86 rfl rfl ?_
    exact g_ret dX4_add_88 rfl (by decide) ⟨rfl, rfl⟩
/-- the minute to which an order is put off -/
def x_po (S : zS) (c : Nat) (m : Int) : Nat → Int
  | 0 => m
  | k + 1 => if 3 ≤ x_cwa S m c then x_po S c (m + 100) k else m
theorem l_X4_putOff {Q : zQ} {S : zS} {o : Int} {c : Nat} (hc : S.1 1 = c) (h60 : c ≤ 60) (ho : 0 ≤ o) (ho2 : o < 60) : ∀ (k i : Nat) (m : Int), i + k = 60 → 0 ≤ m → m + 100 * k ≤ 100000 → Q (.ok none) (z_sA S 24 o (x_po S c m k)) → z_G mX4_putOff (z_F mX4_putOff Q) 0 12 [some (zR 3), some (zI o), some (zI m), some (zI (i : Int))] [] S := by
  intro k
  induction k with
  | zero =>
    intro i m hi hm hm2 hQ
    refine g_iload_n (i := 3) (q := 13) dX4_putOff_12 rfl rfl rfl ?_
    refine g_bipush (q := 15) dX4_putOff_13 rfl ⟨by decide, by decide⟩ (by decide) ?_
    refine g_icmp_ge (t := 36) (q := 18) dX4_putOff_15 (by decide) rfl (fun h15 => ?_) (fun h15 => (False.elim (by omega)))
    refine g_aload_n (i := 0) (q := 37) dX4_putOff_36 rfl rfl rfl ?_
    refine g_getr (q := 40) dX4_putOff_37 rfl fk_X4_27 rfl rfl ?_
    refine g_iload_n (i := 1) (q := 41) dX4_putOff_40 rfl rfl rfl ?_
    refine g_iload_n (i := 2) (q := 42) dX4_putOff_41 rfl rfl rfl ?_
    refine g_iast (q := 43) dX4_putOff_42 rfl ⟨by decide, rfl, rfl⟩ (by omega) (by omega) ?_
    exact g_retv dX4_putOff_43 rfl (by decide) hQ
  | succ k ih =>
    intro i m hi hm hm2 hQ
    unfold x_po at hQ
    refine g_iload_n (i := 3) (q := 13) dX4_putOff_12 rfl rfl rfl ?_
    refine g_bipush (q := 15) dX4_putOff_13 rfl ⟨by decide, by decide⟩ (by decide) ?_
    refine g_icmp_ge (t := 36) (q := 18) dX4_putOff_15 (by decide) rfl (fun h15 => (False.elim (by omega))) (fun h15 => ?_)
    refine g_aload_n (i := 0) (q := 19) dX4_putOff_18 rfl rfl rfl ?_
    refine g_iload_n (i := 2) (q := 20) dX4_putOff_19 rfl rfl rfl ?_
    refine g_fnV (as := [zI m]) (q := 23) (u' := 0) dX4_putOff_20 rfl ck_X4_38 rfl rfl rfl (Nat.le_of_ble_eq_true rfl) (by decide) rfl (by decide) (s_X4_countWaitingAt hc h60) rfl ?_
    refine g_iconst (q := 24) dX4_putOff_23 rfl ⟨by decide, by decide⟩ ?_
    refine g_icmp_lt (t := 36) (q := 27) dX4_putOff_24 (by decide) rfl (fun h24 => ?_) (fun h24 => ?_)
    · refine g_aload_n (i := 0) (q := 37) dX4_putOff_36 rfl rfl rfl ?_
      refine g_getr (q := 40) dX4_putOff_37 rfl fk_X4_27 rfl rfl ?_
      refine g_iload_n (i := 1) (q := 41) dX4_putOff_40 rfl rfl rfl ?_
      refine g_iload_n (i := 2) (q := 42) dX4_putOff_41 rfl rfl rfl ?_
      refine g_iast (q := 43) dX4_putOff_42 rfl ⟨by decide, rfl, rfl⟩ (by omega) (by omega) ?_
      exact g_retv dX4_putOff_43 rfl (by decide) (by rw [if_neg (by omega)] at hQ; exact hQ)
    · refine g_iinc (q := 30) (i := 2) (n := 100) dX4_putOff_27 rfl rfl (by constructor <;> omega) ?_
      refine g_iinc (q := 33) (i := 3) (n := 1) dX4_putOff_30 rfl rfl (by constructor <;> omega) ?_
      refine g_goto (q := 0) (t := 12) dX4_putOff_33 (by decide) ?_
      exact ih (i + 1) _ (by omega) (by omega) (by omega) (by rw [if_pos (by omega)] at hQ; exact hQ)
theorem s_X4_putOff {S : zS} {o : Int} {c : Nat} (hc : S.1 1 = c) (h60 : c ≤ 60) (ho : 0 ≤ o) (ho2 : o < 60) (hm : 0 ≤ S.2.1 24 o) (hm2 : S.2.1 24 o ≤ 50000) : z_Fn mX4_putOff [zR 3, zI o] S none (z_sA S 24 o (x_po S c (S.2.1 24 o + 100) 60)) := by
  refine z_enter (by decide +kernel) rfl (z_n1 trivial (z_n1 trivial z_n0)) (Nat.le_of_ble_eq_true rfl) ?_
  refine g_aload_n (i := 0) (q := 1) dX4_putOff_0 rfl rfl rfl ?_
  refine g_getr (q := 4) dX4_putOff_1 rfl fk_X4_27 rfl rfl ?_
  refine g_iload_n (i := 1) (q := 5) dX4_putOff_4 rfl rfl rfl ?_
  refine g_ildv (q := 6) (z := S.2.1 24 o) dX4_putOff_5 rfl ⟨by decide, rfl, rfl⟩ (by omega) (by omega) rfl ?_
  refine g_bipush (q := 8) dX4_putOff_6 rfl ⟨by decide, by decide⟩ (by decide) ?_
  refine g_iadd (q := 9) dX4_putOff_8 rfl (by constructor <;> omega) ?_
  refine g_istore_n (i := 2) (q := 10) dX4_putOff_9 rfl rfl (by decide) ?_
  refine g_iconst (q := 11) dX4_putOff_10 rfl ⟨by decide, by decide⟩ ?_
  refine g_istore_n (i := 3) (q := 12) dX4_putOff_11 rfl rfl (by decide) ?_
  exact l_X4_putOff hc h60 ho ho2 60 0 _ (by omega) (by omega) (by omega) ⟨rfl, rfl⟩
end
section
/-! ===== Centre, Contracts, Firms, History, Route ===== -/
def x_chg (S : zS) (m n p : Int) : zS := z_sS (z_sA (z_sA (z_sA S 25 (S.1 2) m) 26 (S.1 2) n) 27 (S.1 2) p) 2 (S.1 2 + 1)
theorem s_X0_add {S : zS} {m n p : Int} (h0 : 0 ≤ S.1 2) (h1 : S.1 2 < 600) : z_Fn mX0_add [zR 4, zI m, zI n, zI p] S none (x_chg S m n p) := by
  refine z_enter (by decide +kernel) rfl (z_n1 trivial (z_n1 trivial (z_n1 trivial (z_n1 trivial z_n0)))) (Nat.le_of_ble_eq_true rfl) ?_
  refine g_aload_n (i := 0) (q := 1) dX0_add_0 rfl rfl rfl ?_
  refine g_getv (q := 4) (z := S.1 2) dX0_add_1 rfl fk_X0_21 rfl rfl rfl ?_
  refine g_sipush (q := 7) dX0_add_4 rfl ⟨by decide, by decide⟩ (by decide) ?_
  refine g_icmp_ge (t := 50) (q := 10) dX0_add_7 (by decide) rfl (fun h7 => (False.elim (by omega))) (fun h7 => ?_)
  refine g_aload_n (i := 0) (q := 11) dX0_add_10 rfl rfl rfl ?_
  refine g_getr (q := 14) dX0_add_11 rfl fk_X0_11 rfl rfl ?_
  refine g_aload_n (i := 0) (q := 15) dX0_add_14 rfl rfl rfl ?_
  refine g_getv (q := 18) (z := S.1 2) dX0_add_15 rfl fk_X0_21 rfl rfl rfl ?_
  refine g_iload_n (i := 1) (q := 19) dX0_add_18 rfl rfl rfl ?_
  refine g_iast (q := 20) dX0_add_19 rfl ⟨by decide, rfl, rfl⟩ (by omega) (by omega) ?_
  refine g_aload_n (i := 0) (q := 21) dX0_add_20 rfl rfl rfl ?_
  refine g_getr (q := 24) dX0_add_21 rfl fk_X0_15 rfl rfl ?_
  refine g_aload_n (i := 0) (q := 25) dX0_add_24 rfl rfl rfl ?_
  refine g_getv (q := 28) (z := S.1 2) dX0_add_25 rfl fk_X0_21 rfl rfl rfl ?_
  refine g_iload_n (i := 2) (q := 29) dX0_add_28 rfl rfl rfl ?_
  refine g_iast (q := 30) dX0_add_29 rfl ⟨by decide, rfl, rfl⟩ (by omega) (by omega) ?_
  refine g_aload_n (i := 0) (q := 31) dX0_add_30 rfl rfl rfl ?_
  refine g_getr (q := 34) dX0_add_31 rfl fk_X0_18 rfl rfl ?_
  refine g_aload_n (i := 0) (q := 35) dX0_add_34 rfl rfl rfl ?_
  refine g_getv (q := 38) (z := S.1 2) dX0_add_35 rfl fk_X0_21 rfl rfl rfl ?_
  refine g_iload_n (i := 3) (q := 39) dX0_add_38 rfl rfl rfl ?_
  refine g_iast (q := 40) dX0_add_39 rfl ⟨by decide, rfl, rfl⟩ (by omega) (by omega) ?_
  refine g_aload_n (i := 0) (q := 41) dX0_add_40 rfl rfl rfl ?_
  refine g_dup (q := 42) dX0_add_41 rfl trivial ?_
  refine g_getv (q := 45) (z := S.1 2) dX0_add_42 rfl fk_X0_21 rfl rfl rfl ?_
  refine g_iconst (q := 46) dX0_add_45 rfl ⟨by decide, by decide⟩ ?_
  refine g_iadd (q := 47) dX0_add_46 rfl (by constructor <;> omega) ?_
  refine g_put (q := 50) dX0_add_47 rfl fk_X0_21 fp_0_3 rfl rfl ?_
  exact g_retv dX0_add_50 rfl (by decide) (by first | exact ⟨rfl, rfl⟩ | (exfalso; omega))
theorem s_X0_countUnknown {S : zS} {f : Int} (hf : 0 ≤ f ∧ f < 6) (h0 : 0 ≤ S.1 2) (h1 : S.1 2 ≤ 600) (h2 : 0 ≤ S.2.1 28 f) (h3 : S.2.1 28 f ≤ 600) : z_Fn mX0_countUnknown [zR 4, zI f] S (some (zI (S.1 2 - S.2.1 28 f))) S := by
  refine z_enter (by decide +kernel) rfl (z_n1 trivial (z_n1 trivial z_n0)) (Nat.le_of_ble_eq_true rfl) ?_
  refine g_aload_n (i := 0) (q := 1) dX0_countUnknown_0 rfl rfl rfl ?_
  refine g_getv (q := 4) (z := S.1 2) dX0_countUnknown_1 rfl fk_X0_21 rfl rfl rfl ?_
  refine g_aload_n (i := 0) (q := 5) dX0_countUnknown_4 rfl rfl rfl ?_
  refine g_getr (q := 8) dX0_countUnknown_5 rfl fk_X0_25 rfl rfl ?_
  refine g_iload_n (i := 1) (q := 9) dX0_countUnknown_8 rfl rfl rfl ?_
  refine g_ildv (q := 10) (z := S.2.1 28 f) dX0_countUnknown_9 rfl ⟨by decide, rfl, rfl⟩ (by omega) (by omega) rfl ?_
  refine g_isub (q := 11) dX0_countUnknown_10 rfl (by constructor <;> omega) ?_
  exact g_ret dX0_countUnknown_11 rfl (by decide) (by first | exact ⟨rfl, rfl⟩ | (exfalso; omega))
def x_la (S : zS) (f : Int) : Nat → Nat → zS
  | a, 0 => z_sA S 28 f a
  | a, k + 1 => x_la (z_sA S (30 + f.toNat) (S.2.1 26 a) (S.2.1 27 a)) f (a + 1) k
theorem l_X0_learnAll {Q : zQ} {f : Int} {c : Nat} (hf : 0 ≤ f ∧ f < 6) (hc6 : c ≤ 600) : ∀ (k a : Nat) (S : zS), S.1 2 = c → (∀ j : Nat, j < c → 0 ≤ S.2.1 26 j ∧ S.2.1 26 j < 200) → a + k = c → Q (.ok none) (x_la S f a k) → z_G mX0_learnAll (z_F mX0_learnAll Q) 0 7 [some (zR 4), some (zI f), some (zI (a : Int))] [] S := by
  intro k
  induction k with
  | zero =>
    intro a S hc hn ha hQ
    refine g_iload_n (i := 2) (q := 8) dX0_learnAll_7 rfl rfl rfl ?_
    refine g_aload_n (i := 0) (q := 9) dX0_learnAll_8 rfl rfl rfl ?_
    refine g_getv (q := 12) (z := S.1 2) dX0_learnAll_9 rfl fk_X0_21 rfl rfl rfl ?_
    refine g_icmp_ge (t := 40) (q := 15) dX0_learnAll_12 (by decide) rfl (fun h12 => ?_) (fun h12 => (False.elim (by omega)))
    refine g_aload_n (i := 0) (q := 41) dX0_learnAll_40 rfl rfl rfl ?_
    refine g_getr (q := 44) dX0_learnAll_41 rfl fk_X0_25 rfl rfl ?_
    refine g_iload_n (i := 1) (q := 45) dX0_learnAll_44 rfl rfl rfl ?_
    refine g_aload_n (i := 0) (q := 46) dX0_learnAll_45 rfl rfl rfl ?_
    refine g_getv (q := 49) (z := S.1 2) dX0_learnAll_46 rfl fk_X0_21 rfl rfl rfl ?_
    refine g_iast (q := 50) dX0_learnAll_49 rfl ⟨by decide, rfl, rfl⟩ (by omega) (by omega) ?_
    exact g_retv dX0_learnAll_50 rfl (by decide) (by rw [x_la] at hQ; rw [hc, ← ha]; exact hQ)
  | succ k ih =>
    intro a S hc hn ha hQ
    have hna := hn a (by omega)
    rw [x_la] at hQ
    refine g_iload_n (i := 2) (q := 8) dX0_learnAll_7 rfl rfl rfl ?_
    refine g_aload_n (i := 0) (q := 9) dX0_learnAll_8 rfl rfl rfl ?_
    refine g_getv (q := 12) (z := S.1 2) dX0_learnAll_9 rfl fk_X0_21 rfl rfl rfl ?_
    refine g_icmp_ge (t := 40) (q := 15) dX0_learnAll_12 (by decide) rfl (fun h12 => (False.elim (by omega))) (fun h12 => ?_)
    refine g_aload_n (i := 0) (q := 16) dX0_learnAll_15 rfl rfl rfl ?_
    refine g_getr (q := 19) dX0_learnAll_16 rfl fk_X0_30 rfl rfl ?_
    refine g_iload_n (i := 1) (q := 20) dX0_learnAll_19 rfl rfl rfl ?_
    refine g_aald (q := 21) dX0_learnAll_20 rfl (by omega) (by omega) ?_
    refine g_aload_n (i := 0) (q := 22) dX0_learnAll_21 rfl rfl rfl ?_
    refine g_getr (q := 25) dX0_learnAll_22 rfl fk_X0_15 rfl rfl ?_
    refine g_iload_n (i := 2) (q := 26) dX0_learnAll_25 rfl rfl rfl ?_
    refine g_ildv (q := 27) (z := S.2.1 26 (a : Int)) dX0_learnAll_26 rfl ⟨by decide, rfl, rfl⟩ (by omega) (by omega) rfl ?_
    refine g_aload_n (i := 0) (q := 28) dX0_learnAll_27 rfl rfl rfl ?_
    refine g_getr (q := 31) dX0_learnAll_28 rfl fk_X0_18 rfl rfl ?_
    refine g_iload_n (i := 2) (q := 32) dX0_learnAll_31 rfl rfl rfl ?_
    refine g_ildv (q := 33) (z := S.2.1 27 (a : Int)) dX0_learnAll_32 rfl ⟨by decide, rfl, rfl⟩ (by omega) (by omega) rfl ?_
    refine g_iast (q := 34) dX0_learnAll_33 rfl (z_row (by omega) (by omega)) (by omega) (by omega) ?_
    refine g_iinc (q := 37) (i := 2) (n := 1) dX0_learnAll_34 rfl rfl (by constructor <;> omega) ?_
    refine g_goto (q := 0) (t := 7) dX0_learnAll_37 (by decide) ?_
    exact ih (a + 1) _ hc (fun j hj => by rw [za_ne (by omega)]; exact hn j hj) (by omega) hQ
theorem s_X0_learnAll {S : zS} {f : Int} {c a : Nat} (hf : 0 ≤ f ∧ f < 6) (hc : S.1 2 = c) (hc6 : c ≤ 600) (ha : S.2.1 28 f = a) (hac : a ≤ c) (hn : ∀ j : Nat, j < c → 0 ≤ S.2.1 26 j ∧ S.2.1 26 j < 200) : z_Fn mX0_learnAll [zR 4, zI f] S none (x_la S f a (c - a)) := by
  refine z_enter (by decide +kernel) rfl (z_n1 trivial (z_n1 trivial z_n0)) (Nat.le_of_ble_eq_true rfl) ?_
  refine g_aload_n (i := 0) (q := 1) dX0_learnAll_0 rfl rfl rfl ?_
  refine g_getr (q := 4) dX0_learnAll_1 rfl fk_X0_25 rfl rfl ?_
  refine g_iload_n (i := 1) (q := 5) dX0_learnAll_4 rfl rfl rfl ?_
  refine g_ildv (q := 6) (z := (a : Int)) dX0_learnAll_5 rfl ⟨by decide, rfl, rfl⟩ (by omega) (by omega) ha ?_
  refine g_istore_n (i := 2) (q := 7) dX0_learnAll_6 rfl rfl (by decide) ?_
  exact l_X0_learnAll hf hc6 (c - a) a S hc hn (by omega) ⟨rfl, rfl⟩
def x_lu (S : zS) (f m : Int) : Nat → Nat → zS
  | a, 0 => z_sA S 28 f a
  | a, k + 1 => if S.2.1 25 a ≤ m then x_lu (z_sA S (30 + f.toNat) (S.2.1 26 a) (S.2.1 27 a)) f m (a + 1) k else z_sA S 28 f a
theorem l_X0_learnUpTo {Q : zQ} {f m : Int} {c : Nat} (hf : 0 ≤ f ∧ f < 6) (hc6 : c ≤ 600) : ∀ (k a : Nat) (S : zS), S.1 2 = c → (∀ j : Nat, j < c → 0 ≤ S.2.1 26 j ∧ S.2.1 26 j < 200) → a + k = c → Q (.ok none) (x_lu S f m a k) → z_G mX0_learnUpTo (z_F mX0_learnUpTo Q) 0 7 [some (zR 4), some (zI f), some (zI m), some (zI (a : Int))] [] S := by
  intro k
  induction k with
  | zero =>
    intro a S hc hn ha hQ
    refine g_iload_n (i := 3) (q := 8) dX0_learnUpTo_7 rfl rfl rfl ?_
    refine g_aload_n (i := 0) (q := 9) dX0_learnUpTo_8 rfl rfl rfl ?_
    refine g_getv (q := 12) (z := S.1 2) dX0_learnUpTo_9 rfl fk_X0_21 rfl rfl rfl ?_
    refine g_icmp_ge (t := 50) (q := 15) dX0_learnUpTo_12 (by decide) rfl (fun h12 => ?_) (fun h12 => (False.elim (by omega)))
    refine g_aload_n (i := 0) (q := 51) dX0_learnUpTo_50 rfl rfl rfl ?_
    refine g_getr (q := 54) dX0_learnUpTo_51 rfl fk_X0_25 rfl rfl ?_
    refine g_iload_n (i := 1) (q := 55) dX0_learnUpTo_54 rfl rfl rfl ?_
    refine g_iload_n (i := 3) (q := 56) dX0_learnUpTo_55 rfl rfl rfl ?_
    refine g_iast (q := 57) dX0_learnUpTo_56 rfl ⟨by decide, rfl, rfl⟩ (by omega) (by omega) ?_
    exact g_retv dX0_learnUpTo_57 rfl (by decide) hQ
  | succ k ih =>
    intro a S hc hn ha hQ
    have hna := hn a (by omega)
    rw [x_lu] at hQ
    refine g_iload_n (i := 3) (q := 8) dX0_learnUpTo_7 rfl rfl rfl ?_
    refine g_aload_n (i := 0) (q := 9) dX0_learnUpTo_8 rfl rfl rfl ?_
    refine g_getv (q := 12) (z := S.1 2) dX0_learnUpTo_9 rfl fk_X0_21 rfl rfl rfl ?_
    refine g_icmp_ge (t := 50) (q := 15) dX0_learnUpTo_12 (by decide) rfl (fun h12 => (False.elim (by omega))) (fun h12 => ?_)
    refine g_aload_n (i := 0) (q := 16) dX0_learnUpTo_15 rfl rfl rfl ?_
    refine g_getr (q := 19) dX0_learnUpTo_16 rfl fk_X0_11 rfl rfl ?_
    refine g_iload_n (i := 3) (q := 20) dX0_learnUpTo_19 rfl rfl rfl ?_
    refine g_ildv (q := 21) (z := S.2.1 25 (a : Int)) dX0_learnUpTo_20 rfl ⟨by decide, rfl, rfl⟩ (by omega) (by omega) rfl ?_
    refine g_iload_n (i := 2) (q := 22) dX0_learnUpTo_21 rfl rfl rfl ?_
    refine g_icmp_gt (t := 50) (q := 25) dX0_learnUpTo_22 (by decide) rfl (fun h22 => ?_) (fun h22 => ?_)
    · refine g_aload_n (i := 0) (q := 51) dX0_learnUpTo_50 rfl rfl rfl ?_
      refine g_getr (q := 54) dX0_learnUpTo_51 rfl fk_X0_25 rfl rfl ?_
      refine g_iload_n (i := 1) (q := 55) dX0_learnUpTo_54 rfl rfl rfl ?_
      refine g_iload_n (i := 3) (q := 56) dX0_learnUpTo_55 rfl rfl rfl ?_
      refine g_iast (q := 57) dX0_learnUpTo_56 rfl ⟨by decide, rfl, rfl⟩ (by omega) (by omega) ?_
      exact g_retv dX0_learnUpTo_57 rfl (by decide) (by rw [if_neg (by omega)] at hQ; exact hQ)
    · refine g_aload_n (i := 0) (q := 26) dX0_learnUpTo_25 rfl rfl rfl ?_
      refine g_getr (q := 29) dX0_learnUpTo_26 rfl fk_X0_30 rfl rfl ?_
      refine g_iload_n (i := 1) (q := 30) dX0_learnUpTo_29 rfl rfl rfl ?_
      refine g_aald (q := 31) dX0_learnUpTo_30 rfl (by omega) (by omega) ?_
      refine g_aload_n (i := 0) (q := 32) dX0_learnUpTo_31 rfl rfl rfl ?_
      refine g_getr (q := 35) dX0_learnUpTo_32 rfl fk_X0_15 rfl rfl ?_
      refine g_iload_n (i := 3) (q := 36) dX0_learnUpTo_35 rfl rfl rfl ?_
      refine g_ildv (q := 37) (z := S.2.1 26 (a : Int)) dX0_learnUpTo_36 rfl ⟨by decide, rfl, rfl⟩ (by omega) (by omega) rfl ?_
      refine g_aload_n (i := 0) (q := 38) dX0_learnUpTo_37 rfl rfl rfl ?_
      refine g_getr (q := 41) dX0_learnUpTo_38 rfl fk_X0_18 rfl rfl ?_
      refine g_iload_n (i := 3) (q := 42) dX0_learnUpTo_41 rfl rfl rfl ?_
      refine g_ildv (q := 43) (z := S.2.1 27 (a : Int)) dX0_learnUpTo_42 rfl ⟨by decide, rfl, rfl⟩ (by omega) (by omega) rfl ?_
      refine g_iast (q := 44) dX0_learnUpTo_43 rfl (z_row (by omega) (by omega)) (by omega) (by omega) ?_
      refine g_iinc (q := 47) (i := 3) (n := 1) dX0_learnUpTo_44 rfl rfl (by constructor <;> omega) ?_
      refine g_goto (q := 0) (t := 7) dX0_learnUpTo_47 (by decide) ?_
      exact ih (a + 1) _ hc (fun j hj => by rw [za_ne (by omega)]; exact hn j hj) (by omega) (by rw [if_pos (by omega)] at hQ; exact hQ)
theorem s_X0_learnUpTo {S : zS} {f m : Int} {c a : Nat} (hf : 0 ≤ f ∧ f < 6) (hc : S.1 2 = c) (hc6 : c ≤ 600) (ha : S.2.1 28 f = a) (hac : a ≤ c) (hn : ∀ j : Nat, j < c → 0 ≤ S.2.1 26 j ∧ S.2.1 26 j < 200) : z_Fn mX0_learnUpTo [zR 4, zI f, zI m] S none (x_lu S f m a (c - a)) := by
  refine z_enter (by decide +kernel) rfl (z_n1 trivial (z_n1 trivial (z_n1 trivial z_n0))) (Nat.le_of_ble_eq_true rfl) ?_
  refine g_aload_n (i := 0) (q := 1) dX0_learnUpTo_0 rfl rfl rfl ?_
  refine g_getr (q := 4) dX0_learnUpTo_1 rfl fk_X0_25 rfl rfl ?_
  refine g_iload_n (i := 1) (q := 5) dX0_learnUpTo_4 rfl rfl rfl ?_
  refine g_ildv (q := 6) (z := (a : Int)) dX0_learnUpTo_5 rfl ⟨by decide, rfl, rfl⟩ (by omega) (by omega) ha ?_
  refine g_istore_n (i := 3) (q := 7) dX0_learnUpTo_6 rfl rfl (by decide) ?_
  exact l_X0_learnUpTo hf hc6 (c - a) a S hc hn (by omega) ⟨rfl, rfl⟩
-- Contracts
theorem s_X1_isInUse_t {S : zS} {n : Int} (hn : 0 ≤ n ∧ n < 200) (h : ¬ S.2.1 13 n = -1) : z_Fn mX1_isInUse [zR 2, zI n] S (some (zI 1)) S := by
  refine z_enter (by decide +kernel) rfl (z_n1 trivial (z_n1 trivial z_n0)) (Nat.le_of_ble_eq_true rfl) ?_
  refine g_aload_n (i := 0) (q := 1) dX1_isInUse_0 rfl rfl rfl ?_
  refine g_getr (q := 4) dX1_isInUse_1 rfl fk_X1_9 rfl rfl ?_
  refine g_iload_n (i := 1) (q := 5) dX1_isInUse_4 rfl rfl rfl ?_
  refine g_ildv (q := 6) (z := S.2.1 13 n) dX1_isInUse_5 rfl ⟨by decide, rfl, rfl⟩ (by omega) (by omega) rfl ?_
  refine g_iconst (q := 7) dX1_isInUse_6 rfl ⟨by decide, by decide⟩ ?_
  refine g_icmp_eq (t := 14) (q := 10) dX1_isInUse_7 (by decide) rfl (fun h7 => (False.elim (by omega))) (fun h7 => ?_)
  refine g_iconst (q := 11) dX1_isInUse_10 rfl ⟨by decide, by decide⟩ ?_
  refine g_goto (q := 0) (t := 15) dX1_isInUse_11 (by decide) ?_
  exact g_retz dX1_isInUse_15 rfl (by omega) (by decide) (by first | exact ⟨rfl, rfl⟩ | (exfalso; omega))
theorem s_X1_isInUse_f {S : zS} {n : Int} (hn : 0 ≤ n ∧ n < 200) (h : S.2.1 13 n = -1) : z_Fn mX1_isInUse [zR 2, zI n] S (some (zI 0)) S := by
  refine z_enter (by decide +kernel) rfl (z_n1 trivial (z_n1 trivial z_n0)) (Nat.le_of_ble_eq_true rfl) ?_
  refine g_aload_n (i := 0) (q := 1) dX1_isInUse_0 rfl rfl rfl ?_
  refine g_getr (q := 4) dX1_isInUse_1 rfl fk_X1_9 rfl rfl ?_
  refine g_iload_n (i := 1) (q := 5) dX1_isInUse_4 rfl rfl rfl ?_
  refine g_ildv (q := 6) (z := S.2.1 13 n) dX1_isInUse_5 rfl ⟨by decide, rfl, rfl⟩ (by omega) (by omega) rfl ?_
  refine g_iconst (q := 7) dX1_isInUse_6 rfl ⟨by decide, by decide⟩ ?_
  refine g_icmp_eq (t := 14) (q := 10) dX1_isInUse_7 (by decide) rfl (fun h7 => ?_) (fun h7 => (False.elim (by omega)))
  refine g_iconst (q := 15) dX1_isInUse_14 rfl ⟨by decide, by decide⟩ ?_
  exact g_retz dX1_isInUse_15 rfl (by omega) (by decide) (by first | exact ⟨rfl, rfl⟩ | (exfalso; omega))
theorem s_X1_isInQuarantine_t {S : zS} {n m : Int} (hn : 0 ≤ n ∧ n < 200) (h : m ≤ S.2.1 15 n) : z_Fn mX1_isInQuarantine [zR 2, zI n, zI m] S (some (zI 1)) S := by
  refine z_enter (by decide +kernel) rfl (z_n1 trivial (z_n1 trivial (z_n1 trivial z_n0))) (Nat.le_of_ble_eq_true rfl) ?_
  refine g_iload_n (i := 2) (q := 1) dX1_isInQuarantine_0 rfl rfl rfl ?_
  refine g_aload_n (i := 0) (q := 2) dX1_isInQuarantine_1 rfl rfl rfl ?_
  refine g_getr (q := 5) dX1_isInQuarantine_2 rfl fk_X1_18 rfl rfl ?_
  refine g_iload_n (i := 1) (q := 6) dX1_isInQuarantine_5 rfl rfl rfl ?_
  refine g_ildv (q := 7) (z := S.2.1 15 n) dX1_isInQuarantine_6 rfl ⟨by decide, rfl, rfl⟩ (by omega) (by omega) rfl ?_
  refine g_icmp_gt (t := 14) (q := 10) dX1_isInQuarantine_7 (by decide) rfl (fun h7 => (False.elim (by omega))) (fun h7 => ?_)
  refine g_iconst (q := 11) dX1_isInQuarantine_10 rfl ⟨by decide, by decide⟩ ?_
  refine g_goto (q := 0) (t := 15) dX1_isInQuarantine_11 (by decide) ?_
  exact g_retz dX1_isInQuarantine_15 rfl (by omega) (by decide) (by first | exact ⟨rfl, rfl⟩ | (exfalso; omega))
theorem s_X1_isInQuarantine_f {S : zS} {n m : Int} (hn : 0 ≤ n ∧ n < 200) (h : ¬ m ≤ S.2.1 15 n) : z_Fn mX1_isInQuarantine [zR 2, zI n, zI m] S (some (zI 0)) S := by
  refine z_enter (by decide +kernel) rfl (z_n1 trivial (z_n1 trivial (z_n1 trivial z_n0))) (Nat.le_of_ble_eq_true rfl) ?_
  refine g_iload_n (i := 2) (q := 1) dX1_isInQuarantine_0 rfl rfl rfl ?_
  refine g_aload_n (i := 0) (q := 2) dX1_isInQuarantine_1 rfl rfl rfl ?_
  refine g_getr (q := 5) dX1_isInQuarantine_2 rfl fk_X1_18 rfl rfl ?_
  refine g_iload_n (i := 1) (q := 6) dX1_isInQuarantine_5 rfl rfl rfl ?_
  refine g_ildv (q := 7) (z := S.2.1 15 n) dX1_isInQuarantine_6 rfl ⟨by decide, rfl, rfl⟩ (by omega) (by omega) rfl ?_
  refine g_icmp_gt (t := 14) (q := 10) dX1_isInQuarantine_7 (by decide) rfl (fun h7 => ?_) (fun h7 => (False.elim (by omega)))
  refine g_iconst (q := 15) dX1_isInQuarantine_14 rfl ⟨by decide, by decide⟩ ?_
  exact g_retz dX1_isInQuarantine_15 rfl (by omega) (by decide) (by first | exact ⟨rfl, rfl⟩ | (exfalso; omega))
theorem s_X1_isSilent_t {S : zS} {n m : Int} (hn : 0 ≤ n ∧ n < 200) (h : m ≤ S.2.1 16 n) : z_Fn mX1_isSilent [zR 2, zI n, zI m] S (some (zI 1)) S := by
  refine z_enter (by decide +kernel) rfl (z_n1 trivial (z_n1 trivial (z_n1 trivial z_n0))) (Nat.le_of_ble_eq_true rfl) ?_
  refine g_iload_n (i := 2) (q := 1) dX1_isSilent_0 rfl rfl rfl ?_
  refine g_aload_n (i := 0) (q := 2) dX1_isSilent_1 rfl rfl rfl ?_
  refine g_getr (q := 5) dX1_isSilent_2 rfl fk_X1_21 rfl rfl ?_
  refine g_iload_n (i := 1) (q := 6) dX1_isSilent_5 rfl rfl rfl ?_
  refine g_ildv (q := 7) (z := S.2.1 16 n) dX1_isSilent_6 rfl ⟨by decide, rfl, rfl⟩ (by omega) (by omega) rfl ?_
  refine g_icmp_gt (t := 14) (q := 10) dX1_isSilent_7 (by decide) rfl (fun h7 => (False.elim (by omega))) (fun h7 => ?_)
  refine g_iconst (q := 11) dX1_isSilent_10 rfl ⟨by decide, by decide⟩ ?_
  refine g_goto (q := 0) (t := 15) dX1_isSilent_11 (by decide) ?_
  exact g_retz dX1_isSilent_15 rfl (by omega) (by decide) (by first | exact ⟨rfl, rfl⟩ | (exfalso; omega))
theorem s_X1_isSilent_f {S : zS} {n m : Int} (hn : 0 ≤ n ∧ n < 200) (h : ¬ m ≤ S.2.1 16 n) : z_Fn mX1_isSilent [zR 2, zI n, zI m] S (some (zI 0)) S := by
  refine z_enter (by decide +kernel) rfl (z_n1 trivial (z_n1 trivial (z_n1 trivial z_n0))) (Nat.le_of_ble_eq_true rfl) ?_
  refine g_iload_n (i := 2) (q := 1) dX1_isSilent_0 rfl rfl rfl ?_
  refine g_aload_n (i := 0) (q := 2) dX1_isSilent_1 rfl rfl rfl ?_
  refine g_getr (q := 5) dX1_isSilent_2 rfl fk_X1_21 rfl rfl ?_
  refine g_iload_n (i := 1) (q := 6) dX1_isSilent_5 rfl rfl rfl ?_
  refine g_ildv (q := 7) (z := S.2.1 16 n) dX1_isSilent_6 rfl ⟨by decide, rfl, rfl⟩ (by omega) (by omega) rfl ?_
  refine g_icmp_gt (t := 14) (q := 10) dX1_isSilent_7 (by decide) rfl (fun h7 => ?_) (fun h7 => (False.elim (by omega)))
  refine g_iconst (q := 15) dX1_isSilent_14 rfl ⟨by decide, by decide⟩ ?_
  exact g_retz dX1_isSilent_15 rfl (by omega) (by decide) (by first | exact ⟨rfl, rfl⟩ | (exfalso; omega))
theorem s_X1_mayBeCalledBack_t {S : zS} {n m : Int} (hn : 0 ≤ n ∧ n < 200) (h : m ≤ S.2.1 17 n) : z_Fn mX1_mayBeCalledBack [zR 2, zI n, zI m] S (some (zI 1)) S := by
  refine z_enter (by decide +kernel) rfl (z_n1 trivial (z_n1 trivial (z_n1 trivial z_n0))) (Nat.le_of_ble_eq_true rfl) ?_
  refine g_iload_n (i := 2) (q := 1) dX1_mayBeCalledBack_0 rfl rfl rfl ?_
  refine g_aload_n (i := 0) (q := 2) dX1_mayBeCalledBack_1 rfl rfl rfl ?_
  refine g_getr (q := 5) dX1_mayBeCalledBack_2 rfl fk_X1_24 rfl rfl ?_
  refine g_iload_n (i := 1) (q := 6) dX1_mayBeCalledBack_5 rfl rfl rfl ?_
  refine g_ildv (q := 7) (z := S.2.1 17 n) dX1_mayBeCalledBack_6 rfl ⟨by decide, rfl, rfl⟩ (by omega) (by omega) rfl ?_
  refine g_icmp_gt (t := 14) (q := 10) dX1_mayBeCalledBack_7 (by decide) rfl (fun h7 => (False.elim (by omega))) (fun h7 => ?_)
  refine g_iconst (q := 11) dX1_mayBeCalledBack_10 rfl ⟨by decide, by decide⟩ ?_
  refine g_goto (q := 0) (t := 15) dX1_mayBeCalledBack_11 (by decide) ?_
  exact g_retz dX1_mayBeCalledBack_15 rfl (by omega) (by decide) (by first | exact ⟨rfl, rfl⟩ | (exfalso; omega))
theorem s_X1_mayBeCalledBack_f {S : zS} {n m : Int} (hn : 0 ≤ n ∧ n < 200) (h : ¬ m ≤ S.2.1 17 n) : z_Fn mX1_mayBeCalledBack [zR 2, zI n, zI m] S (some (zI 0)) S := by
  refine z_enter (by decide +kernel) rfl (z_n1 trivial (z_n1 trivial (z_n1 trivial z_n0))) (Nat.le_of_ble_eq_true rfl) ?_
  refine g_iload_n (i := 2) (q := 1) dX1_mayBeCalledBack_0 rfl rfl rfl ?_
  refine g_aload_n (i := 0) (q := 2) dX1_mayBeCalledBack_1 rfl rfl rfl ?_
  refine g_getr (q := 5) dX1_mayBeCalledBack_2 rfl fk_X1_24 rfl rfl ?_
  refine g_iload_n (i := 1) (q := 6) dX1_mayBeCalledBack_5 rfl rfl rfl ?_
  refine g_ildv (q := 7) (z := S.2.1 17 n) dX1_mayBeCalledBack_6 rfl ⟨by decide, rfl, rfl⟩ (by omega) (by omega) rfl ?_
  refine g_icmp_gt (t := 14) (q := 10) dX1_mayBeCalledBack_7 (by decide) rfl (fun h7 => ?_) (fun h7 => (False.elim (by omega)))
  refine g_iconst (q := 15) dX1_mayBeCalledBack_14 rfl ⟨by decide, by decide⟩ ?_
  exact g_retz dX1_mayBeCalledBack_15 rfl (by omega) (by decide) (by first | exact ⟨rfl, rfl⟩ | (exfalso; omega))
theorem s_X1_begin {S : zS} {n f t : Int} (hn : 0 ≤ n ∧ n < 200) : z_Fn mX1_begin [zR 2, zI n, zI f, zI t] S none (z_sA (z_sA S 13 n f) 14 n t) := by
  refine z_enter (by decide +kernel) rfl (z_n1 trivial (z_n1 trivial (z_n1 trivial (z_n1 trivial z_n0)))) (Nat.le_of_ble_eq_true rfl) ?_
  refine g_aload_n (i := 0) (q := 1) dX1_begin_0 rfl rfl rfl ?_
  refine g_getr (q := 4) dX1_begin_1 rfl fk_X1_9 rfl rfl ?_
  refine g_iload_n (i := 1) (q := 5) dX1_begin_4 rfl rfl rfl ?_
  refine g_iload_n (i := 2) (q := 6) dX1_begin_5 rfl rfl rfl ?_
  refine g_iast (q := 7) dX1_begin_6 rfl ⟨by decide, rfl, rfl⟩ (by omega) (by omega) ?_
  refine g_aload_n (i := 0) (q := 8) dX1_begin_7 rfl rfl rfl ?_
  refine g_getr (q := 11) dX1_begin_8 rfl fk_X1_15 rfl rfl ?_
  refine g_iload_n (i := 1) (q := 12) dX1_begin_11 rfl rfl rfl ?_
  refine g_iload_n (i := 3) (q := 13) dX1_begin_12 rfl rfl rfl ?_
  refine g_iast (q := 14) dX1_begin_13 rfl ⟨by decide, rfl, rfl⟩ (by omega) (by omega) ?_
  exact g_retv dX1_begin_14 rfl (by decide) (by first | exact ⟨rfl, rfl⟩ | (exfalso; omega))
def x_fin (S : zS) (n m : Int) : zS := z_sA (z_sA (z_sA (z_sA (z_sA S 13 n (-1)) 15 n (m + 99)) 16 n (-1)) 17 n (-1)) 18 n (-1)
theorem s_X1_finish {S : zS} {n m : Int} (hn : 0 ≤ n ∧ n < 200) (hm : 0 ≤ m ∧ m < 20000) : z_Fn mX1_finish [zR 2, zI n, zI m] S none (x_fin S n m) := by
  refine z_enter (by decide +kernel) rfl (z_n1 trivial (z_n1 trivial (z_n1 trivial z_n0))) (Nat.le_of_ble_eq_true rfl) ?_
  refine g_aload_n (i := 0) (q := 1) dX1_finish_0 rfl rfl rfl ?_
  refine g_getr (q := 4) dX1_finish_1 rfl fk_X1_9 rfl rfl ?_
  refine g_iload_n (i := 1) (q := 5) dX1_finish_4 rfl rfl rfl ?_
  refine g_iconst (q := 6) dX1_finish_5 rfl ⟨by decide, by decide⟩ ?_
  refine g_iast (q := 7) dX1_finish_6 rfl ⟨by decide, rfl, rfl⟩ (by omega) (by omega) ?_
  refine g_aload_n (i := 0) (q := 8) dX1_finish_7 rfl rfl rfl ?_
  refine g_getr (q := 11) dX1_finish_8 rfl fk_X1_18 rfl rfl ?_
  refine g_iload_n (i := 1) (q := 12) dX1_finish_11 rfl rfl rfl ?_
  refine g_iload_n (i := 2) (q := 13) dX1_finish_12 rfl rfl rfl ?_
  refine g_bipush (q := 15) dX1_finish_13 rfl ⟨by decide, by decide⟩ (by decide) ?_
  refine g_iadd (q := 16) dX1_finish_15 rfl (by constructor <;> omega) ?_
  refine g_iast (q := 17) dX1_finish_16 rfl ⟨by decide, rfl, rfl⟩ (by omega) (by omega) ?_
  refine g_aload_n (i := 0) (q := 18) dX1_finish_17 rfl rfl rfl ?_
  refine g_getr (q := 21) dX1_finish_18 rfl fk_X1_21 rfl rfl ?_
  refine g_iload_n (i := 1) (q := 22) dX1_finish_21 rfl rfl rfl ?_
  refine g_iconst (q := 23) dX1_finish_22 rfl ⟨by decide, by decide⟩ ?_
  refine g_iast (q := 24) dX1_finish_23 rfl ⟨by decide, rfl, rfl⟩ (by omega) (by omega) ?_
  refine g_aload_n (i := 0) (q := 25) dX1_finish_24 rfl rfl rfl ?_
  refine g_getr (q := 28) dX1_finish_25 rfl fk_X1_24 rfl rfl ?_
  refine g_iload_n (i := 1) (q := 29) dX1_finish_28 rfl rfl rfl ?_
  refine g_iconst (q := 30) dX1_finish_29 rfl ⟨by decide, by decide⟩ ?_
  refine g_iast (q := 31) dX1_finish_30 rfl ⟨by decide, rfl, rfl⟩ (by omega) (by omega) ?_
  refine g_aload_n (i := 0) (q := 32) dX1_finish_31 rfl rfl rfl ?_
  refine g_getr (q := 35) dX1_finish_32 rfl fk_X1_27 rfl rfl ?_
  refine g_iload_n (i := 1) (q := 36) dX1_finish_35 rfl rfl rfl ?_
  refine g_iconst (q := 37) dX1_finish_36 rfl ⟨by decide, by decide⟩ ?_
  refine g_iast (q := 38) dX1_finish_37 rfl ⟨by decide, rfl, rfl⟩ (by omega) (by omega) ?_
  exact g_retv dX1_finish_38 rfl (by decide) (by first | exact ⟨rfl, rfl⟩ | (exfalso; omega))
def x_sb (S : zS) (f : Int) (c : Nat) : Nat := z_ct (fun k => decide (S.2.1 13 k = f)) c
theorem x_sb_s (S : zS) (f : Int) (i : Nat) : x_sb S f (i + 1) = x_sb S f i + if S.2.1 13 i = f then 1 else 0 := by
  unfold x_sb
  rw [z_ct]
  simp
theorem x_sb_le (S : zS) (f : Int) (i : Nat) : x_sb S f i ≤ i := z_ct_le _ _
theorem l_X1_countServedBy {Q : zQ} {S : zS} {f : Int} (hQ : Q (.ok (some (zI (x_sb S f 200)))) S) : ∀ (k i : Nat) (w : Int), i + k = 200 → w = x_sb S f i → z_G mX1_countServedBy (z_F mX1_countServedBy Q) 0 4 [some (zR 2), some (zI f), some (zI w), some (zI (i : Int))] [] S := by
  intro k
  induction k with
  | zero =>
    intro i w hi hw
    have e : i = 200 := by omega
    subst e
    subst hw
    refine g_iload_n (i := 3) (q := 5) dX1_countServedBy_4 rfl rfl rfl ?_
    refine g_sipush (q := 8) dX1_countServedBy_5 rfl ⟨by decide, by decide⟩ (by decide) ?_
    refine g_icmp_ge (t := 30) (q := 11) dX1_countServedBy_8 (by decide) rfl (fun h8 => ?_) (fun h8 => (False.elim (by omega)))
    refine g_iload_n (i := 2) (q := 31) dX1_countServedBy_30 rfl rfl rfl ?_
    exact g_ret dX1_countServedBy_31 rfl (by decide) hQ
  | succ k ih =>
    intro i w hi hw
    have hle := x_sb_le S f i
    refine g_iload_n (i := 3) (q := 5) dX1_countServedBy_4 rfl rfl rfl ?_
    refine g_sipush (q := 8) dX1_countServedBy_5 rfl ⟨by decide, by decide⟩ (by decide) ?_
    refine g_icmp_ge (t := 30) (q := 11) dX1_countServedBy_8 (by decide) rfl (fun h8 => (False.elim (by omega))) (fun h8 => ?_)
    refine g_aload_n (i := 0) (q := 12) dX1_countServedBy_11 rfl rfl rfl ?_
    refine g_getr (q := 15) dX1_countServedBy_12 rfl fk_X1_9 rfl rfl ?_
    refine g_iload_n (i := 3) (q := 16) dX1_countServedBy_15 rfl rfl rfl ?_
    refine g_ildv (q := 17) (z := S.2.1 13 (i : Int)) dX1_countServedBy_16 rfl ⟨by decide, rfl, rfl⟩ (by omega) (by omega) rfl ?_
    refine g_iload_n (i := 1) (q := 18) dX1_countServedBy_17 rfl rfl rfl ?_
    refine g_icmp_ne (t := 24) (q := 21) dX1_countServedBy_18 (by decide) rfl (fun h18 => ?_) (fun h18 => ?_)
    · refine g_iinc (q := 27) (i := 3) (n := 1) dX1_countServedBy_24 rfl rfl (by constructor <;> omega) ?_
      refine g_goto (q := 0) (t := 4) dX1_countServedBy_27 (by decide) ?_
      exact ih (i + 1) _ (by omega) (by rw [x_sb_s]; split <;> omega)
    · refine g_iinc (q := 24) (i := 2) (n := 1) dX1_countServedBy_21 rfl rfl (by constructor <;> omega) ?_
      refine g_iinc (q := 27) (i := 3) (n := 1) dX1_countServedBy_24 rfl rfl (by constructor <;> omega) ?_
      refine g_goto (q := 0) (t := 4) dX1_countServedBy_27 (by decide) ?_
      exact ih (i + 1) _ (by omega) (by rw [x_sb_s]; split <;> omega)
theorem s_X1_countServedBy {S : zS} {f : Int} : z_Fn mX1_countServedBy [zR 2, zI f] S (some (zI (x_sb S f 200))) S := by
  refine z_enter (by decide +kernel) rfl (z_n1 trivial (z_n1 trivial z_n0)) (Nat.le_of_ble_eq_true rfl) ?_
  refine g_iconst (q := 1) dX1_countServedBy_0 rfl ⟨by decide, by decide⟩ ?_
  refine g_istore_n (i := 2) (q := 2) dX1_countServedBy_1 rfl rfl (by decide) ?_
  refine g_iconst (q := 3) dX1_countServedBy_2 rfl ⟨by decide, by decide⟩ ?_
  refine g_istore_n (i := 3) (q := 4) dX1_countServedBy_3 rfl rfl (by decide) ?_
  exact l_X1_countServedBy ⟨rfl, rfl⟩ 200 0 0 (by omega) rfl
-- Firms
theorem s_X6_isFirm_t {S : zS} {f : Int} (h : 0 ≤ f ∧ f < 6) : z_Fn mX6_isFirm [zI f] S (some (zI 1)) S := by
  refine z_enter (by decide +kernel) rfl (z_n1 trivial z_n0) (Nat.le_of_ble_eq_true rfl) ?_
  refine g_iload_n (i := 0) (q := 1) dX6_isFirm_0 rfl rfl rfl ?_
  refine g_if_lt (t := 14) (q := 4) dX6_isFirm_1 (by decide) rfl (fun h1 => ?_) (fun h1 => ?_)
  · refine g_iconst (q := 15) dX6_isFirm_14 rfl ⟨by decide, by decide⟩ ?_
    exact g_retz dX6_isFirm_15 rfl (by omega) (by decide) (by first | exact ⟨rfl, rfl⟩ | (exfalso; omega))
  · refine g_iload_n (i := 0) (q := 5) dX6_isFirm_4 rfl rfl rfl ?_
    refine g_bipush (q := 7) dX6_isFirm_5 rfl ⟨by decide, by decide⟩ (by decide) ?_
    refine g_icmp_ge (t := 14) (q := 10) dX6_isFirm_7 (by decide) rfl (fun h7 => ?_) (fun h7 => ?_)
    · refine g_iconst (q := 15) dX6_isFirm_14 rfl ⟨by decide, by decide⟩ ?_
      exact g_retz dX6_isFirm_15 rfl (by omega) (by decide) (by first | exact ⟨rfl, rfl⟩ | (exfalso; omega))
    · refine g_iconst (q := 11) dX6_isFirm_10 rfl ⟨by decide, by decide⟩ ?_
      refine g_goto (q := 0) (t := 15) dX6_isFirm_11 (by decide) ?_
      exact g_retz dX6_isFirm_15 rfl (by omega) (by decide) (by first | exact ⟨rfl, rfl⟩ | (exfalso; omega))
theorem s_X6_isFirm_f {S : zS} {f : Int} (h : ¬ (0 ≤ f ∧ f < 6)) : z_Fn mX6_isFirm [zI f] S (some (zI 0)) S := by
  refine z_enter (by decide +kernel) rfl (z_n1 trivial z_n0) (Nat.le_of_ble_eq_true rfl) ?_
  refine g_iload_n (i := 0) (q := 1) dX6_isFirm_0 rfl rfl rfl ?_
  refine g_if_lt (t := 14) (q := 4) dX6_isFirm_1 (by decide) rfl (fun h1 => ?_) (fun h1 => ?_)
  · refine g_iconst (q := 15) dX6_isFirm_14 rfl ⟨by decide, by decide⟩ ?_
    exact g_retz dX6_isFirm_15 rfl (by omega) (by decide) (by first | exact ⟨rfl, rfl⟩ | (exfalso; omega))
  · refine g_iload_n (i := 0) (q := 5) dX6_isFirm_4 rfl rfl rfl ?_
    refine g_bipush (q := 7) dX6_isFirm_5 rfl ⟨by decide, by decide⟩ (by decide) ?_
    refine g_icmp_ge (t := 14) (q := 10) dX6_isFirm_7 (by decide) rfl (fun h7 => ?_) (fun h7 => ?_)
    · refine g_iconst (q := 15) dX6_isFirm_14 rfl ⟨by decide, by decide⟩ ?_
      exact g_retz dX6_isFirm_15 rfl (by omega) (by decide) (by first | exact ⟨rfl, rfl⟩ | (exfalso; omega))
    · refine g_iconst (q := 11) dX6_isFirm_10 rfl ⟨by decide, by decide⟩ ?_
      refine g_goto (q := 0) (t := 15) dX6_isFirm_11 (by decide) ?_
      exact g_retz dX6_isFirm_15 rfl (by omega) (by decide) (by first | exact ⟨rfl, rfl⟩ | (exfalso; omega))
theorem s_X6_isBlock_t {S : zS} {f : Int} (h : 0 ≤ f ∧ f < 20) : z_Fn mX6_isBlock [zI f] S (some (zI 1)) S := by
  refine z_enter (by decide +kernel) rfl (z_n1 trivial z_n0) (Nat.le_of_ble_eq_true rfl) ?_
  refine g_iload_n (i := 0) (q := 1) dX6_isBlock_0 rfl rfl rfl ?_
  refine g_if_lt (t := 14) (q := 4) dX6_isBlock_1 (by decide) rfl (fun h1 => ?_) (fun h1 => ?_)
  · refine g_iconst (q := 15) dX6_isBlock_14 rfl ⟨by decide, by decide⟩ ?_
    exact g_retz dX6_isBlock_15 rfl (by omega) (by decide) (by first | exact ⟨rfl, rfl⟩ | (exfalso; omega))
  · refine g_iload_n (i := 0) (q := 5) dX6_isBlock_4 rfl rfl rfl ?_
    refine g_bipush (q := 7) dX6_isBlock_5 rfl ⟨by decide, by decide⟩ (by decide) ?_
    refine g_icmp_ge (t := 14) (q := 10) dX6_isBlock_7 (by decide) rfl (fun h7 => ?_) (fun h7 => ?_)
    · refine g_iconst (q := 15) dX6_isBlock_14 rfl ⟨by decide, by decide⟩ ?_
      exact g_retz dX6_isBlock_15 rfl (by omega) (by decide) (by first | exact ⟨rfl, rfl⟩ | (exfalso; omega))
    · refine g_iconst (q := 11) dX6_isBlock_10 rfl ⟨by decide, by decide⟩ ?_
      refine g_goto (q := 0) (t := 15) dX6_isBlock_11 (by decide) ?_
      exact g_retz dX6_isBlock_15 rfl (by omega) (by decide) (by first | exact ⟨rfl, rfl⟩ | (exfalso; omega))
theorem s_X6_isBlock_f {S : zS} {f : Int} (h : ¬ (0 ≤ f ∧ f < 20)) : z_Fn mX6_isBlock [zI f] S (some (zI 0)) S := by
  refine z_enter (by decide +kernel) rfl (z_n1 trivial z_n0) (Nat.le_of_ble_eq_true rfl) ?_
  refine g_iload_n (i := 0) (q := 1) dX6_isBlock_0 rfl rfl rfl ?_
  refine g_if_lt (t := 14) (q := 4) dX6_isBlock_1 (by decide) rfl (fun h1 => ?_) (fun h1 => ?_)
  · refine g_iconst (q := 15) dX6_isBlock_14 rfl ⟨by decide, by decide⟩ ?_
    exact g_retz dX6_isBlock_15 rfl (by omega) (by decide) (by first | exact ⟨rfl, rfl⟩ | (exfalso; omega))
  · refine g_iload_n (i := 0) (q := 5) dX6_isBlock_4 rfl rfl rfl ?_
    refine g_bipush (q := 7) dX6_isBlock_5 rfl ⟨by decide, by decide⟩ (by decide) ?_
    refine g_icmp_ge (t := 14) (q := 10) dX6_isBlock_7 (by decide) rfl (fun h7 => ?_) (fun h7 => ?_)
    · refine g_iconst (q := 15) dX6_isBlock_14 rfl ⟨by decide, by decide⟩ ?_
      exact g_retz dX6_isBlock_15 rfl (by omega) (by decide) (by first | exact ⟨rfl, rfl⟩ | (exfalso; omega))
    · refine g_iconst (q := 11) dX6_isBlock_10 rfl ⟨by decide, by decide⟩ ?_
      refine g_goto (q := 0) (t := 15) dX6_isBlock_11 (by decide) ?_
      exact g_retz dX6_isBlock_15 rfl (by omega) (by decide) (by first | exact ⟨rfl, rfl⟩ | (exfalso; omega))
def z_wr (x : Int) : Int := x.bmod (2 ^ 32)
def x_pay (S : zS) (p t m : Int) : zS := z_sA (z_sA S 12 p (z_wr (S.2.1 12 p - m))) 12 t (z_wr ((z_sA S 12 p (z_wr (S.2.1 12 p - m))).2.1 12 t + m))
theorem s_X2_pay {S : zS} {p t m : Int} (hp : 0 ≤ p ∧ p < 6) (ht : 0 ≤ t ∧ t < 6) : z_Fn mX2_pay [zR 1, zI p, zI t, zI m] S none (x_pay S p t m) := by
  refine z_enter (by decide +kernel) rfl (z_n1 trivial (z_n1 trivial (z_n1 trivial (z_n1 trivial z_n0)))) (Nat.le_of_ble_eq_true rfl) ?_
  refine g_iload_n (i := 1) (q := 1) dX2_pay_0 rfl rfl rfl ?_
  refine g_fnN (as := [zI p]) (q := 4) (u' := 0) dX2_pay_1 rfl ck_X2_25 rfl rfl (Nat.le_of_ble_eq_true rfl) (by decide) rfl (by decide) (s_X6_isFirm_t hp) rfl ?_
  refine g_if_eq (t := 34) (q := 7) dX2_pay_4 (by decide) rfl (fun h4 => (False.elim (by omega))) (fun h4 => ?_)
  refine g_iload_n (i := 2) (q := 8) dX2_pay_7 rfl rfl rfl ?_
  refine g_fnN (as := [zI t]) (q := 11) (u' := 0) dX2_pay_8 rfl ck_X2_25 rfl rfl (Nat.le_of_ble_eq_true rfl) (by decide) rfl (by decide) (s_X6_isFirm_t ht) rfl ?_
  refine g_if_eq (t := 34) (q := 14) dX2_pay_11 (by decide) rfl (fun h11 => (False.elim (by omega))) (fun h11 => ?_)
  refine g_aload_n (i := 0) (q := 15) dX2_pay_14 rfl rfl rfl ?_
  refine g_getr (q := 18) dX2_pay_15 rfl fk_X2_22 rfl rfl ?_
  refine g_iload_n (i := 1) (q := 19) dX2_pay_18 rfl rfl rfl ?_
  refine g_dup2 (q := 20) dX2_pay_19 rfl trivial trivial ?_
  refine g_ildv (q := 21) (z := S.2.1 12 p) dX2_pay_20 rfl ⟨by decide, rfl, rfl⟩ (by omega) (by omega) rfl ?_
  refine g_iload_n (i := 3) (q := 22) dX2_pay_21 rfl rfl rfl ?_
  refine g_isubw (q := 23) dX2_pay_22 rfl ?_
  refine g_iast (q := 24) dX2_pay_23 rfl ⟨by decide, rfl, rfl⟩ (by omega) (by omega) ?_
  refine g_aload_n (i := 0) (q := 25) dX2_pay_24 rfl rfl rfl ?_
  refine g_getr (q := 28) dX2_pay_25 rfl fk_X2_22 rfl rfl ?_
  refine g_iload_n (i := 2) (q := 29) dX2_pay_28 rfl rfl rfl ?_
  refine g_dup2 (q := 30) dX2_pay_29 rfl trivial trivial ?_
  refine g_ildv (q := 31) (z := _) dX2_pay_30 rfl ⟨by decide, rfl, rfl⟩ (by omega) (by omega) rfl ?_
  refine g_iload_n (i := 3) (q := 32) dX2_pay_31 rfl rfl rfl ?_
  refine g_iaddw (q := 33) dX2_pay_32 rfl ?_
  refine g_iast (q := 34) dX2_pay_33 rfl ⟨by decide, rfl, rfl⟩ (by omega) (by omega) ?_
  exact g_retv dX2_pay_34 rfl (by decide) (by first | exact ⟨rfl, rfl⟩ | (exfalso; omega))
-- History
def x_note (S : zS) (b n x : Int) : zS := z_sS (z_sA (z_sA (z_sA S 36 (S.1 3) b) 37 (S.1 3) n) 38 (S.1 3) x) 3 (S.1 3 + 1)
theorem s_X3_note {S : zS} {b n x : Int} (hb : b = 0 ∨ b = 1) (h0 : 0 ≤ S.1 3) (h1 : S.1 3 < 572) : z_Fn mX3_note [zR 5, zI b, zI n, zI x] S none (x_note S b n x) := by
  refine z_enter (by decide +kernel) rfl (z_n1 trivial (z_n1 trivial (z_n1 trivial (z_n1 trivial z_n0)))) (Nat.le_of_ble_eq_true rfl) ?_
  refine g_aload_n (i := 0) (q := 1) dX3_note_0 rfl rfl rfl ?_
  refine g_getv (q := 4) (z := S.1 3) dX3_note_1 rfl fk_X3_22 rfl rfl rfl ?_
  refine g_sipush (q := 7) dX3_note_4 rfl ⟨by decide, by decide⟩ (by decide) ?_
  refine g_icmp_ge (t := 50) (q := 10) dX3_note_7 (by decide) rfl (fun h7 => (False.elim (by omega))) (fun h7 => ?_)
  refine g_aload_n (i := 0) (q := 11) dX3_note_10 rfl rfl rfl ?_
  refine g_getr (q := 14) dX3_note_11 rfl fk_X3_11 rfl rfl ?_
  refine g_aload_n (i := 0) (q := 15) dX3_note_14 rfl rfl rfl ?_
  refine g_getv (q := 18) (z := S.1 3) dX3_note_15 rfl fk_X3_22 rfl rfl rfl ?_
  refine g_iload_n (i := 1) (q := 19) dX3_note_18 rfl rfl rfl ?_
  refine g_zast (q := 20) dX3_note_19 rfl ⟨by decide, rfl, rfl⟩ (by omega) (by omega) (by omega) ?_
  refine g_aload_n (i := 0) (q := 21) dX3_note_20 rfl rfl rfl ?_
  refine g_getr (q := 24) dX3_note_21 rfl fk_X3_15 rfl rfl ?_
  refine g_aload_n (i := 0) (q := 25) dX3_note_24 rfl rfl rfl ?_
  refine g_getv (q := 28) (z := S.1 3) dX3_note_25 rfl fk_X3_22 rfl rfl rfl ?_
  refine g_iload_n (i := 2) (q := 29) dX3_note_28 rfl rfl rfl ?_
  refine g_iast (q := 30) dX3_note_29 rfl ⟨by decide, rfl, rfl⟩ (by omega) (by omega) ?_
  refine g_aload_n (i := 0) (q := 31) dX3_note_30 rfl rfl rfl ?_
  refine g_getr (q := 34) dX3_note_31 rfl fk_X3_19 rfl rfl ?_
  refine g_aload_n (i := 0) (q := 35) dX3_note_34 rfl rfl rfl ?_
  refine g_getv (q := 38) (z := S.1 3) dX3_note_35 rfl fk_X3_22 rfl rfl rfl ?_
  refine g_iload_n (i := 3) (q := 39) dX3_note_38 rfl rfl rfl ?_
  refine g_iast (q := 40) dX3_note_39 rfl ⟨by decide, rfl, rfl⟩ (by omega) (by omega) ?_
  refine g_aload_n (i := 0) (q := 41) dX3_note_40 rfl rfl rfl ?_
  refine g_dup (q := 42) dX3_note_41 rfl trivial ?_
  refine g_getv (q := 45) (z := S.1 3) dX3_note_42 rfl fk_X3_22 rfl rfl rfl ?_
  refine g_iconst (q := 46) dX3_note_45 rfl ⟨by decide, by decide⟩ ?_
  refine g_iadd (q := 47) dX3_note_46 rfl (by constructor <;> omega) ?_
  refine g_put (q := 50) dX3_note_47 rfl fk_X3_22 fp_3_3 rfl rfl ?_
  exact g_retv dX3_note_50 rfl (by decide) (by first | exact ⟨rfl, rfl⟩ | (exfalso; omega))
theorem s_X3_serves {S : zS} {n x : Int} (h0 : 0 ≤ S.1 3) (h1 : S.1 3 < 572) : z_Fn mX3_serves [zR 5, zI n, zI x] S none (x_note S 0 n x) := by
  refine z_enter (by decide +kernel) rfl (z_n1 trivial (z_n1 trivial (z_n1 trivial z_n0))) (Nat.le_of_ble_eq_true rfl) ?_
  refine g_aload_n (i := 0) (q := 1) dX3_serves_0 rfl rfl rfl ?_
  refine g_iconst (q := 2) dX3_serves_1 rfl ⟨by decide, by decide⟩ ?_
  refine g_iload_n (i := 1) (q := 3) dX3_serves_2 rfl rfl rfl ?_
  refine g_iload_n (i := 2) (q := 4) dX3_serves_3 rfl rfl rfl ?_
  refine g_fnV (as := [zI 0, zI n, zI x]) (q := 7) (u' := 0) dX3_serves_4 rfl ck_X3_26 rfl rfl rfl (Nat.le_of_ble_eq_true rfl) (by decide) rfl (by decide) (s_X3_note (by omega) h0 h1) rfl ?_
  exact g_retv dX3_serves_7 rfl (by decide) (by first | exact ⟨rfl, rfl⟩ | (exfalso; omega))
theorem s_X3_firmEnds {S : zS} {n x : Int} (h0 : 0 ≤ S.1 3) (h1 : S.1 3 < 572) : z_Fn mX3_firmEnds [zR 5, zI n, zI x] S none (x_note S 1 n x) := by
  refine z_enter (by decide +kernel) rfl (z_n1 trivial (z_n1 trivial (z_n1 trivial z_n0))) (Nat.le_of_ble_eq_true rfl) ?_
  refine g_aload_n (i := 0) (q := 1) dX3_firmEnds_0 rfl rfl rfl ?_
  refine g_iconst (q := 2) dX3_firmEnds_1 rfl ⟨by decide, by decide⟩ ?_
  refine g_iload_n (i := 1) (q := 3) dX3_firmEnds_2 rfl rfl rfl ?_
  refine g_iload_n (i := 2) (q := 4) dX3_firmEnds_3 rfl rfl rfl ?_
  refine g_fnV (as := [zI 1, zI n, zI x]) (q := 7) (u' := 0) dX3_firmEnds_4 rfl ck_X3_26 rfl rfl rfl (Nat.le_of_ble_eq_true rfl) (by decide) rfl (by decide) (s_X3_note (by omega) h0 h1) rfl ?_
  exact g_retv dX3_firmEnds_7 rfl (by decide) (by first | exact ⟨rfl, rfl⟩ | (exfalso; omega))
def x_rep (S : zS) (n : Int) : Nat → Nat → Int → Int
  | _, 0, s => s
  | i, k + 1, s => x_rep S n (i + 1) k (if S.2.1 37 i = (if S.2.1 36 i = 0 then n else s) then S.2.1 38 i else s)
theorem l_X3_replay {Q : zQ} {S : zS} {n : Int} {c : Nat} (hc : S.1 3 = c) (h572 : c ≤ 572) : ∀ (k i : Nat) (s : Int), i + k = c → Q (.ok (some (zI (x_rep S n i k s)))) S → ∀ w, z_G mX3_replay (z_F mX3_replay Q) 0 4 [some (zR 5), some (zI n), some (zI s), some (zI (i : Int)), w] [] S := by
  intro k
  induction k with
  | zero =>
    intro i s hi hQ w
    refine g_iload_n (i := 3) (q := 5) dX3_replay_4 rfl rfl rfl ?_
    refine g_aload_n (i := 0) (q := 6) dX3_replay_5 rfl rfl rfl ?_
    refine g_getv (q := 9) (z := S.1 3) dX3_replay_6 rfl fk_X3_22 rfl rfl rfl ?_
    refine g_icmp_ge (t := 52) (q := 12) dX3_replay_9 (by decide) rfl (fun h9 => ?_) (fun h9 => (False.elim (by omega)))
    refine g_iload_n (i := 2) (q := 53) dX3_replay_52 rfl rfl rfl ?_
    exact g_ret dX3_replay_53 rfl (by decide) hQ
  | succ k ih =>
    intro i s hi hQ w
    rw [x_rep] at hQ
    refine g_iload_n (i := 3) (q := 5) dX3_replay_4 rfl rfl rfl ?_
    refine g_aload_n (i := 0) (q := 6) dX3_replay_5 rfl rfl rfl ?_
    refine g_getv (q := 9) (z := S.1 3) dX3_replay_6 rfl fk_X3_22 rfl rfl rfl ?_
    refine g_icmp_ge (t := 52) (q := 12) dX3_replay_9 (by decide) rfl (fun h9 => (False.elim (by omega))) (fun h9 => ?_)
    refine g_aload_n (i := 0) (q := 13) dX3_replay_12 rfl rfl rfl ?_
    refine g_getr (q := 16) dX3_replay_13 rfl fk_X3_11 rfl rfl ?_
    refine g_iload_n (i := 3) (q := 17) dX3_replay_16 rfl rfl rfl ?_
    refine g_zldv (q := 18) (z := S.2.1 36 (i : Int)) dX3_replay_17 rfl ⟨by decide, rfl, rfl⟩ (by omega) (by omega) rfl ?_
    refine g_if_eq (t := 25) (q := 21) dX3_replay_18 (by decide) rfl (fun h18 => ?_) (fun h18 => ?_)
    · refine g_iload_n (i := 1) (q := 26) dX3_replay_25 rfl rfl rfl ?_
      refine g_istore (q := 28) dX3_replay_26 rfl (by decide) ?_
      refine g_aload_n (i := 0) (q := 29) dX3_replay_28 rfl rfl rfl ?_
      refine g_getr (q := 32) dX3_replay_29 rfl fk_X3_15 rfl rfl ?_
      refine g_iload_n (i := 3) (q := 33) dX3_replay_32 rfl rfl rfl ?_
      refine g_ildv (q := 34) (z := S.2.1 37 (i : Int)) dX3_replay_33 rfl ⟨by decide, rfl, rfl⟩ (by omega) (by omega) rfl ?_
      refine g_iload (q := 36) dX3_replay_34 rfl rfl ?_
      refine g_icmp_ne (t := 46) (q := 39) dX3_replay_36 (by decide) rfl (fun h36 => ?_) (fun h36 => ?_)
      · refine g_iinc (q := 49) (i := 3) (n := 1) dX3_replay_46 rfl rfl (by constructor <;> omega) ?_
        refine g_goto (q := 0) (t := 4) dX3_replay_49 (by decide) ?_
        exact ih (i + 1) _ (by omega) (by simpa [h18, h36] using hQ) _
      · refine g_aload_n (i := 0) (q := 40) dX3_replay_39 rfl rfl rfl ?_
        refine g_getr (q := 43) dX3_replay_40 rfl fk_X3_19 rfl rfl ?_
        refine g_iload_n (i := 3) (q := 44) dX3_replay_43 rfl rfl rfl ?_
        refine g_ildv (q := 45) (z := S.2.1 38 (i : Int)) dX3_replay_44 rfl ⟨by decide, rfl, rfl⟩ (by omega) (by omega) rfl ?_
        refine g_istore_n (i := 2) (q := 46) dX3_replay_45 rfl rfl (by decide) ?_
        refine g_iinc (q := 49) (i := 3) (n := 1) dX3_replay_46 rfl rfl (by constructor <;> omega) ?_
        refine g_goto (q := 0) (t := 4) dX3_replay_49 (by decide) ?_
        exact ih (i + 1) _ (by omega) (by simpa [h18, h36] using hQ) _
    · refine g_iload_n (i := 2) (q := 22) dX3_replay_21 rfl rfl rfl ?_
      refine g_goto (q := 0) (t := 26) dX3_replay_22 (by decide) ?_
      refine g_istore (q := 28) dX3_replay_26 rfl (by decide) ?_
      refine g_aload_n (i := 0) (q := 29) dX3_replay_28 rfl rfl rfl ?_
      refine g_getr (q := 32) dX3_replay_29 rfl fk_X3_15 rfl rfl ?_
      refine g_iload_n (i := 3) (q := 33) dX3_replay_32 rfl rfl rfl ?_
      refine g_ildv (q := 34) (z := S.2.1 37 (i : Int)) dX3_replay_33 rfl ⟨by decide, rfl, rfl⟩ (by omega) (by omega) rfl ?_
      refine g_iload (q := 36) dX3_replay_34 rfl rfl ?_
      refine g_icmp_ne (t := 46) (q := 39) dX3_replay_36 (by decide) rfl (fun h36 => ?_) (fun h36 => ?_)
      · refine g_iinc (q := 49) (i := 3) (n := 1) dX3_replay_46 rfl rfl (by constructor <;> omega) ?_
        refine g_goto (q := 0) (t := 4) dX3_replay_49 (by decide) ?_
        exact ih (i + 1) _ (by omega) (by simpa [h18, h36] using hQ) _
      · refine g_aload_n (i := 0) (q := 40) dX3_replay_39 rfl rfl rfl ?_
        refine g_getr (q := 43) dX3_replay_40 rfl fk_X3_19 rfl rfl ?_
        refine g_iload_n (i := 3) (q := 44) dX3_replay_43 rfl rfl rfl ?_
        refine g_ildv (q := 45) (z := S.2.1 38 (i : Int)) dX3_replay_44 rfl ⟨by decide, rfl, rfl⟩ (by omega) (by omega) rfl ?_
        refine g_istore_n (i := 2) (q := 46) dX3_replay_45 rfl rfl (by decide) ?_
        refine g_iinc (q := 49) (i := 3) (n := 1) dX3_replay_46 rfl rfl (by constructor <;> omega) ?_
        refine g_goto (q := 0) (t := 4) dX3_replay_49 (by decide) ?_
        exact ih (i + 1) _ (by omega) (by simpa [h18, h36] using hQ) _
theorem s_X3_replay {S : zS} {n : Int} {c : Nat} (hc : S.1 3 = c) (h572 : c ≤ 572) : z_Fn mX3_replay [zR 5, zI n] S (some (zI (x_rep S n 0 c (-1)))) S := by
  refine z_enter (by decide +kernel) rfl (z_n1 trivial (z_n1 trivial z_n0)) (Nat.le_of_ble_eq_true rfl) ?_
  refine g_iconst (q := 1) dX3_replay_0 rfl ⟨by decide, by decide⟩ ?_
  refine g_istore_n (i := 2) (q := 2) dX3_replay_1 rfl rfl (by decide) ?_
  refine g_iconst (q := 3) dX3_replay_2 rfl ⟨by decide, by decide⟩ ?_
  refine g_istore_n (i := 3) (q := 4) dX3_replay_3 rfl rfl (by decide) ?_
  exact l_X3_replay hc h572 c 0 (-1) (by omega) ⟨rfl, rfl⟩ _
-- Route
def x_hb (S : zS) (f : Int) : zS := z_sS (z_sA S 39 0 f) 4 1
theorem s_X5_begin {S : zS} {f : Int} : z_Fn mX5_begin [zR 6, zI f] S none (x_hb S f) := by
  refine z_enter (by decide +kernel) rfl (z_n1 trivial (z_n1 trivial z_n0)) (Nat.le_of_ble_eq_true rfl) ?_
  refine g_aload_n (i := 0) (q := 1) dX5_begin_0 rfl rfl rfl ?_
  refine g_getr (q := 4) dX5_begin_1 rfl fk_X5_9 rfl rfl ?_
  refine g_iconst (q := 5) dX5_begin_4 rfl ⟨by decide, by decide⟩ ?_
  refine g_iload_n (i := 1) (q := 6) dX5_begin_5 rfl rfl rfl ?_
  refine g_iast (q := 7) dX5_begin_6 rfl ⟨by decide, rfl, rfl⟩ (by omega) (by omega) ?_
  refine g_aload_n (i := 0) (q := 8) dX5_begin_7 rfl rfl rfl ?_
  refine g_iconst (q := 9) dX5_begin_8 rfl ⟨by decide, by decide⟩ ?_
  refine g_put (q := 12) dX5_begin_9 rfl fk_X5_15 fp_5_1 rfl rfl ?_
  exact g_retv dX5_begin_12 rfl (by decide) (by first | exact ⟨rfl, rfl⟩ | (exfalso; omega))
def x_ha (S : zS) (f : Int) : zS := z_sS (z_sA S 39 (S.1 4) f) 4 (S.1 4 + 1)
theorem s_X5_add {S : zS} {f : Int} (h0 : 0 ≤ S.1 4) (h1 : S.1 4 < 7) : z_Fn mX5_add [zR 6, zI f] S none (x_ha S f) := by
  refine z_enter (by decide +kernel) rfl (z_n1 trivial (z_n1 trivial z_n0)) (Nat.le_of_ble_eq_true rfl) ?_
  refine g_aload_n (i := 0) (q := 1) dX5_add_0 rfl rfl rfl ?_
  refine g_getv (q := 4) (z := S.1 4) dX5_add_1 rfl fk_X5_15 rfl rfl rfl ?_
  refine g_aload_n (i := 0) (q := 5) dX5_add_4 rfl rfl rfl ?_
  refine g_getr (q := 8) dX5_add_5 rfl fk_X5_9 rfl rfl ?_
  refine g_alen (a := 0) (q := 9) dX5_add_8 rfl ⟨by decide, rfl, rfl⟩ (by decide) ?_
  refine g_icmp_ge (t := 32) (q := 12) dX5_add_9 (by decide) rfl (fun h9 => (False.elim (by omega))) (fun h9 => ?_)
  refine g_aload_n (i := 0) (q := 13) dX5_add_12 rfl rfl rfl ?_
  refine g_getr (q := 16) dX5_add_13 rfl fk_X5_9 rfl rfl ?_
  refine g_aload_n (i := 0) (q := 17) dX5_add_16 rfl rfl rfl ?_
  refine g_getv (q := 20) (z := S.1 4) dX5_add_17 rfl fk_X5_15 rfl rfl rfl ?_
  refine g_iload_n (i := 1) (q := 21) dX5_add_20 rfl rfl rfl ?_
  refine g_iast (q := 22) dX5_add_21 rfl ⟨by decide, rfl, rfl⟩ (by omega) (by omega) ?_
  refine g_aload_n (i := 0) (q := 23) dX5_add_22 rfl rfl rfl ?_
  refine g_dup (q := 24) dX5_add_23 rfl trivial ?_
  refine g_getv (q := 27) (z := S.1 4) dX5_add_24 rfl fk_X5_15 rfl rfl rfl ?_
  refine g_iconst (q := 28) dX5_add_27 rfl ⟨by decide, by decide⟩ ?_
  refine g_iadd (q := 29) dX5_add_28 rfl (by constructor <;> omega) ?_
  refine g_put (q := 32) dX5_add_29 rfl fk_X5_15 fp_5_1 rfl rfl ?_
  exact g_retv dX5_add_32 rfl (by decide) (by first | exact ⟨rfl, rfl⟩ | (exfalso; omega))
def x_hop (S : zS) (p : Int) : Int := if 0 ≤ p ∧ p < S.1 4 then S.2.1 39 p else -1
theorem s_X5_hopAt {S : zS} {p : Int} (h1 : S.1 4 ≤ 7) : z_Fn mX5_hopAt [zR 6, zI p] S (some (zI (x_hop S p))) S := by
  refine z_enter (by decide +kernel) rfl (z_n1 trivial (z_n1 trivial z_n0)) (Nat.le_of_ble_eq_true rfl) ?_
  refine g_iload_n (i := 1) (q := 1) dX5_hopAt_0 rfl rfl rfl ?_
  refine g_if_lt (t := 21) (q := 4) dX5_hopAt_1 (by decide) rfl (fun h1 => ?_) (fun h1 => ?_)
  · refine g_iconst (q := 22) dX5_hopAt_21 rfl ⟨by decide, by decide⟩ ?_
    exact g_ret dX5_hopAt_22 rfl (by decide) ⟨by unfold x_hop; first | rw [if_pos (by omega)] | rw [if_neg (by omega)], rfl⟩
  · refine g_iload_n (i := 1) (q := 5) dX5_hopAt_4 rfl rfl rfl ?_
    refine g_aload_n (i := 0) (q := 6) dX5_hopAt_5 rfl rfl rfl ?_
    refine g_getv (q := 9) (z := S.1 4) dX5_hopAt_6 rfl fk_X5_15 rfl rfl rfl ?_
    refine g_icmp_ge (t := 21) (q := 12) dX5_hopAt_9 (by decide) rfl (fun h9 => ?_) (fun h9 => ?_)
    · refine g_iconst (q := 22) dX5_hopAt_21 rfl ⟨by decide, by decide⟩ ?_
      exact g_ret dX5_hopAt_22 rfl (by decide) ⟨by unfold x_hop; first | rw [if_pos (by omega)] | rw [if_neg (by omega)], rfl⟩
    · refine g_aload_n (i := 0) (q := 13) dX5_hopAt_12 rfl rfl rfl ?_
      refine g_getr (q := 16) dX5_hopAt_13 rfl fk_X5_9 rfl rfl ?_
      refine g_iload_n (i := 1) (q := 17) dX5_hopAt_16 rfl rfl rfl ?_
      refine g_ildv (q := 18) (z := S.2.1 39 p) dX5_hopAt_17 rfl ⟨by decide, rfl, rfl⟩ (by omega) (by omega) rfl ?_
      refine g_goto (q := 0) (t := 22) dX5_hopAt_18 (by decide) ?_
      exact g_ret dX5_hopAt_22 rfl (by decide) ⟨by unfold x_hop; first | rw [if_pos (by omega)] | rw [if_neg (by omega)], rfl⟩
def x_has (S : zS) (f : Int) : Nat → Nat → Bool
  | _, 0 => false
  | i, k + 1 => decide (S.2.1 39 i = f) || x_has S f (i + 1) k
theorem l_X5_has {Q : zQ} {S : zS} {f : Int} {c : Nat} (hc : S.1 4 = c) (h7 : c ≤ 7) : ∀ (k i : Nat), i + k = c → Q (.ok (some (zI (if x_has S f i k then 1 else 0)))) S → z_G mX5_has (z_F mX5_has Q) 0 2 [some (zR 6), some (zI f), some (zI (i : Int))] [] S := by
  intro k
  induction k with
  | zero =>
    intro i hi hQ
    refine g_iload_n (i := 2) (q := 3) dX5_has_2 rfl rfl rfl ?_
    refine g_aload_n (i := 0) (q := 4) dX5_has_3 rfl rfl rfl ?_
    refine g_getv (q := 7) (z := S.1 4) dX5_has_4 rfl fk_X5_15 rfl rfl rfl ?_
    refine g_icmp_ge (t := 28) (q := 10) dX5_has_7 (by decide) rfl (fun h7 => ?_) (fun h7 => (False.elim (by omega)))
    refine g_iconst (q := 29) dX5_has_28 rfl ⟨by decide, by decide⟩ ?_
    exact g_retz dX5_has_29 rfl (by omega) (by decide) hQ
  | succ k ih =>
    intro i hi hQ
    rw [x_has] at hQ
    refine g_iload_n (i := 2) (q := 3) dX5_has_2 rfl rfl rfl ?_
    refine g_aload_n (i := 0) (q := 4) dX5_has_3 rfl rfl rfl ?_
    refine g_getv (q := 7) (z := S.1 4) dX5_has_4 rfl fk_X5_15 rfl rfl rfl ?_
    refine g_icmp_ge (t := 28) (q := 10) dX5_has_7 (by decide) rfl (fun h7 => (False.elim (by omega))) (fun h7 => ?_)
    refine g_aload_n (i := 0) (q := 11) dX5_has_10 rfl rfl rfl ?_
    refine g_getr (q := 14) dX5_has_11 rfl fk_X5_9 rfl rfl ?_
    refine g_iload_n (i := 2) (q := 15) dX5_has_14 rfl rfl rfl ?_
    refine g_ildv (q := 16) (z := S.2.1 39 (i : Int)) dX5_has_15 rfl ⟨by decide, rfl, rfl⟩ (by omega) (by omega) rfl ?_
    refine g_iload_n (i := 1) (q := 17) dX5_has_16 rfl rfl rfl ?_
    refine g_icmp_ne (t := 22) (q := 20) dX5_has_17 (by decide) rfl (fun h17 => ?_) (fun h17 => ?_)
    · refine g_iinc (q := 25) (i := 2) (n := 1) dX5_has_22 rfl rfl (by constructor <;> omega) ?_
      refine g_goto (q := 0) (t := 2) dX5_has_25 (by decide) ?_
      exact ih (i + 1) (by omega) (by simpa [h17] using hQ)
    · refine g_iconst (q := 21) dX5_has_20 rfl ⟨by decide, by decide⟩ ?_
      exact g_retz dX5_has_21 rfl (by omega) (by decide) (by simpa [h17] using hQ)
theorem s_X5_has {S : zS} {f : Int} {c : Nat} (hc : S.1 4 = c) (h7 : c ≤ 7) : z_Fn mX5_has [zR 6, zI f] S (some (zI (if x_has S f 0 c then 1 else 0))) S := by
  refine z_enter (by decide +kernel) rfl (z_n1 trivial (z_n1 trivial z_n0)) (Nat.le_of_ble_eq_true rfl) ?_
  refine g_iconst (q := 1) dX5_has_0 rfl ⟨by decide, by decide⟩ ?_
  refine g_istore_n (i := 2) (q := 2) dX5_has_1 rfl rfl (by decide) ?_
  exact l_X5_has hc h7 c 0 (by omega) ⟨rfl, rfl⟩
end
section
/-! ===== Portinghall's own small methods ===== -/
theorem s_X6_requireFirm_ok {S : zS} {f : Int} (h : 0 ≤ f ∧ f < 6) : z_Fn mX6_requireFirm [zI f] S none S := by
  refine z_enter (by decide +kernel) rfl (z_n1 trivial z_n0) (Nat.le_of_ble_eq_true rfl) ?_
  refine g_iload_n (i := 0) (q := 1) dX6_requireFirm_0 rfl rfl rfl ?_
  refine g_fnS (as := [zI f]) (q := 4) (u' := 0) dX6_requireFirm_1 rfl ck_X6_69 rfl rfl (Nat.le_of_ble_eq_true rfl) (by decide) rfl (by decide) (s_X6_isFirm_t h) rfl ?_
  refine g_if_ne (t := 18) (q := 7) dX6_requireFirm_4 (by decide) rfl (fun h4 => ?_) (fun h4 => (False.elim (by omega)))
  exact g_retv dX6_requireFirm_18 rfl (by decide) (by first | exact ⟨rfl, rfl⟩ | (exfalso; omega))
theorem s_X6_requireFirm_ex {S : zS} {f : Int} (h : ¬ (0 ≤ f ∧ f < 6)) : z_Ex mX6_requireFirm [zI f] S xI S := by
  refine z_enter (by decide +kernel) rfl (z_n1 trivial z_n0) (Nat.le_of_ble_eq_true rfl) ?_
  refine g_iload_n (i := 0) (q := 1) dX6_requireFirm_0 rfl rfl rfl ?_
  refine g_fnS (as := [zI f]) (q := 4) (u' := 0) dX6_requireFirm_1 rfl ck_X6_69 rfl rfl (Nat.le_of_ble_eq_true rfl) (by decide) rfl (by decide) (s_X6_isFirm_f h) rfl ?_
  refine g_if_ne (t := 18) (q := 7) dX6_requireFirm_4 (by decide) rfl (fun h4 => (False.elim (by omega))) (fun h4 => ?_)
  exact g_throwW (text := "no such firm") rfl rfl z_tk_I (by decide +kernel) dX6_requireFirm_7 dX6_requireFirm_10 dX6_requireFirm_11 dX6_requireFirm_14 dX6_requireFirm_17 (by decide) (by decide) (by decide) (by first | exact ⟨rfl, rfl⟩ | (exfalso; omega))
theorem s_X6_requireNumber_ok {S : zS} {n : Int} (h : 0 ≤ n ∧ n < 200) : z_Fn mX6_requireNumber [zI n] S none S := by
  refine z_enter (by decide +kernel) rfl (z_n1 trivial z_n0) (Nat.le_of_ble_eq_true rfl) ?_
  refine g_iload_n (i := 0) (q := 1) dX6_requireNumber_0 rfl rfl rfl ?_
  refine g_if_lt (t := 11) (q := 4) dX6_requireNumber_1 (by decide) rfl (fun h1 => ?_) (fun h1 => ?_)
  · exact g_throwW (text := "no such number") rfl rfl z_tk_I (by decide +kernel) dX6_requireNumber_11 dX6_requireNumber_14 dX6_requireNumber_15 dX6_requireNumber_18 dX6_requireNumber_21 (by decide) (by decide) (by decide) (by first | exact ⟨rfl, rfl⟩ | (exfalso; omega))
  · refine g_iload_n (i := 0) (q := 5) dX6_requireNumber_4 rfl rfl rfl ?_
    refine g_sipush (q := 8) dX6_requireNumber_5 rfl ⟨by decide, by decide⟩ (by decide) ?_
    refine g_icmp_lt (t := 22) (q := 11) dX6_requireNumber_8 (by decide) rfl (fun h8 => ?_) (fun h8 => ?_)
    · exact g_retv dX6_requireNumber_22 rfl (by decide) (by first | exact ⟨rfl, rfl⟩ | (exfalso; omega))
    · exact g_throwW (text := "no such number") rfl rfl z_tk_I (by decide +kernel) dX6_requireNumber_11 dX6_requireNumber_14 dX6_requireNumber_15 dX6_requireNumber_18 dX6_requireNumber_21 (by decide) (by decide) (by decide) (by first | exact ⟨rfl, rfl⟩ | (exfalso; omega))
theorem s_X6_requireNumber_ex {S : zS} {n : Int} (h : ¬ (0 ≤ n ∧ n < 200)) : z_Ex mX6_requireNumber [zI n] S xI S := by
  refine z_enter (by decide +kernel) rfl (z_n1 trivial z_n0) (Nat.le_of_ble_eq_true rfl) ?_
  refine g_iload_n (i := 0) (q := 1) dX6_requireNumber_0 rfl rfl rfl ?_
  refine g_if_lt (t := 11) (q := 4) dX6_requireNumber_1 (by decide) rfl (fun h1 => ?_) (fun h1 => ?_)
  · exact g_throwW (text := "no such number") rfl rfl z_tk_I (by decide +kernel) dX6_requireNumber_11 dX6_requireNumber_14 dX6_requireNumber_15 dX6_requireNumber_18 dX6_requireNumber_21 (by decide) (by decide) (by decide) (by first | exact ⟨rfl, rfl⟩ | (exfalso; omega))
  · refine g_iload_n (i := 0) (q := 5) dX6_requireNumber_4 rfl rfl rfl ?_
    refine g_sipush (q := 8) dX6_requireNumber_5 rfl ⟨by decide, by decide⟩ (by decide) ?_
    refine g_icmp_lt (t := 22) (q := 11) dX6_requireNumber_8 (by decide) rfl (fun h8 => ?_) (fun h8 => ?_)
    · exact g_retv dX6_requireNumber_22 rfl (by decide) (by first | exact ⟨rfl, rfl⟩ | (exfalso; omega))
    · exact g_throwW (text := "no such number") rfl rfl z_tk_I (by decide +kernel) dX6_requireNumber_11 dX6_requireNumber_14 dX6_requireNumber_15 dX6_requireNumber_18 dX6_requireNumber_21 (by decide) (by decide) (by decide) (by first | exact ⟨rfl, rfl⟩ | (exfalso; omega))
theorem s_X6_requireSecret_ok {S : zS} {n : Int} (h : 0 ≤ n ∧ n < 100) : z_Fn mX6_requireSecret [zI n] S none S := by
  refine z_enter (by decide +kernel) rfl (z_n1 trivial z_n0) (Nat.le_of_ble_eq_true rfl) ?_
  refine g_iload_n (i := 0) (q := 1) dX6_requireSecret_0 rfl rfl rfl ?_
  refine g_if_lt (t := 10) (q := 4) dX6_requireSecret_1 (by decide) rfl (fun h1 => ?_) (fun h1 => ?_)
  · exact g_throwW (text := "secret is out of range") rfl rfl z_tk_A (by decide +kernel) dX6_requireSecret_10 dX6_requireSecret_13 dX6_requireSecret_14 dX6_requireSecret_17 dX6_requireSecret_20 (by decide) (by decide) (by decide) (by first | exact ⟨rfl, rfl⟩ | (exfalso; omega))
  · refine g_iload_n (i := 0) (q := 5) dX6_requireSecret_4 rfl rfl rfl ?_
    refine g_bipush (q := 7) dX6_requireSecret_5 rfl ⟨by decide, by decide⟩ (by decide) ?_
    refine g_icmp_lt (t := 21) (q := 10) dX6_requireSecret_7 (by decide) rfl (fun h7 => ?_) (fun h7 => ?_)
    · exact g_retv dX6_requireSecret_21 rfl (by decide) (by first | exact ⟨rfl, rfl⟩ | (exfalso; omega))
    · exact g_throwW (text := "secret is out of range") rfl rfl z_tk_A (by decide +kernel) dX6_requireSecret_10 dX6_requireSecret_13 dX6_requireSecret_14 dX6_requireSecret_17 dX6_requireSecret_20 (by decide) (by decide) (by decide) (by first | exact ⟨rfl, rfl⟩ | (exfalso; omega))
theorem s_X6_requireSecret_ex {S : zS} {n : Int} (h : ¬ (0 ≤ n ∧ n < 100)) : z_Ex mX6_requireSecret [zI n] S xA S := by
  refine z_enter (by decide +kernel) rfl (z_n1 trivial z_n0) (Nat.le_of_ble_eq_true rfl) ?_
  refine g_iload_n (i := 0) (q := 1) dX6_requireSecret_0 rfl rfl rfl ?_
  refine g_if_lt (t := 10) (q := 4) dX6_requireSecret_1 (by decide) rfl (fun h1 => ?_) (fun h1 => ?_)
  · exact g_throwW (text := "secret is out of range") rfl rfl z_tk_A (by decide +kernel) dX6_requireSecret_10 dX6_requireSecret_13 dX6_requireSecret_14 dX6_requireSecret_17 dX6_requireSecret_20 (by decide) (by decide) (by decide) (by first | exact ⟨rfl, rfl⟩ | (exfalso; omega))
  · refine g_iload_n (i := 0) (q := 5) dX6_requireSecret_4 rfl rfl rfl ?_
    refine g_bipush (q := 7) dX6_requireSecret_5 rfl ⟨by decide, by decide⟩ (by decide) ?_
    refine g_icmp_lt (t := 21) (q := 10) dX6_requireSecret_7 (by decide) rfl (fun h7 => ?_) (fun h7 => ?_)
    · exact g_retv dX6_requireSecret_21 rfl (by decide) (by first | exact ⟨rfl, rfl⟩ | (exfalso; omega))
    · exact g_throwW (text := "secret is out of range") rfl rfl z_tk_A (by decide +kernel) dX6_requireSecret_10 dX6_requireSecret_13 dX6_requireSecret_14 dX6_requireSecret_17 dX6_requireSecret_20 (by decide) (by decide) (by decide) (by first | exact ⟨rfl, rfl⟩ | (exfalso; omega))
theorem s_X6_requireWhat_ok {S : zS} {w n : Int} (h : 0 ≤ w ∧ w < n) : z_Fn mX6_requireWhat [zI w, zI n] S none S := by
  refine z_enter (by decide +kernel) rfl (z_n1 trivial (z_n1 trivial z_n0)) (Nat.le_of_ble_eq_true rfl) ?_
  refine g_iload_n (i := 0) (q := 1) dX6_requireWhat_0 rfl rfl rfl ?_
  refine g_if_lt (t := 9) (q := 4) dX6_requireWhat_1 (by decide) rfl (fun h1 => ?_) (fun h1 => ?_)
  · exact g_throwW (text := "what is out of range") rfl rfl z_tk_A (by decide +kernel) dX6_requireWhat_9 dX6_requireWhat_12 dX6_requireWhat_13 dX6_requireWhat_16 dX6_requireWhat_19 (by decide) (by decide) (by decide) (by first | exact ⟨rfl, rfl⟩ | (exfalso; omega))
  · refine g_iload_n (i := 0) (q := 5) dX6_requireWhat_4 rfl rfl rfl ?_
    refine g_iload_n (i := 1) (q := 6) dX6_requireWhat_5 rfl rfl rfl ?_
    refine g_icmp_lt (t := 20) (q := 9) dX6_requireWhat_6 (by decide) rfl (fun h6 => ?_) (fun h6 => ?_)
    · exact g_retv dX6_requireWhat_20 rfl (by decide) (by first | exact ⟨rfl, rfl⟩ | (exfalso; omega))
    · exact g_throwW (text := "what is out of range") rfl rfl z_tk_A (by decide +kernel) dX6_requireWhat_9 dX6_requireWhat_12 dX6_requireWhat_13 dX6_requireWhat_16 dX6_requireWhat_19 (by decide) (by decide) (by decide) (by first | exact ⟨rfl, rfl⟩ | (exfalso; omega))
theorem s_X6_requireWhat_ex {S : zS} {w n : Int} (h : ¬ (0 ≤ w ∧ w < n)) : z_Ex mX6_requireWhat [zI w, zI n] S xA S := by
  refine z_enter (by decide +kernel) rfl (z_n1 trivial (z_n1 trivial z_n0)) (Nat.le_of_ble_eq_true rfl) ?_
  refine g_iload_n (i := 0) (q := 1) dX6_requireWhat_0 rfl rfl rfl ?_
  refine g_if_lt (t := 9) (q := 4) dX6_requireWhat_1 (by decide) rfl (fun h1 => ?_) (fun h1 => ?_)
  · exact g_throwW (text := "what is out of range") rfl rfl z_tk_A (by decide +kernel) dX6_requireWhat_9 dX6_requireWhat_12 dX6_requireWhat_13 dX6_requireWhat_16 dX6_requireWhat_19 (by decide) (by decide) (by decide) (by first | exact ⟨rfl, rfl⟩ | (exfalso; omega))
  · refine g_iload_n (i := 0) (q := 5) dX6_requireWhat_4 rfl rfl rfl ?_
    refine g_iload_n (i := 1) (q := 6) dX6_requireWhat_5 rfl rfl rfl ?_
    refine g_icmp_lt (t := 20) (q := 9) dX6_requireWhat_6 (by decide) rfl (fun h6 => ?_) (fun h6 => ?_)
    · exact g_retv dX6_requireWhat_20 rfl (by decide) (by first | exact ⟨rfl, rfl⟩ | (exfalso; omega))
    · exact g_throwW (text := "what is out of range") rfl rfl z_tk_A (by decide +kernel) dX6_requireWhat_9 dX6_requireWhat_12 dX6_requireWhat_13 dX6_requireWhat_16 dX6_requireWhat_19 (by decide) (by decide) (by decide) (by first | exact ⟨rfl, rfl⟩ | (exfalso; omega))
theorem s_X6_requireWay_ok {S : zS} {w : Int} (h : 0 ≤ w ∧ w ≤ 2) : z_Fn mX6_requireWay [zI w] S none S := by
  refine z_enter (by decide +kernel) rfl (z_n1 trivial z_n0) (Nat.le_of_ble_eq_true rfl) ?_
  refine g_iload_n (i := 0) (q := 1) dX6_requireWay_0 rfl rfl rfl ?_
  refine g_if_lt (t := 9) (q := 4) dX6_requireWay_1 (by decide) rfl (fun h1 => ?_) (fun h1 => ?_)
  · exact g_throwW (text := "way is out of range") rfl rfl z_tk_A (by decide +kernel) dX6_requireWay_9 dX6_requireWay_12 dX6_requireWay_13 dX6_requireWay_16 dX6_requireWay_19 (by decide) (by decide) (by decide) (by first | exact ⟨rfl, rfl⟩ | (exfalso; omega))
  · refine g_iload_n (i := 0) (q := 5) dX6_requireWay_4 rfl rfl rfl ?_
    refine g_iconst (q := 6) dX6_requireWay_5 rfl ⟨by decide, by decide⟩ ?_
    refine g_icmp_le (t := 20) (q := 9) dX6_requireWay_6 (by decide) rfl (fun h6 => ?_) (fun h6 => ?_)
    · exact g_retv dX6_requireWay_20 rfl (by decide) (by first | exact ⟨rfl, rfl⟩ | (exfalso; omega))
    · exact g_throwW (text := "way is out of range") rfl rfl z_tk_A (by decide +kernel) dX6_requireWay_9 dX6_requireWay_12 dX6_requireWay_13 dX6_requireWay_16 dX6_requireWay_19 (by decide) (by decide) (by decide) (by first | exact ⟨rfl, rfl⟩ | (exfalso; omega))
theorem s_X6_requireWay_ex {S : zS} {w : Int} (h : ¬ (0 ≤ w ∧ w ≤ 2)) : z_Ex mX6_requireWay [zI w] S xA S := by
  refine z_enter (by decide +kernel) rfl (z_n1 trivial z_n0) (Nat.le_of_ble_eq_true rfl) ?_
  refine g_iload_n (i := 0) (q := 1) dX6_requireWay_0 rfl rfl rfl ?_
  refine g_if_lt (t := 9) (q := 4) dX6_requireWay_1 (by decide) rfl (fun h1 => ?_) (fun h1 => ?_)
  · exact g_throwW (text := "way is out of range") rfl rfl z_tk_A (by decide +kernel) dX6_requireWay_9 dX6_requireWay_12 dX6_requireWay_13 dX6_requireWay_16 dX6_requireWay_19 (by decide) (by decide) (by decide) (by first | exact ⟨rfl, rfl⟩ | (exfalso; omega))
  · refine g_iload_n (i := 0) (q := 5) dX6_requireWay_4 rfl rfl rfl ?_
    refine g_iconst (q := 6) dX6_requireWay_5 rfl ⟨by decide, by decide⟩ ?_
    refine g_icmp_le (t := 20) (q := 9) dX6_requireWay_6 (by decide) rfl (fun h6 => ?_) (fun h6 => ?_)
    · exact g_retv dX6_requireWay_20 rfl (by decide) (by first | exact ⟨rfl, rfl⟩ | (exfalso; omega))
    · exact g_throwW (text := "way is out of range") rfl rfl z_tk_A (by decide +kernel) dX6_requireWay_9 dX6_requireWay_12 dX6_requireWay_13 dX6_requireWay_16 dX6_requireWay_19 (by decide) (by decide) (by decide) (by first | exact ⟨rfl, rfl⟩ | (exfalso; omega))
theorem s_X6_requireOrder_ok {S : zS} {o : Int} (h : 0 ≤ o ∧ o < S.1 1) : z_Fn mX6_requireOrder [zR 0, zI o] S none S := by
  refine z_enter (by decide +kernel) rfl (z_n1 trivial (z_n1 trivial z_n0)) (Nat.le_of_ble_eq_true rfl) ?_
  refine g_iload_n (i := 1) (q := 1) dX6_requireOrder_0 rfl rfl rfl ?_
  refine g_if_lt (t := 15) (q := 4) dX6_requireOrder_1 (by decide) rfl (fun h1 => ?_) (fun h1 => ?_)
  · exact g_throwW (text := "no such order") rfl rfl z_tk_I (by decide +kernel) dX6_requireOrder_15 dX6_requireOrder_18 dX6_requireOrder_19 dX6_requireOrder_22 dX6_requireOrder_25 (by decide) (by decide) (by decide) (by first | exact ⟨rfl, rfl⟩ | (exfalso; omega))
  · refine g_iload_n (i := 1) (q := 5) dX6_requireOrder_4 rfl rfl rfl ?_
    refine g_aload_n (i := 0) (q := 6) dX6_requireOrder_5 rfl rfl rfl ?_
    refine g_getr (q := 9) dX6_requireOrder_6 rfl fk_X6_30 rfl rfl ?_
    refine g_getv (q := 12) (z := S.1 1) dX6_requireOrder_9 rfl fk_X6_172 rfl rfl rfl ?_
    refine g_icmp_lt (t := 26) (q := 15) dX6_requireOrder_12 (by decide) rfl (fun h12 => ?_) (fun h12 => ?_)
    · exact g_retv dX6_requireOrder_26 rfl (by decide) (by first | exact ⟨rfl, rfl⟩ | (exfalso; omega))
    · exact g_throwW (text := "no such order") rfl rfl z_tk_I (by decide +kernel) dX6_requireOrder_15 dX6_requireOrder_18 dX6_requireOrder_19 dX6_requireOrder_22 dX6_requireOrder_25 (by decide) (by decide) (by decide) (by first | exact ⟨rfl, rfl⟩ | (exfalso; omega))
theorem s_X6_requireOrder_ex {S : zS} {o : Int} (h : ¬ (0 ≤ o ∧ o < S.1 1)) : z_Ex mX6_requireOrder [zR 0, zI o] S xI S := by
  refine z_enter (by decide +kernel) rfl (z_n1 trivial (z_n1 trivial z_n0)) (Nat.le_of_ble_eq_true rfl) ?_
  refine g_iload_n (i := 1) (q := 1) dX6_requireOrder_0 rfl rfl rfl ?_
  refine g_if_lt (t := 15) (q := 4) dX6_requireOrder_1 (by decide) rfl (fun h1 => ?_) (fun h1 => ?_)
  · exact g_throwW (text := "no such order") rfl rfl z_tk_I (by decide +kernel) dX6_requireOrder_15 dX6_requireOrder_18 dX6_requireOrder_19 dX6_requireOrder_22 dX6_requireOrder_25 (by decide) (by decide) (by decide) (by first | exact ⟨rfl, rfl⟩ | (exfalso; omega))
  · refine g_iload_n (i := 1) (q := 5) dX6_requireOrder_4 rfl rfl rfl ?_
    refine g_aload_n (i := 0) (q := 6) dX6_requireOrder_5 rfl rfl rfl ?_
    refine g_getr (q := 9) dX6_requireOrder_6 rfl fk_X6_30 rfl rfl ?_
    refine g_getv (q := 12) (z := S.1 1) dX6_requireOrder_9 rfl fk_X6_172 rfl rfl rfl ?_
    refine g_icmp_lt (t := 26) (q := 15) dX6_requireOrder_12 (by decide) rfl (fun h12 => ?_) (fun h12 => ?_)
    · exact g_retv dX6_requireOrder_26 rfl (by decide) (by first | exact ⟨rfl, rfl⟩ | (exfalso; omega))
    · exact g_throwW (text := "no such order") rfl rfl z_tk_I (by decide +kernel) dX6_requireOrder_15 dX6_requireOrder_18 dX6_requireOrder_19 dX6_requireOrder_22 dX6_requireOrder_25 (by decide) (by decide) (by decide) (by first | exact ⟨rfl, rfl⟩ | (exfalso; omega))
theorem s_X6_requireInUse_ok {S : zS} {n : Int} (hn : 0 ≤ n ∧ n < 200) (h : ¬ S.2.1 13 n = -1) : z_Fn mX6_requireInUse [zR 0, zI n] S none S := by
  refine z_enter (by decide +kernel) rfl (z_n1 trivial (z_n1 trivial z_n0)) (Nat.le_of_ble_eq_true rfl) ?_
  refine g_aload_n (i := 0) (q := 1) dX6_requireInUse_0 rfl rfl rfl ?_
  refine g_getr (q := 4) dX6_requireInUse_1 rfl fk_X6_23 rfl rfl ?_
  refine g_iload_n (i := 1) (q := 5) dX6_requireInUse_4 rfl rfl rfl ?_
  refine g_fnV (as := [zI n]) (q := 8) (u' := 0) dX6_requireInUse_5 rfl ck_X6_109 rfl rfl rfl (Nat.le_of_ble_eq_true rfl) (by decide) rfl (by decide) (s_X1_isInUse_t hn h) rfl ?_
  refine g_if_ne (t := 22) (q := 11) dX6_requireInUse_8 (by decide) rfl (fun h8 => ?_) (fun h8 => (False.elim (by omega)))
  exact g_retv dX6_requireInUse_22 rfl (by decide) (by first | exact ⟨rfl, rfl⟩ | (exfalso; omega))
theorem s_X6_requireInUse_ex {S : zS} {n : Int} (hn : 0 ≤ n ∧ n < 200) (h : ¬ ¬ S.2.1 13 n = -1) : z_Ex mX6_requireInUse [zR 0, zI n] S xS S := by
  refine z_enter (by decide +kernel) rfl (z_n1 trivial (z_n1 trivial z_n0)) (Nat.le_of_ble_eq_true rfl) ?_
  refine g_aload_n (i := 0) (q := 1) dX6_requireInUse_0 rfl rfl rfl ?_
  refine g_getr (q := 4) dX6_requireInUse_1 rfl fk_X6_23 rfl rfl ?_
  refine g_iload_n (i := 1) (q := 5) dX6_requireInUse_4 rfl rfl rfl ?_
  refine g_fnV (as := [zI n]) (q := 8) (u' := 0) dX6_requireInUse_5 rfl ck_X6_109 rfl rfl rfl (Nat.le_of_ble_eq_true rfl) (by decide) rfl (by decide) (s_X1_isInUse_f hn (Decidable.not_not.mp h)) rfl ?_
  refine g_if_ne (t := 22) (q := 11) dX6_requireInUse_8 (by decide) rfl (fun h8 => (False.elim (by omega))) (fun h8 => ?_)
  exact g_throwW (text := "the number is not in use") rfl rfl z_tk_S (by decide +kernel) dX6_requireInUse_11 dX6_requireInUse_14 dX6_requireInUse_15 dX6_requireInUse_18 dX6_requireInUse_21 (by decide) (by decide) (by decide) (by first | exact ⟨rfl, rfl⟩ | (exfalso; omega))
theorem s_X6_asInt {S : zS} {v : Int} (h : v = 0 ∨ v = 1) : z_Fn mX6_asInt [zI v] S (some (zI v)) S := by
  rcases h with rfl | rfl
  · skip
    refine z_enter (by decide +kernel) rfl (z_n1 trivial z_n0) (Nat.le_of_ble_eq_true rfl) ?_
    refine g_iload_n (i := 0) (q := 1) dX6_asInt_0 rfl rfl rfl ?_
    refine g_if_eq (t := 8) (q := 4) dX6_asInt_1 (by decide) rfl (fun h1 => ?_) (fun h1 => (False.elim (by omega)))
    refine g_iconst (q := 9) dX6_asInt_8 rfl ⟨by decide, by decide⟩ ?_
    exact g_ret dX6_asInt_9 rfl (by decide) (by first | exact ⟨rfl, rfl⟩ | (exfalso; omega))
  · skip
    refine z_enter (by decide +kernel) rfl (z_n1 trivial z_n0) (Nat.le_of_ble_eq_true rfl) ?_
    refine g_iload_n (i := 0) (q := 1) dX6_asInt_0 rfl rfl rfl ?_
    refine g_if_eq (t := 8) (q := 4) dX6_asInt_1 (by decide) rfl (fun h1 => (False.elim (by omega))) (fun h1 => ?_)
    refine g_iconst (q := 5) dX6_asInt_4 rfl ⟨by decide, by decide⟩ ?_
    refine g_goto (q := 0) (t := 9) dX6_asInt_5 (by decide) ?_
    exact g_ret dX6_asInt_9 rfl (by decide) (by first | exact ⟨rfl, rfl⟩ | (exfalso; omega))
theorem s_X6_holderOf {S : zS} {n : Int} (hn : 0 ≤ n ∧ n < 200) : z_Fn mX6_holderOf [zR 0, zI n] S (some (zI (S.2.1 8 (n / 10)))) S := by
  refine z_enter (by decide +kernel) rfl (z_n1 trivial (z_n1 trivial z_n0)) (Nat.le_of_ble_eq_true rfl) ?_
  refine g_aload_n (i := 0) (q := 1) dX6_holderOf_0 rfl rfl rfl ?_
  refine g_getr (q := 4) dX6_holderOf_1 rfl fk_X6_9 rfl rfl ?_
  refine g_iload_n (i := 1) (q := 5) dX6_holderOf_4 rfl rfl rfl ?_
  refine g_bipush (q := 7) dX6_holderOf_5 rfl ⟨by decide, by decide⟩ (by decide) ?_
  refine g_idiv (q := 8) dX6_holderOf_7 rfl (by omega) (by omega) ?_
  refine g_ildv (q := 9) (z := S.2.1 8 (n / 10)) dX6_holderOf_8 rfl ⟨by decide, rfl, rfl⟩ (by omega) (by omega) rfl ?_
  exact g_ret dX6_holderOf_9 rfl (by decide) (by first | exact ⟨rfl, rfl⟩ | (exfalso; omega))
def x_cb (S : zS) (f : Int) (c : Nat) : Nat := z_ct (fun k => decide (S.2.1 8 k = f)) c
theorem x_cb_s (S : zS) (f : Int) (i : Nat) : x_cb S f (i + 1) = x_cb S f i + if S.2.1 8 i = f then 1 else 0 := by
  unfold x_cb
  rw [z_ct]
  simp
theorem x_cb_le (S : zS) (f : Int) (i : Nat) : x_cb S f i ≤ i := z_ct_le _ _
theorem l_X6_countBlocksOf {Q : zQ} {S : zS} {f : Int} (hQ : Q (.ok (some (zI (x_cb S f 20)))) S) : ∀ (k i : Nat) (w : Int), i + k = 20 → w = x_cb S f i → z_G mX6_countBlocksOf (z_F mX6_countBlocksOf Q) 0 4 [some (zR 0), some (zI f), some (zI w), some (zI (i : Int))] [] S := by
  intro k
  induction k with
  | zero =>
    intro i w hi hw
    have e : i = 20 := by omega
    subst e
    subst hw
    refine g_iload_n (i := 3) (q := 5) dX6_countBlocksOf_4 rfl rfl rfl ?_
    refine g_bipush (q := 7) dX6_countBlocksOf_5 rfl ⟨by decide, by decide⟩ (by decide) ?_
    refine g_icmp_ge (t := 29) (q := 10) dX6_countBlocksOf_7 (by decide) rfl (fun h7 => ?_) (fun h7 => (False.elim (by omega)))
    refine g_iload_n (i := 2) (q := 30) dX6_countBlocksOf_29 rfl rfl rfl ?_
    exact g_ret dX6_countBlocksOf_30 rfl (by decide) hQ
  | succ k ih =>
    intro i w hi hw
    have hle := x_cb_le S f i
    refine g_iload_n (i := 3) (q := 5) dX6_countBlocksOf_4 rfl rfl rfl ?_
    refine g_bipush (q := 7) dX6_countBlocksOf_5 rfl ⟨by decide, by decide⟩ (by decide) ?_
    refine g_icmp_ge (t := 29) (q := 10) dX6_countBlocksOf_7 (by decide) rfl (fun h7 => (False.elim (by omega))) (fun h7 => ?_)
    refine g_aload_n (i := 0) (q := 11) dX6_countBlocksOf_10 rfl rfl rfl ?_
    refine g_getr (q := 14) dX6_countBlocksOf_11 rfl fk_X6_9 rfl rfl ?_
    refine g_iload_n (i := 3) (q := 15) dX6_countBlocksOf_14 rfl rfl rfl ?_
    refine g_ildv (q := 16) (z := S.2.1 8 (i : Int)) dX6_countBlocksOf_15 rfl ⟨by decide, rfl, rfl⟩ (by omega) (by omega) rfl ?_
    refine g_iload_n (i := 1) (q := 17) dX6_countBlocksOf_16 rfl rfl rfl ?_
    refine g_icmp_ne (t := 23) (q := 20) dX6_countBlocksOf_17 (by decide) rfl (fun h17 => ?_) (fun h17 => ?_)
    · refine g_iinc (q := 26) (i := 3) (n := 1) dX6_countBlocksOf_23 rfl rfl (by constructor <;> omega) ?_
      refine g_goto (q := 0) (t := 4) dX6_countBlocksOf_26 (by decide) ?_
      exact ih (i + 1) _ (by omega) (by rw [x_cb_s]; split <;> omega)
    · refine g_iinc (q := 23) (i := 2) (n := 1) dX6_countBlocksOf_20 rfl rfl (by constructor <;> omega) ?_
      refine g_iinc (q := 26) (i := 3) (n := 1) dX6_countBlocksOf_23 rfl rfl (by constructor <;> omega) ?_
      refine g_goto (q := 0) (t := 4) dX6_countBlocksOf_26 (by decide) ?_
      exact ih (i + 1) _ (by omega) (by rw [x_cb_s]; split <;> omega)
theorem s_X6_countBlocksOf {S : zS} {f : Int} : z_Fn mX6_countBlocksOf [zR 0, zI f] S (some (zI (x_cb S f 20))) S := by
  refine z_enter (by decide +kernel) rfl (z_n1 trivial (z_n1 trivial z_n0)) (Nat.le_of_ble_eq_true rfl) ?_
  refine g_iconst (q := 1) dX6_countBlocksOf_0 rfl ⟨by decide, by decide⟩ ?_
  refine g_istore_n (i := 2) (q := 2) dX6_countBlocksOf_1 rfl rfl (by decide) ?_
  refine g_iconst (q := 3) dX6_countBlocksOf_2 rfl ⟨by decide, by decide⟩ ?_
  refine g_istore_n (i := 3) (q := 4) dX6_countBlocksOf_3 rfl rfl (by decide) ?_
  exact l_X6_countBlocksOf ⟨rfl, rfl⟩ 20 0 0 (by omega) rfl
/-- whether one of the numbers from i on is in use, or in quarantine -/
def x_bb (S : zS) : Nat → Nat → Bool
  | _, 0 => false
  | i, k + 1 => decide (¬ S.2.1 13 i = -1 ∨ S.1 0 ≤ S.2.1 15 i) || x_bb S (i + 1) k
theorem l_X6_isBlockBusy {Q : zQ} {S : zS} {b : Nat} (hb : b < 20) : ∀ (k i : Nat), i + k = 10 * b + 10 → 10 * b ≤ i → Q (.ok (some (zI (if x_bb S i k then 1 else 0)))) S → z_G mX6_isBlockBusy (z_F mX6_isBlockBusy Q) 0 7 [some (zR 0), some (zI (b : Int)), some (zI ((b : Int) * 10)), some (zI (i : Int))] [] S := by
  intro k
  induction k with
  | zero =>
    intro i hi hi2 hQ
    refine g_iload_n (i := 3) (q := 8) dX6_isBlockBusy_7 rfl rfl rfl ?_
    refine g_iload_n (i := 2) (q := 9) dX6_isBlockBusy_8 rfl rfl rfl ?_
    refine g_bipush (q := 11) dX6_isBlockBusy_9 rfl ⟨by decide, by decide⟩ (by decide) ?_
    refine g_iadd (q := 12) dX6_isBlockBusy_11 rfl (by constructor <;> omega) ?_
    refine g_icmp_ge (t := 49) (q := 15) dX6_isBlockBusy_12 (by decide) rfl (fun h12 => ?_) (fun h12 => (False.elim (by omega)))
    refine g_iconst (q := 50) dX6_isBlockBusy_49 rfl ⟨by decide, by decide⟩ ?_
    exact g_retz dX6_isBlockBusy_50 rfl (by omega) (by decide) hQ
  | succ k ih =>
    intro i hi hi2 hQ
    rw [x_bb] at hQ
    refine g_iload_n (i := 3) (q := 8) dX6_isBlockBusy_7 rfl rfl rfl ?_
    refine g_iload_n (i := 2) (q := 9) dX6_isBlockBusy_8 rfl rfl rfl ?_
    refine g_bipush (q := 11) dX6_isBlockBusy_9 rfl ⟨by decide, by decide⟩ (by decide) ?_
    refine g_iadd (q := 12) dX6_isBlockBusy_11 rfl (by constructor <;> omega) ?_
    refine g_icmp_ge (t := 49) (q := 15) dX6_isBlockBusy_12 (by decide) rfl (fun h12 => (False.elim (by omega))) (fun h12 => ?_)
    refine g_aload_n (i := 0) (q := 16) dX6_isBlockBusy_15 rfl rfl rfl ?_
    refine g_getr (q := 19) dX6_isBlockBusy_16 rfl fk_X6_23 rfl rfl ?_
    refine g_iload_n (i := 3) (q := 20) dX6_isBlockBusy_19 rfl rfl rfl ?_
    by_cases c20 : ¬ (S).2.1 13 (i : Int) = -1
    · refine g_fnV (as := [zI (i : Int)]) (q := 23) (u' := 0) dX6_isBlockBusy_20 rfl ck_X6_109 rfl rfl rfl (Nat.le_of_ble_eq_true rfl) (by decide) rfl (by decide) (s_X1_isInUse_t (by omega) c20) rfl ?_
      refine g_if_ne (t := 41) (q := 26) dX6_isBlockBusy_23 (by decide) rfl (fun h23 => ?_) (fun h23 => (False.elim (by omega)))
      refine g_iconst (q := 42) dX6_isBlockBusy_41 rfl ⟨by decide, by decide⟩ ?_
      exact g_retz dX6_isBlockBusy_42 rfl (by omega) (by decide) (by rw [decide_eq_true (by omega), Bool.true_or] at hQ; exact hQ)
    · refine g_fnV (as := [zI (i : Int)]) (q := 23) (u' := 0) dX6_isBlockBusy_20 rfl ck_X6_109 rfl rfl rfl (Nat.le_of_ble_eq_true rfl) (by decide) rfl (by decide) (s_X1_isInUse_f (by omega) (Decidable.not_not.mp c20)) rfl ?_
      refine g_if_ne (t := 41) (q := 26) dX6_isBlockBusy_23 (by decide) rfl (fun h23 => (False.elim (by omega))) (fun h23 => ?_)
      refine g_aload_n (i := 0) (q := 27) dX6_isBlockBusy_26 rfl rfl rfl ?_
      refine g_getr (q := 30) dX6_isBlockBusy_27 rfl fk_X6_23 rfl rfl ?_
      refine g_iload_n (i := 3) (q := 31) dX6_isBlockBusy_30 rfl rfl rfl ?_
      refine g_aload_n (i := 0) (q := 32) dX6_isBlockBusy_31 rfl rfl rfl ?_
      refine g_getv (q := 35) (z := S.1 0) dX6_isBlockBusy_32 rfl fk_X6_55 rfl rfl rfl ?_
      by_cases c35 : S.1 0 ≤ (S).2.1 15 (i : Int)
      · refine g_fnV (as := [zI (i : Int), zI (S.1 0)]) (q := 38) (u' := 0) dX6_isBlockBusy_35 rfl ck_X6_112 rfl rfl rfl (Nat.le_of_ble_eq_true rfl) (by decide) rfl (by decide) (s_X1_isInQuarantine_t (by omega) c35) rfl ?_
        refine g_if_eq (t := 43) (q := 41) dX6_isBlockBusy_38 (by decide) rfl (fun h38 => (False.elim (by omega))) (fun h38 => ?_)
        refine g_iconst (q := 42) dX6_isBlockBusy_41 rfl ⟨by decide, by decide⟩ ?_
        exact g_retz dX6_isBlockBusy_42 rfl (by omega) (by decide) (by rw [decide_eq_true (by omega), Bool.true_or] at hQ; exact hQ)
      · refine g_fnV (as := [zI (i : Int), zI (S.1 0)]) (q := 38) (u' := 0) dX6_isBlockBusy_35 rfl ck_X6_112 rfl rfl rfl (Nat.le_of_ble_eq_true rfl) (by decide) rfl (by decide) (s_X1_isInQuarantine_f (by omega) c35) rfl ?_
        refine g_if_eq (t := 43) (q := 41) dX6_isBlockBusy_38 (by decide) rfl (fun h38 => ?_) (fun h38 => (False.elim (by omega)))
        refine g_iinc (q := 46) (i := 3) (n := 1) dX6_isBlockBusy_43 rfl rfl (by constructor <;> omega) ?_
        refine g_goto (q := 0) (t := 7) dX6_isBlockBusy_46 (by decide) ?_
        exact ih (i + 1) (by omega) (by omega) (by rw [decide_eq_false (by omega), Bool.false_or] at hQ; exact hQ)
theorem s_X6_isBlockBusy {S : zS} {b : Nat} (hb : b < 20) : z_Fn mX6_isBlockBusy [zR 0, zI b] S (some (zI (if x_bb S (10 * b) 10 then 1 else 0))) S := by
  refine z_enter (by decide +kernel) rfl (z_n1 trivial (z_n1 trivial z_n0)) (Nat.le_of_ble_eq_true rfl) ?_
  refine g_iload_n (i := 1) (q := 1) dX6_isBlockBusy_0 rfl rfl rfl ?_
  refine g_bipush (q := 3) dX6_isBlockBusy_1 rfl ⟨by decide, by decide⟩ (by decide) ?_
  refine g_imul (q := 4) dX6_isBlockBusy_3 rfl (by constructor <;> omega) ?_
  refine g_istore_n (i := 2) (q := 5) dX6_isBlockBusy_4 rfl rfl (by decide) ?_
  refine g_iload_n (i := 2) (q := 6) dX6_isBlockBusy_5 rfl rfl rfl ?_
  refine g_istore_n (i := 3) (q := 7) dX6_isBlockBusy_6 rfl rfl (by decide) ?_
  have e : ((b : Int) * 10) = ((10 * b : Nat) : Int) := by omega
  have h := l_X6_isBlockBusy (Q := fun x T => x = .ok (some (zI (if x_bb S (10 * b) 10 then 1 else 0))) ∧ T = S) hb 10 (10 * b) (by omega) (by omega) ⟨rfl, rfl⟩
  rw [← e] at h
  exact h
def x_win (m : Int) : Prop := m % 100 < 20
theorem s_X6_isInWindow_t {S : zS} {m : Int} (h0 : 0 ≤ m) (h : m % 100 < 20) : z_Fn mX6_isInWindow [zI m] S (some (zI 1)) S := by
  refine z_enter (by decide +kernel) rfl (z_n1 trivial z_n0) (Nat.le_of_ble_eq_true rfl) ?_
  refine g_iload_n (i := 0) (q := 1) dX6_isInWindow_0 rfl rfl rfl ?_
  refine g_bipush (q := 3) dX6_isInWindow_1 rfl ⟨by decide, by decide⟩ (by decide) ?_
  refine g_irem (q := 4) dX6_isInWindow_3 rfl (by omega) (by omega) ?_
  refine g_bipush (q := 6) dX6_isInWindow_4 rfl ⟨by decide, by decide⟩ (by decide) ?_
  refine g_icmp_ge (t := 13) (q := 9) dX6_isInWindow_6 (by decide) rfl (fun h6 => ?_) (fun h6 => ?_)
  · refine g_iconst (q := 14) dX6_isInWindow_13 rfl ⟨by decide, by decide⟩ ?_
    exact g_retz dX6_isInWindow_14 rfl (by omega) (by decide) (by first | exact ⟨rfl, rfl⟩ | (exfalso; omega))
  · refine g_iconst (q := 10) dX6_isInWindow_9 rfl ⟨by decide, by decide⟩ ?_
    refine g_goto (q := 0) (t := 14) dX6_isInWindow_10 (by decide) ?_
    exact g_retz dX6_isInWindow_14 rfl (by omega) (by decide) (by first | exact ⟨rfl, rfl⟩ | (exfalso; omega))
theorem s_X6_isInWindow_f {S : zS} {m : Int} (h0 : 0 ≤ m) (h : ¬ m % 100 < 20) : z_Fn mX6_isInWindow [zI m] S (some (zI 0)) S := by
  refine z_enter (by decide +kernel) rfl (z_n1 trivial z_n0) (Nat.le_of_ble_eq_true rfl) ?_
  refine g_iload_n (i := 0) (q := 1) dX6_isInWindow_0 rfl rfl rfl ?_
  refine g_bipush (q := 3) dX6_isInWindow_1 rfl ⟨by decide, by decide⟩ (by decide) ?_
  refine g_irem (q := 4) dX6_isInWindow_3 rfl (by omega) (by omega) ?_
  refine g_bipush (q := 6) dX6_isInWindow_4 rfl ⟨by decide, by decide⟩ (by decide) ?_
  refine g_icmp_ge (t := 13) (q := 9) dX6_isInWindow_6 (by decide) rfl (fun h6 => ?_) (fun h6 => ?_)
  · refine g_iconst (q := 14) dX6_isInWindow_13 rfl ⟨by decide, by decide⟩ ?_
    exact g_retz dX6_isInWindow_14 rfl (by omega) (by decide) (by first | exact ⟨rfl, rfl⟩ | (exfalso; omega))
  · refine g_iconst (q := 10) dX6_isInWindow_9 rfl ⟨by decide, by decide⟩ ?_
    refine g_goto (q := 0) (t := 14) dX6_isInWindow_10 (by decide) ?_
    exact g_retz dX6_isInWindow_14 rfl (by omega) (by decide) (by first | exact ⟨rfl, rfl⟩ | (exfalso; omega))
def x_rr (S : zS) (c : Nat) (f n t m : Int) : Int :=
  if S.2.1 13 n = -1 then 1 else if S.2.1 13 n = f then 2 else if S.2.1 14 n = t then (if z_on (x_wf S n c) = -1 then (if S.1 0 ≤ S.2.1 16 n then 5 else if m % 100 < 20 then (if x_cwa S m c < 3 then 0 else 7) else 6) else 4) else 3
theorem s_X6_reasonToReject {S : zS} {f n t m : Int} {c : Nat} (hc : S.1 1 = c) (h60 : c ≤ 60) (hn : 0 ≤ n ∧ n < 200) (hm : 0 ≤ m) : z_Fn mX6_reasonToReject [zR 0, zI f, zI n, zI t, zI m] S (some (zI (x_rr S c f n t m))) S := by
  refine z_enter (by decide +kernel) rfl (z_n1 trivial (z_n1 trivial (z_n1 trivial (z_n1 trivial (z_n1 trivial z_n0))))) (Nat.le_of_ble_eq_true rfl) ?_
  refine g_aload_n (i := 0) (q := 1) dX6_reasonToReject_0 rfl rfl rfl ?_
  refine g_getr (q := 4) dX6_reasonToReject_1 rfl fk_X6_23 rfl rfl ?_
  refine g_iload_n (i := 2) (q := 5) dX6_reasonToReject_4 rfl rfl rfl ?_
  by_cases c5 : ¬ (S).2.1 13 n = -1
  · refine g_fnV (as := [zI n]) (q := 8) (u' := 0) dX6_reasonToReject_5 rfl ck_X6_109 rfl rfl rfl (Nat.le_of_ble_eq_true rfl) (by decide) rfl (by decide) (s_X1_isInUse_t (by omega) c5) rfl ?_
    refine g_if_ne (t := 13) (q := 11) dX6_reasonToReject_8 (by decide) rfl (fun h8 => ?_) (fun h8 => (False.elim (by omega)))
    refine g_aload_n (i := 0) (q := 14) dX6_reasonToReject_13 rfl rfl rfl ?_
    refine g_getr (q := 17) dX6_reasonToReject_14 rfl fk_X6_23 rfl rfl ?_
    refine g_getr (q := 20) dX6_reasonToReject_17 rfl fk_X6_129 rfl rfl ?_
    refine g_iload_n (i := 2) (q := 21) dX6_reasonToReject_20 rfl rfl rfl ?_
    refine g_ildv (q := 22) (z := S.2.1 13 n) dX6_reasonToReject_21 rfl ⟨by decide, rfl, rfl⟩ (by omega) (by omega) rfl ?_
    refine g_iload_n (i := 1) (q := 23) dX6_reasonToReject_22 rfl rfl rfl ?_
    refine g_icmp_ne (t := 28) (q := 26) dX6_reasonToReject_23 (by decide) rfl (fun h23 => ?_) (fun h23 => ?_)
    · refine g_aload_n (i := 0) (q := 29) dX6_reasonToReject_28 rfl rfl rfl ?_
      refine g_getr (q := 32) dX6_reasonToReject_29 rfl fk_X6_23 rfl rfl ?_
      refine g_getr (q := 35) dX6_reasonToReject_32 rfl fk_X6_141 rfl rfl ?_
      refine g_iload_n (i := 2) (q := 36) dX6_reasonToReject_35 rfl rfl rfl ?_
      refine g_ildv (q := 37) (z := S.2.1 14 n) dX6_reasonToReject_36 rfl ⟨by decide, rfl, rfl⟩ (by omega) (by omega) rfl ?_
      refine g_iload_n (i := 3) (q := 38) dX6_reasonToReject_37 rfl rfl rfl ?_
      refine g_icmp_eq (t := 43) (q := 41) dX6_reasonToReject_38 (by decide) rfl (fun h38 => ?_) (fun h38 => ?_)
      · refine g_aload_n (i := 0) (q := 44) dX6_reasonToReject_43 rfl rfl rfl ?_
        refine g_getr (q := 47) dX6_reasonToReject_44 rfl fk_X6_30 rfl rfl ?_
        refine g_iload_n (i := 2) (q := 48) dX6_reasonToReject_47 rfl rfl rfl ?_
        refine g_fnV (as := [zI n]) (q := 51) (u' := 0) dX6_reasonToReject_48 rfl ck_X6_259 rfl rfl rfl (Nat.le_of_ble_eq_true rfl) (by decide) rfl (by decide) (s_X4_waitingFor hc h60) rfl ?_
        refine g_iconst (q := 52) dX6_reasonToReject_51 rfl ⟨by decide, by decide⟩ ?_
        refine g_icmp_eq (t := 57) (q := 55) dX6_reasonToReject_52 (by decide) rfl (fun h52 => ?_) (fun h52 => ?_)
        · refine g_aload_n (i := 0) (q := 58) dX6_reasonToReject_57 rfl rfl rfl ?_
          refine g_getr (q := 61) dX6_reasonToReject_58 rfl fk_X6_23 rfl rfl ?_
          refine g_iload_n (i := 2) (q := 62) dX6_reasonToReject_61 rfl rfl rfl ?_
          refine g_aload_n (i := 0) (q := 63) dX6_reasonToReject_62 rfl rfl rfl ?_
          refine g_getv (q := 66) (z := S.1 0) dX6_reasonToReject_63 rfl fk_X6_55 rfl rfl rfl ?_
          by_cases c66 : S.1 0 ≤ (S).2.1 16 n
          · refine g_fnV (as := [zI n, zI (S.1 0)]) (q := 69) (u' := 0) dX6_reasonToReject_66 rfl ck_X6_253 rfl rfl rfl (Nat.le_of_ble_eq_true rfl) (by decide) rfl (by decide) (s_X1_isSilent_t (by omega) c66) rfl ?_
            refine g_if_eq (t := 74) (q := 72) dX6_reasonToReject_69 (by decide) rfl (fun h69 => (False.elim (by omega))) (fun h69 => ?_)
            refine g_iconst (q := 73) dX6_reasonToReject_72 rfl ⟨by decide, by decide⟩ ?_
            exact g_ret dX6_reasonToReject_73 rfl (by decide) (by unfold x_rr; (repeat (first | rw [if_pos (by omega)] | rw [if_neg (by omega)])); exact ⟨rfl, rfl⟩)
          · refine g_fnV (as := [zI n, zI (S.1 0)]) (q := 69) (u' := 0) dX6_reasonToReject_66 rfl ck_X6_253 rfl rfl rfl (Nat.le_of_ble_eq_true rfl) (by decide) rfl (by decide) (s_X1_isSilent_f (by omega) c66) rfl ?_
            refine g_if_eq (t := 74) (q := 72) dX6_reasonToReject_69 (by decide) rfl (fun h69 => ?_) (fun h69 => (False.elim (by omega)))
            refine g_iload (q := 76) dX6_reasonToReject_74 rfl rfl ?_
            by_cases c76 : m % 100 < 20
            · refine g_fnS (as := [zI m]) (q := 79) (u' := 0) dX6_reasonToReject_76 rfl ck_X6_265 rfl rfl (Nat.le_of_ble_eq_true rfl) (by decide) rfl (by decide) (s_X6_isInWindow_t (by omega) c76) rfl ?_
              refine g_if_ne (t := 85) (q := 82) dX6_reasonToReject_79 (by decide) rfl (fun h79 => ?_) (fun h79 => (False.elim (by omega)))
              refine g_aload_n (i := 0) (q := 86) dX6_reasonToReject_85 rfl rfl rfl ?_
              refine g_getr (q := 89) dX6_reasonToReject_86 rfl fk_X6_30 rfl rfl ?_
              refine g_iload (q := 91) dX6_reasonToReject_89 rfl rfl ?_
              refine g_fnV (as := [zI m]) (q := 94) (u' := 0) dX6_reasonToReject_91 rfl ck_X6_268 rfl rfl rfl (Nat.le_of_ble_eq_true rfl) (by decide) rfl (by decide) (s_X4_countWaitingAt hc h60) rfl ?_
              refine g_iconst (q := 95) dX6_reasonToReject_94 rfl ⟨by decide, by decide⟩ ?_
              refine g_icmp_lt (t := 103) (q := 98) dX6_reasonToReject_95 (by decide) rfl (fun h95 => ?_) (fun h95 => ?_)
              · refine g_iconst (q := 104) dX6_reasonToReject_103 rfl ⟨by decide, by decide⟩ ?_
                exact g_ret dX6_reasonToReject_104 rfl (by decide) (by unfold x_rr; (repeat (first | rw [if_pos (by omega)] | rw [if_neg (by omega)])); exact ⟨rfl, rfl⟩)
              · refine g_bipush (q := 100) dX6_reasonToReject_98 rfl ⟨by decide, by decide⟩ (by decide) ?_
                refine g_goto (q := 0) (t := 104) dX6_reasonToReject_100 (by decide) ?_
                exact g_ret dX6_reasonToReject_104 rfl (by decide) (by unfold x_rr; (repeat (first | rw [if_pos (by omega)] | rw [if_neg (by omega)])); exact ⟨rfl, rfl⟩)
            · refine g_fnS (as := [zI m]) (q := 79) (u' := 0) dX6_reasonToReject_76 rfl ck_X6_265 rfl rfl (Nat.le_of_ble_eq_true rfl) (by decide) rfl (by decide) (s_X6_isInWindow_f (by omega) c76) rfl ?_
              refine g_if_ne (t := 85) (q := 82) dX6_reasonToReject_79 (by decide) rfl (fun h79 => (False.elim (by omega))) (fun h79 => ?_)
              refine g_bipush (q := 84) dX6_reasonToReject_82 rfl ⟨by decide, by decide⟩ (by decide) ?_
              exact g_ret dX6_reasonToReject_84 rfl (by decide) (by unfold x_rr; (repeat (first | rw [if_pos (by omega)] | rw [if_neg (by omega)])); exact ⟨rfl, rfl⟩)
        · refine g_iconst (q := 56) dX6_reasonToReject_55 rfl ⟨by decide, by decide⟩ ?_
          exact g_ret dX6_reasonToReject_56 rfl (by decide) (by unfold x_rr; (repeat (first | rw [if_pos (by omega)] | rw [if_neg (by omega)])); exact ⟨rfl, rfl⟩)
      · refine g_iconst (q := 42) dX6_reasonToReject_41 rfl ⟨by decide, by decide⟩ ?_
        exact g_ret dX6_reasonToReject_42 rfl (by decide) (by unfold x_rr; (repeat (first | rw [if_pos (by omega)] | rw [if_neg (by omega)])); exact ⟨rfl, rfl⟩)
    · refine g_iconst (q := 27) dX6_reasonToReject_26 rfl ⟨by decide, by decide⟩ ?_
      exact g_ret dX6_reasonToReject_27 rfl (by decide) (by unfold x_rr; (repeat (first | rw [if_pos (by omega)] | rw [if_neg (by omega)])); exact ⟨rfl, rfl⟩)
  · refine g_fnV (as := [zI n]) (q := 8) (u' := 0) dX6_reasonToReject_5 rfl ck_X6_109 rfl rfl rfl (Nat.le_of_ble_eq_true rfl) (by decide) rfl (by decide) (s_X1_isInUse_f (by omega) (Decidable.not_not.mp c5)) rfl ?_
    refine g_if_ne (t := 13) (q := 11) dX6_reasonToReject_8 (by decide) rfl (fun h8 => (False.elim (by omega))) (fun h8 => ?_)
    refine g_iconst (q := 12) dX6_reasonToReject_11 rfl ⟨by decide, by decide⟩ ?_
    exact g_ret dX6_reasonToReject_12 rfl (by decide) (by unfold x_rr; (repeat (first | rw [if_pos (by omega)] | rw [if_neg (by omega)])); exact ⟨rfl, rfl⟩)
/-- whether an order can be turned back -/
def x_cr (S : zS) (o : Int) : Prop := S.2.1 19 o = 2 ∧ S.1 0 - S.2.1 24 o ≤ 60 ∧ ¬ S.2.1 13 (S.2.1 21 o) = -1 ∧ S.2.1 9 (S.2.1 23 o) = 0 ∧ S.2.1 18 (S.2.1 21 o) = o
theorem s_X6_canReverse_t {S : zS} {o : Int} (ho : 0 ≤ o ∧ o < 60) (hnow : 0 ≤ S.1 0 ∧ S.1 0 ≤ 9999) (hn : 0 ≤ S.2.1 21 o ∧ S.2.1 21 o < 200) (hd : 0 ≤ S.2.1 23 o ∧ S.2.1 23 o < 6) (hdu : 0 ≤ S.2.1 24 o ∧ S.2.1 24 o ≤ 50000) (h : x_cr S o) : z_Fn mX6_canReverse [zR 0, zI o] S (some (zI 1)) S := by
  obtain ⟨h1, h2, h3, h4, h5⟩ := h
  refine z_enter (by decide +kernel) rfl (z_n1 trivial (z_n1 trivial z_n0)) (Nat.le_of_ble_eq_true rfl) ?_
  refine g_aload_n (i := 0) (q := 1) dX6_canReverse_0 rfl rfl rfl ?_
  refine g_getr (q := 4) dX6_canReverse_1 rfl fk_X6_30 rfl rfl ?_
  refine g_getr (q := 7) dX6_canReverse_4 rfl fk_X6_187 rfl rfl ?_
  refine g_iload_n (i := 1) (q := 8) dX6_canReverse_7 rfl rfl rfl ?_
  refine g_ildv (q := 9) (z := S.2.1 19 o) dX6_canReverse_8 rfl ⟨by decide, rfl, rfl⟩ (by omega) (by omega) rfl ?_
  refine g_iconst (q := 10) dX6_canReverse_9 rfl ⟨by decide, by decide⟩ ?_
  refine g_icmp_ne (t := 32) (q := 13) dX6_canReverse_10 (by decide) rfl (fun h10 => ?_) (fun h10 => ?_)
  · refine g_iconst (q := 33) dX6_canReverse_32 rfl ⟨by decide, by decide⟩ ?_
    exact g_retz dX6_canReverse_33 rfl (by omega) (by decide) (by first | exact ⟨rfl, rfl⟩ | (exfalso; omega))
  · refine g_aload_n (i := 0) (q := 14) dX6_canReverse_13 rfl rfl rfl ?_
    refine g_getv (q := 17) (z := S.1 0) dX6_canReverse_14 rfl fk_X6_55 rfl rfl rfl ?_
    refine g_aload_n (i := 0) (q := 18) dX6_canReverse_17 rfl rfl rfl ?_
    refine g_getr (q := 21) dX6_canReverse_18 rfl fk_X6_30 rfl rfl ?_
    refine g_getr (q := 24) dX6_canReverse_21 rfl fk_X6_190 rfl rfl ?_
    refine g_iload_n (i := 1) (q := 25) dX6_canReverse_24 rfl rfl rfl ?_
    refine g_ildv (q := 26) (z := S.2.1 24 o) dX6_canReverse_25 rfl ⟨by decide, rfl, rfl⟩ (by omega) (by omega) rfl ?_
    refine g_isub (q := 27) dX6_canReverse_26 rfl (by constructor <;> omega) ?_
    refine g_bipush (q := 29) dX6_canReverse_27 rfl ⟨by decide, by decide⟩ (by decide) ?_
    refine g_icmp_le (t := 34) (q := 32) dX6_canReverse_29 (by decide) rfl (fun h29 => ?_) (fun h29 => ?_)
    · refine g_aload_n (i := 0) (q := 35) dX6_canReverse_34 rfl rfl rfl ?_
      refine g_getr (q := 38) dX6_canReverse_35 rfl fk_X6_30 rfl rfl ?_
      refine g_getr (q := 41) dX6_canReverse_38 rfl fk_X6_207 rfl rfl ?_
      refine g_iload_n (i := 1) (q := 42) dX6_canReverse_41 rfl rfl rfl ?_
      refine g_ildv (q := 43) (z := S.2.1 21 o) dX6_canReverse_42 rfl ⟨by decide, rfl, rfl⟩ (by omega) (by omega) rfl ?_
      refine g_istore_n (i := 2) (q := 44) dX6_canReverse_43 rfl rfl (by decide) ?_
      refine g_aload_n (i := 0) (q := 45) dX6_canReverse_44 rfl rfl rfl ?_
      refine g_getr (q := 48) dX6_canReverse_45 rfl fk_X6_30 rfl rfl ?_
      refine g_getr (q := 51) dX6_canReverse_48 rfl fk_X6_204 rfl rfl ?_
      refine g_iload_n (i := 1) (q := 52) dX6_canReverse_51 rfl rfl rfl ?_
      refine g_ildv (q := 53) (z := S.2.1 23 o) dX6_canReverse_52 rfl ⟨by decide, rfl, rfl⟩ (by omega) (by omega) rfl ?_
      refine g_istore_n (i := 3) (q := 54) dX6_canReverse_53 rfl rfl (by decide) ?_
      refine g_aload_n (i := 0) (q := 55) dX6_canReverse_54 rfl rfl rfl ?_
      refine g_getr (q := 58) dX6_canReverse_55 rfl fk_X6_23 rfl rfl ?_
      refine g_iload_n (i := 2) (q := 59) dX6_canReverse_58 rfl rfl rfl ?_
      refine g_fnV (as := [zI (S.2.1 21 o)]) (q := 62) (u' := 0) dX6_canReverse_59 rfl ck_X6_109 rfl rfl rfl (Nat.le_of_ble_eq_true rfl) (by decide) rfl (by decide) (s_X1_isInUse_t (by omega) h3) rfl ?_
      refine g_if_eq (t := 101) (q := 65) dX6_canReverse_62 (by decide) rfl (fun h62 => (False.elim (by omega))) (fun h62 => ?_)
      refine g_iload_n (i := 3) (q := 66) dX6_canReverse_65 rfl rfl rfl ?_
      refine g_fnS (as := [zI (S.2.1 23 o)]) (q := 69) (u' := 0) dX6_canReverse_66 rfl ck_X6_69 rfl rfl (Nat.le_of_ble_eq_true rfl) (by decide) rfl (by decide) (s_X6_isFirm_t (by omega)) rfl ?_
      refine g_if_eq (t := 101) (q := 72) dX6_canReverse_69 (by decide) rfl (fun h69 => (False.elim (by omega))) (fun h69 => ?_)
      refine g_aload_n (i := 0) (q := 73) dX6_canReverse_72 rfl rfl rfl ?_
      refine g_getr (q := 76) dX6_canReverse_73 rfl fk_X6_16 rfl rfl ?_
      refine g_getr (q := 79) dX6_canReverse_76 rfl fk_X6_79 rfl rfl ?_
      refine g_iload_n (i := 3) (q := 80) dX6_canReverse_79 rfl rfl rfl ?_
      refine g_zldv (q := 81) (z := S.2.1 9 (S.2.1 23 o)) dX6_canReverse_80 rfl ⟨by decide, rfl, rfl⟩ (by omega) (by omega) rfl ?_
      refine g_if_ne (t := 101) (q := 84) dX6_canReverse_81 (by decide) rfl (fun h81 => ?_) (fun h81 => ?_)
      · refine g_iconst (q := 102) dX6_canReverse_101 rfl ⟨by decide, by decide⟩ ?_
        exact g_retz dX6_canReverse_102 rfl (by omega) (by decide) (by first | exact ⟨rfl, rfl⟩ | (exfalso; omega))
      · refine g_aload_n (i := 0) (q := 85) dX6_canReverse_84 rfl rfl rfl ?_
        refine g_getr (q := 88) dX6_canReverse_85 rfl fk_X6_23 rfl rfl ?_
        refine g_getr (q := 91) dX6_canReverse_88 rfl fk_X6_309 rfl rfl ?_
        refine g_iload_n (i := 2) (q := 92) dX6_canReverse_91 rfl rfl rfl ?_
        refine g_ildv (q := 93) (z := S.2.1 18 (S.2.1 21 o)) dX6_canReverse_92 rfl ⟨by decide, rfl, rfl⟩ (by omega) (by omega) rfl ?_
        refine g_iload_n (i := 1) (q := 94) dX6_canReverse_93 rfl rfl rfl ?_
        refine g_icmp_ne (t := 101) (q := 97) dX6_canReverse_94 (by decide) rfl (fun h94 => ?_) (fun h94 => ?_)
        · refine g_iconst (q := 102) dX6_canReverse_101 rfl ⟨by decide, by decide⟩ ?_
          exact g_retz dX6_canReverse_102 rfl (by omega) (by decide) (by first | exact ⟨rfl, rfl⟩ | (exfalso; omega))
        · refine g_iconst (q := 98) dX6_canReverse_97 rfl ⟨by decide, by decide⟩ ?_
          refine g_goto (q := 0) (t := 102) dX6_canReverse_98 (by decide) ?_
          exact g_retz dX6_canReverse_102 rfl (by omega) (by decide) (by first | exact ⟨rfl, rfl⟩ | (exfalso; omega))
    · refine g_iconst (q := 33) dX6_canReverse_32 rfl ⟨by decide, by decide⟩ ?_
      exact g_retz dX6_canReverse_33 rfl (by omega) (by decide) (by first | exact ⟨rfl, rfl⟩ | (exfalso; omega))
theorem s_X6_canReverse_f {S : zS} {o : Int} (ho : 0 ≤ o ∧ o < 60) (hnow : 0 ≤ S.1 0 ∧ S.1 0 ≤ 9999) (hn : 0 ≤ S.2.1 21 o ∧ S.2.1 21 o < 200) (hd : S.2.1 19 o = 2 → 0 ≤ S.2.1 23 o ∧ S.2.1 23 o < 6) (hdu : 0 ≤ S.2.1 24 o ∧ S.2.1 24 o ≤ 50000) (h : ¬ x_cr S o) : z_Fn mX6_canReverse [zR 0, zI o] S (some (zI 0)) S := by
  refine z_enter (by decide +kernel) rfl (z_n1 trivial (z_n1 trivial z_n0)) (Nat.le_of_ble_eq_true rfl) ?_
  refine g_aload_n (i := 0) (q := 1) dX6_canReverse_0 rfl rfl rfl ?_
  refine g_getr (q := 4) dX6_canReverse_1 rfl fk_X6_30 rfl rfl ?_
  refine g_getr (q := 7) dX6_canReverse_4 rfl fk_X6_187 rfl rfl ?_
  refine g_iload_n (i := 1) (q := 8) dX6_canReverse_7 rfl rfl rfl ?_
  refine g_ildv (q := 9) (z := S.2.1 19 o) dX6_canReverse_8 rfl ⟨by decide, rfl, rfl⟩ (by omega) (by omega) rfl ?_
  refine g_iconst (q := 10) dX6_canReverse_9 rfl ⟨by decide, by decide⟩ ?_
  refine g_icmp_ne (t := 32) (q := 13) dX6_canReverse_10 (by decide) rfl (fun h10 => ?_) (fun h10 => ?_)
  · refine g_iconst (q := 33) dX6_canReverse_32 rfl ⟨by decide, by decide⟩ ?_
    exact g_retz dX6_canReverse_33 rfl (by omega) (by decide) (by first | exact ⟨rfl, rfl⟩ | exact absurd ⟨by omega, by omega, by assumption, by omega, by omega⟩ h)
  · refine g_aload_n (i := 0) (q := 14) dX6_canReverse_13 rfl rfl rfl ?_
    refine g_getv (q := 17) (z := S.1 0) dX6_canReverse_14 rfl fk_X6_55 rfl rfl rfl ?_
    refine g_aload_n (i := 0) (q := 18) dX6_canReverse_17 rfl rfl rfl ?_
    refine g_getr (q := 21) dX6_canReverse_18 rfl fk_X6_30 rfl rfl ?_
    refine g_getr (q := 24) dX6_canReverse_21 rfl fk_X6_190 rfl rfl ?_
    refine g_iload_n (i := 1) (q := 25) dX6_canReverse_24 rfl rfl rfl ?_
    refine g_ildv (q := 26) (z := S.2.1 24 o) dX6_canReverse_25 rfl ⟨by decide, rfl, rfl⟩ (by omega) (by omega) rfl ?_
    refine g_isub (q := 27) dX6_canReverse_26 rfl (by constructor <;> omega) ?_
    refine g_bipush (q := 29) dX6_canReverse_27 rfl ⟨by decide, by decide⟩ (by decide) ?_
    refine g_icmp_le (t := 34) (q := 32) dX6_canReverse_29 (by decide) rfl (fun h29 => ?_) (fun h29 => ?_)
    · have hd2 := hd (by omega)
      refine g_aload_n (i := 0) (q := 35) dX6_canReverse_34 rfl rfl rfl ?_
      refine g_getr (q := 38) dX6_canReverse_35 rfl fk_X6_30 rfl rfl ?_
      refine g_getr (q := 41) dX6_canReverse_38 rfl fk_X6_207 rfl rfl ?_
      refine g_iload_n (i := 1) (q := 42) dX6_canReverse_41 rfl rfl rfl ?_
      refine g_ildv (q := 43) (z := S.2.1 21 o) dX6_canReverse_42 rfl ⟨by decide, rfl, rfl⟩ (by omega) (by omega) rfl ?_
      refine g_istore_n (i := 2) (q := 44) dX6_canReverse_43 rfl rfl (by decide) ?_
      refine g_aload_n (i := 0) (q := 45) dX6_canReverse_44 rfl rfl rfl ?_
      refine g_getr (q := 48) dX6_canReverse_45 rfl fk_X6_30 rfl rfl ?_
      refine g_getr (q := 51) dX6_canReverse_48 rfl fk_X6_204 rfl rfl ?_
      refine g_iload_n (i := 1) (q := 52) dX6_canReverse_51 rfl rfl rfl ?_
      refine g_ildv (q := 53) (z := S.2.1 23 o) dX6_canReverse_52 rfl ⟨by decide, rfl, rfl⟩ (by omega) (by omega) rfl ?_
      refine g_istore_n (i := 3) (q := 54) dX6_canReverse_53 rfl rfl (by decide) ?_
      refine g_aload_n (i := 0) (q := 55) dX6_canReverse_54 rfl rfl rfl ?_
      refine g_getr (q := 58) dX6_canReverse_55 rfl fk_X6_23 rfl rfl ?_
      refine g_iload_n (i := 2) (q := 59) dX6_canReverse_58 rfl rfl rfl ?_
      by_cases c59 : ¬ (S).2.1 13 (S.2.1 21 o) = -1
      · refine g_fnV (as := [zI (S.2.1 21 o)]) (q := 62) (u' := 0) dX6_canReverse_59 rfl ck_X6_109 rfl rfl rfl (Nat.le_of_ble_eq_true rfl) (by decide) rfl (by decide) (s_X1_isInUse_t (by omega) c59) rfl ?_
        refine g_if_eq (t := 101) (q := 65) dX6_canReverse_62 (by decide) rfl (fun h62 => (False.elim (by omega))) (fun h62 => ?_)
        refine g_iload_n (i := 3) (q := 66) dX6_canReverse_65 rfl rfl rfl ?_
        by_cases c66 : 0 ≤ S.2.1 23 o ∧ S.2.1 23 o < 6
        · refine g_fnS (as := [zI (S.2.1 23 o)]) (q := 69) (u' := 0) dX6_canReverse_66 rfl ck_X6_69 rfl rfl (Nat.le_of_ble_eq_true rfl) (by decide) rfl (by decide) (s_X6_isFirm_t c66) rfl ?_
          refine g_if_eq (t := 101) (q := 72) dX6_canReverse_69 (by decide) rfl (fun h69 => (False.elim (by omega))) (fun h69 => ?_)
          refine g_aload_n (i := 0) (q := 73) dX6_canReverse_72 rfl rfl rfl ?_
          refine g_getr (q := 76) dX6_canReverse_73 rfl fk_X6_16 rfl rfl ?_
          refine g_getr (q := 79) dX6_canReverse_76 rfl fk_X6_79 rfl rfl ?_
          refine g_iload_n (i := 3) (q := 80) dX6_canReverse_79 rfl rfl rfl ?_
          refine g_zldv (q := 81) (z := S.2.1 9 (S.2.1 23 o)) dX6_canReverse_80 rfl ⟨by decide, rfl, rfl⟩ (by omega) (by omega) rfl ?_
          refine g_if_ne (t := 101) (q := 84) dX6_canReverse_81 (by decide) rfl (fun h81 => ?_) (fun h81 => ?_)
          · refine g_iconst (q := 102) dX6_canReverse_101 rfl ⟨by decide, by decide⟩ ?_
            exact g_retz dX6_canReverse_102 rfl (by omega) (by decide) (by first | exact ⟨rfl, rfl⟩ | exact absurd ⟨by omega, by omega, by assumption, by omega, by omega⟩ h)
          · refine g_aload_n (i := 0) (q := 85) dX6_canReverse_84 rfl rfl rfl ?_
            refine g_getr (q := 88) dX6_canReverse_85 rfl fk_X6_23 rfl rfl ?_
            refine g_getr (q := 91) dX6_canReverse_88 rfl fk_X6_309 rfl rfl ?_
            refine g_iload_n (i := 2) (q := 92) dX6_canReverse_91 rfl rfl rfl ?_
            refine g_ildv (q := 93) (z := S.2.1 18 (S.2.1 21 o)) dX6_canReverse_92 rfl ⟨by decide, rfl, rfl⟩ (by omega) (by omega) rfl ?_
            refine g_iload_n (i := 1) (q := 94) dX6_canReverse_93 rfl rfl rfl ?_
            refine g_icmp_ne (t := 101) (q := 97) dX6_canReverse_94 (by decide) rfl (fun h94 => ?_) (fun h94 => ?_)
            · refine g_iconst (q := 102) dX6_canReverse_101 rfl ⟨by decide, by decide⟩ ?_
              exact g_retz dX6_canReverse_102 rfl (by omega) (by decide) (by first | exact ⟨rfl, rfl⟩ | exact absurd ⟨by omega, by omega, by assumption, by omega, by omega⟩ h)
            · refine g_iconst (q := 98) dX6_canReverse_97 rfl ⟨by decide, by decide⟩ ?_
              refine g_goto (q := 0) (t := 102) dX6_canReverse_98 (by decide) ?_
              exact g_retz dX6_canReverse_102 rfl (by omega) (by decide) (by first | exact ⟨rfl, rfl⟩ | exact absurd ⟨by omega, by omega, by assumption, by omega, by omega⟩ h)
        · refine g_fnS (as := [zI (S.2.1 23 o)]) (q := 69) (u' := 0) dX6_canReverse_66 rfl ck_X6_69 rfl rfl (Nat.le_of_ble_eq_true rfl) (by decide) rfl (by decide) (s_X6_isFirm_f c66) rfl ?_
          refine g_if_eq (t := 101) (q := 72) dX6_canReverse_69 (by decide) rfl (fun h69 => ?_) (fun h69 => (False.elim (by omega)))
          refine g_iconst (q := 102) dX6_canReverse_101 rfl ⟨by decide, by decide⟩ ?_
          exact g_retz dX6_canReverse_102 rfl (by omega) (by decide) (by first | exact ⟨rfl, rfl⟩ | exact absurd ⟨by omega, by omega, by assumption, by omega, by omega⟩ h)
      · refine g_fnV (as := [zI (S.2.1 21 o)]) (q := 62) (u' := 0) dX6_canReverse_59 rfl ck_X6_109 rfl rfl rfl (Nat.le_of_ble_eq_true rfl) (by decide) rfl (by decide) (s_X1_isInUse_f (by omega) (Decidable.not_not.mp c59)) rfl ?_
        refine g_if_eq (t := 101) (q := 65) dX6_canReverse_62 (by decide) rfl (fun h62 => ?_) (fun h62 => (False.elim (by omega)))
        refine g_iconst (q := 102) dX6_canReverse_101 rfl ⟨by decide, by decide⟩ ?_
        exact g_retz dX6_canReverse_102 rfl (by omega) (by decide) (by first | exact ⟨rfl, rfl⟩ | exact absurd ⟨by omega, by omega, by assumption, by omega, by omega⟩ h)
    · refine g_iconst (q := 33) dX6_canReverse_32 rfl ⟨by decide, by decide⟩ ?_
      exact g_retz dX6_canReverse_33 rfl (by omega) (by decide) (by first | exact ⟨rfl, rfl⟩ | exact absurd ⟨by omega, by omega, by assumption, by omega, by omega⟩ h)
/-- another firm serves a number -/
def x_mv (S : zS) (n f : Int) : zS := x_chg (x_note (z_sA S 13 n f) 0 n f) (S.1 0) n (if S.2.1 8 (n / 10) = f then 6 else f)
theorem s_X6_moveTo {S : zS} {n f : Int} (hn : 0 ≤ n ∧ n < 200) (h0 : 0 ≤ S.1 2 ∧ S.1 2 < 600) (h1 : 0 ≤ S.1 3 ∧ S.1 3 < 572) : z_Fn mX6_moveTo [zR 0, zI n, zI f] S none (x_mv S n f) := by
  refine z_enter (by decide +kernel) rfl (z_n1 trivial (z_n1 trivial (z_n1 trivial z_n0))) (Nat.le_of_ble_eq_true rfl) ?_
  unfold x_mv
  by_cases hh : S.2.1 8 (n / 10) = f
  · rw [if_pos hh]
    refine g_aload_n (i := 0) (q := 1) dX6_moveTo_0 rfl rfl rfl ?_
    refine g_getr (q := 4) dX6_moveTo_1 rfl fk_X6_23 rfl rfl ?_
    refine g_getr (q := 7) dX6_moveTo_4 rfl fk_X6_129 rfl rfl ?_
    refine g_iload_n (i := 1) (q := 8) dX6_moveTo_7 rfl rfl rfl ?_
    refine g_iload_n (i := 2) (q := 9) dX6_moveTo_8 rfl rfl rfl ?_
    refine g_iast (q := 10) dX6_moveTo_9 rfl ⟨by decide, rfl, rfl⟩ (by omega) (by omega) ?_
    refine g_aload_n (i := 0) (q := 11) dX6_moveTo_10 rfl rfl rfl ?_
    refine g_getr (q := 14) dX6_moveTo_11 rfl fk_X6_44 rfl rfl ?_
    refine g_iload_n (i := 1) (q := 15) dX6_moveTo_14 rfl rfl rfl ?_
    refine g_iload_n (i := 2) (q := 16) dX6_moveTo_15 rfl rfl rfl ?_
    refine g_fnV (as := [zI n, zI f]) (q := 19) (u' := 0) dX6_moveTo_16 rfl ck_X6_122 rfl rfl rfl (Nat.le_of_ble_eq_true rfl) (by decide) rfl (by decide) (s_X3_serves h1.1 h1.2) rfl ?_
    refine g_aload_n (i := 0) (q := 20) dX6_moveTo_19 rfl rfl rfl ?_
    refine g_getr (q := 23) dX6_moveTo_20 rfl fk_X6_37 rfl rfl ?_
    refine g_aload_n (i := 0) (q := 24) dX6_moveTo_23 rfl rfl rfl ?_
    refine g_getv (q := 27) (z := (x_note (z_sA S 13 n f) 0 n f).1 0) dX6_moveTo_24 rfl fk_X6_55 rfl rfl rfl ?_
    refine g_iload_n (i := 1) (q := 28) dX6_moveTo_27 rfl rfl rfl ?_
    refine g_iload_n (i := 2) (q := 29) dX6_moveTo_28 rfl rfl rfl ?_
    refine g_aload_n (i := 0) (q := 30) dX6_moveTo_29 rfl rfl rfl ?_
    refine g_iload_n (i := 1) (q := 31) dX6_moveTo_30 rfl rfl rfl ?_
    refine g_fnV (as := [zI n]) (q := 34) (u' := 0) dX6_moveTo_31 rfl ck_X6_106 rfl rfl rfl (Nat.le_of_ble_eq_true rfl) (by decide) rfl (by decide) (s_X6_holderOf hn) rfl ?_
    refine g_top (z := S.2.1 8 (n / 10)) rfl ?_
    refine g_icmp_ne (t := 42) (q := 37) dX6_moveTo_34 (by decide) rfl (fun h34 => (False.elim (by omega))) (fun h34 => ?_)
    refine g_bipush (q := 39) dX6_moveTo_37 rfl ⟨by decide, by decide⟩ (by decide) ?_
    refine g_goto (q := 0) (t := 43) dX6_moveTo_39 (by decide) ?_
    refine g_fnV (as := [zI ((x_note (z_sA S 13 n f) 0 n f).1 0), zI n, zI 6]) (q := 46) (u' := 0) dX6_moveTo_43 rfl ck_X6_138 rfl rfl rfl (Nat.le_of_ble_eq_true rfl) (by decide) rfl (by decide) (s_X0_add h0.1 h0.2) rfl ?_
    exact g_retv dX6_moveTo_46 rfl (by decide) (by first | exact ⟨rfl, rfl⟩ | (exfalso; omega))
  · rw [if_neg hh]
    refine g_aload_n (i := 0) (q := 1) dX6_moveTo_0 rfl rfl rfl ?_
    refine g_getr (q := 4) dX6_moveTo_1 rfl fk_X6_23 rfl rfl ?_
    refine g_getr (q := 7) dX6_moveTo_4 rfl fk_X6_129 rfl rfl ?_
    refine g_iload_n (i := 1) (q := 8) dX6_moveTo_7 rfl rfl rfl ?_
    refine g_iload_n (i := 2) (q := 9) dX6_moveTo_8 rfl rfl rfl ?_
    refine g_iast (q := 10) dX6_moveTo_9 rfl ⟨by decide, rfl, rfl⟩ (by omega) (by omega) ?_
    refine g_aload_n (i := 0) (q := 11) dX6_moveTo_10 rfl rfl rfl ?_
    refine g_getr (q := 14) dX6_moveTo_11 rfl fk_X6_44 rfl rfl ?_
    refine g_iload_n (i := 1) (q := 15) dX6_moveTo_14 rfl rfl rfl ?_
    refine g_iload_n (i := 2) (q := 16) dX6_moveTo_15 rfl rfl rfl ?_
    refine g_fnV (as := [zI n, zI f]) (q := 19) (u' := 0) dX6_moveTo_16 rfl ck_X6_122 rfl rfl rfl (Nat.le_of_ble_eq_true rfl) (by decide) rfl (by decide) (s_X3_serves h1.1 h1.2) rfl ?_
    refine g_aload_n (i := 0) (q := 20) dX6_moveTo_19 rfl rfl rfl ?_
    refine g_getr (q := 23) dX6_moveTo_20 rfl fk_X6_37 rfl rfl ?_
    refine g_aload_n (i := 0) (q := 24) dX6_moveTo_23 rfl rfl rfl ?_
    refine g_getv (q := 27) (z := (x_note (z_sA S 13 n f) 0 n f).1 0) dX6_moveTo_24 rfl fk_X6_55 rfl rfl rfl ?_
    refine g_iload_n (i := 1) (q := 28) dX6_moveTo_27 rfl rfl rfl ?_
    refine g_iload_n (i := 2) (q := 29) dX6_moveTo_28 rfl rfl rfl ?_
    refine g_aload_n (i := 0) (q := 30) dX6_moveTo_29 rfl rfl rfl ?_
    refine g_iload_n (i := 1) (q := 31) dX6_moveTo_30 rfl rfl rfl ?_
    refine g_fnV (as := [zI n]) (q := 34) (u' := 0) dX6_moveTo_31 rfl ck_X6_106 rfl rfl rfl (Nat.le_of_ble_eq_true rfl) (by decide) rfl (by decide) (s_X6_holderOf hn) rfl ?_
    refine g_top (z := S.2.1 8 (n / 10)) rfl ?_
    refine g_icmp_ne (t := 42) (q := 37) dX6_moveTo_34 (by decide) rfl (fun h34 => ?_) (fun h34 => (False.elim (by omega)))
    refine g_iload_n (i := 2) (q := 43) dX6_moveTo_42 rfl rfl rfl ?_
    refine g_fnV (as := [zI ((x_note (z_sA S 13 n f) 0 n f).1 0), zI n, zI f]) (q := 46) (u' := 0) dX6_moveTo_43 rfl ck_X6_138 rfl rfl rfl (Nat.le_of_ble_eq_true rfl) (by decide) rfl (by decide) (s_X0_add h0.1 h0.2) rfl ?_
    exact g_retv dX6_moveTo_46 rfl (by decide) (by first | exact ⟨rfl, rfl⟩ | (exfalso; omega))
/-- where a number is by a firm's table -/
def x_pbt (S : zS) (f n : Int) : Int := if S.2.1 8 (n / 10) = -1 ∨ S.2.1 (30 + f.toNat) n = 6 then S.2.1 8 (n / 10) else S.2.1 (30 + f.toNat) n
theorem s_X6_placeByTable {S : zS} {f n : Int} (hf : 0 ≤ f ∧ f < 6) (hn : 0 ≤ n ∧ n < 200) : z_Fn mX6_placeByTable [zR 0, zI f, zI n] S (some (zI (x_pbt S f n))) S := by
  refine z_enter (by decide +kernel) rfl (z_n1 trivial (z_n1 trivial (z_n1 trivial z_n0))) (Nat.le_of_ble_eq_true rfl) ?_
  refine g_aload_n (i := 0) (q := 1) dX6_placeByTable_0 rfl rfl rfl ?_
  refine g_iload_n (i := 2) (q := 2) dX6_placeByTable_1 rfl rfl rfl ?_
  refine g_fnV (as := [zI n]) (q := 5) (u' := 0) dX6_placeByTable_2 rfl ck_X6_106 rfl rfl rfl (Nat.le_of_ble_eq_true rfl) (by decide) rfl (by decide) (s_X6_holderOf (by omega)) rfl ?_
  refine g_istore_n (i := 3) (q := 6) dX6_placeByTable_5 rfl rfl (by decide) ?_
  refine g_aload_n (i := 0) (q := 7) dX6_placeByTable_6 rfl rfl rfl ?_
  refine g_getr (q := 10) dX6_placeByTable_7 rfl fk_X6_37 rfl rfl ?_
  refine g_getr (q := 13) dX6_placeByTable_10 rfl fk_X6_325 rfl rfl ?_
  refine g_iload_n (i := 1) (q := 14) dX6_placeByTable_13 rfl rfl rfl ?_
  refine g_aald (q := 15) dX6_placeByTable_14 rfl (by omega) (by omega) ?_
  refine g_iload_n (i := 2) (q := 16) dX6_placeByTable_15 rfl rfl rfl ?_
  refine g_ildv (q := 17) (z := S.2.1 (30 + f.toNat) n) dX6_placeByTable_16 rfl (z_row (by omega) (by omega)) (by omega) (by omega) rfl ?_
  refine g_istore (q := 19) dX6_placeByTable_17 rfl (by decide) ?_
  refine g_iload_n (i := 3) (q := 20) dX6_placeByTable_19 rfl rfl rfl ?_
  refine g_iconst (q := 21) dX6_placeByTable_20 rfl ⟨by decide, by decide⟩ ?_
  refine g_icmp_eq (t := 31) (q := 24) dX6_placeByTable_21 (by decide) rfl (fun h21 => ?_) (fun h21 => ?_)
  · refine g_iload_n (i := 3) (q := 32) dX6_placeByTable_31 rfl rfl rfl ?_
    refine g_goto (q := 0) (t := 37) dX6_placeByTable_32 (by decide) ?_
    exact g_ret dX6_placeByTable_37 rfl (by decide) ⟨by unfold x_pbt; first | rw [if_pos (by omega)] | rw [if_neg (by omega)], rfl⟩
  · refine g_iload (q := 26) dX6_placeByTable_24 rfl rfl ?_
    refine g_bipush (q := 28) dX6_placeByTable_26 rfl ⟨by decide, by decide⟩ (by decide) ?_
    refine g_icmp_ne (t := 35) (q := 31) dX6_placeByTable_28 (by decide) rfl (fun h28 => ?_) (fun h28 => ?_)
    · refine g_iload (q := 37) dX6_placeByTable_35 rfl rfl ?_
      exact g_ret dX6_placeByTable_37 rfl (by decide) ⟨by unfold x_pbt; first | rw [if_pos (by omega)] | rw [if_neg (by omega)], rfl⟩
    · refine g_iload_n (i := 3) (q := 32) dX6_placeByTable_31 rfl rfl rfl ?_
      refine g_goto (q := 0) (t := 37) dX6_placeByTable_32 (by decide) ?_
      exact g_ret dX6_placeByTable_37 rfl (by decide) ⟨by unfold x_pbt; first | rw [if_pos (by omega)] | rw [if_neg (by omega)], rfl⟩
end
section
/-! ===== a firm ends: blocks, numbers, changes ===== -/
def x_ah (S : zS) (n h sb hb : Int) : zS := if S.2.1 13 n = h then (if S.2.1 8 (n / 10) = h then (if sb = hb then S else x_chg S (S.1 0) n 6) else (if sb = h then S else x_chg S (S.1 0) n h)) else S
theorem s_X6_announceHeir {S : zS} {n h sb hb : Int} (hn : 0 ≤ n ∧ n < 200) (h0 : 0 ≤ S.1 2) (h6 : (x_ah S n h sb hb).1 2 ≤ 600) : z_Fn mX6_announceHeir [zR 0, zI n, zI h, zI sb, zI hb] S none (x_ah S n h sb hb) := by
  refine z_enter (by decide +kernel) rfl (z_n1 trivial (z_n1 trivial (z_n1 trivial (z_n1 trivial (z_n1 trivial z_n0))))) (Nat.le_of_ble_eq_true rfl) ?_
  refine g_aload_n (i := 0) (q := 1) dX6_announceHeir_0 rfl rfl rfl ?_
  refine g_getr (q := 4) dX6_announceHeir_1 rfl fk_X6_23 rfl rfl ?_
  refine g_getr (q := 7) dX6_announceHeir_4 rfl fk_X6_129 rfl rfl ?_
  refine g_iload_n (i := 1) (q := 8) dX6_announceHeir_7 rfl rfl rfl ?_
  refine g_ildv (q := 9) (z := S.2.1 13 n) dX6_announceHeir_8 rfl ⟨by decide, rfl, rfl⟩ (by omega) (by omega) rfl ?_
  refine g_iload_n (i := 2) (q := 10) dX6_announceHeir_9 rfl rfl rfl ?_
  refine g_icmp_eq (t := 14) (q := 13) dX6_announceHeir_10 (by decide) rfl (fun h10 => ?_) (fun h10 => ?_)
  · refine g_aload_n (i := 0) (q := 15) dX6_announceHeir_14 rfl rfl rfl ?_
    refine g_iload_n (i := 1) (q := 16) dX6_announceHeir_15 rfl rfl rfl ?_
    refine g_fnV (as := [zI n]) (q := 19) (u' := 0) dX6_announceHeir_16 rfl ck_X6_106 rfl rfl rfl (Nat.le_of_ble_eq_true rfl) (by decide) rfl (by decide) (s_X6_holderOf (by omega)) rfl ?_
    refine g_iload_n (i := 2) (q := 20) dX6_announceHeir_19 rfl rfl rfl ?_
    refine g_icmp_eq (t := 44) (q := 23) dX6_announceHeir_20 (by decide) rfl (fun h20 => ?_) (fun h20 => ?_)
    · refine g_iload_n (i := 3) (q := 45) dX6_announceHeir_44 rfl rfl rfl ?_
      refine g_iload (q := 47) dX6_announceHeir_45 rfl rfl ?_
      refine g_icmp_eq (t := 64) (q := 50) dX6_announceHeir_47 (by decide) rfl (fun h47 => ?_) (fun h47 => ?_)
      · exact g_retv dX6_announceHeir_64 rfl (by decide) (by unfold x_ah; (repeat (first | rw [if_pos (by omega)] | rw [if_neg (by omega)])); exact ⟨rfl, rfl⟩)
      · have h61 : S.1 2 < 600 := by (unfold x_ah at h6; (repeat (first | rw [if_pos (by omega)] at h6 | rw [if_neg (by omega)] at h6)); have h62 : S.1 2 + 1 ≤ 600 := h6; omega)
        refine g_aload_n (i := 0) (q := 51) dX6_announceHeir_50 rfl rfl rfl ?_
        refine g_getr (q := 54) dX6_announceHeir_51 rfl fk_X6_37 rfl rfl ?_
        refine g_aload_n (i := 0) (q := 55) dX6_announceHeir_54 rfl rfl rfl ?_
        refine g_getv (q := 58) (z := S.1 0) dX6_announceHeir_55 rfl fk_X6_55 rfl rfl rfl ?_
        refine g_iload_n (i := 1) (q := 59) dX6_announceHeir_58 rfl rfl rfl ?_
        refine g_bipush (q := 61) dX6_announceHeir_59 rfl ⟨by decide, by decide⟩ (by decide) ?_
        refine g_fnV (as := [zI (S.1 0), zI n, zI 6]) (q := 64) (u' := 0) dX6_announceHeir_61 rfl ck_X6_138 rfl rfl rfl (Nat.le_of_ble_eq_true rfl) (by decide) rfl (by decide) (s_X0_add (by omega) (by omega)) rfl ?_
        exact g_retv dX6_announceHeir_64 rfl (by decide) (by unfold x_ah; (repeat (first | rw [if_pos (by omega)] | rw [if_neg (by omega)])); exact ⟨rfl, rfl⟩)
    · refine g_iload_n (i := 3) (q := 24) dX6_announceHeir_23 rfl rfl rfl ?_
      refine g_iload_n (i := 2) (q := 25) dX6_announceHeir_24 rfl rfl rfl ?_
      refine g_icmp_eq (t := 64) (q := 28) dX6_announceHeir_25 (by decide) rfl (fun h25 => ?_) (fun h25 => ?_)
      · exact g_retv dX6_announceHeir_64 rfl (by decide) (by unfold x_ah; (repeat (first | rw [if_pos (by omega)] | rw [if_neg (by omega)])); exact ⟨rfl, rfl⟩)
      · have h61 : S.1 2 < 600 := by (unfold x_ah at h6; (repeat (first | rw [if_pos (by omega)] at h6 | rw [if_neg (by omega)] at h6)); have h62 : S.1 2 + 1 ≤ 600 := h6; omega)
        refine g_aload_n (i := 0) (q := 29) dX6_announceHeir_28 rfl rfl rfl ?_
        refine g_getr (q := 32) dX6_announceHeir_29 rfl fk_X6_37 rfl rfl ?_
        refine g_aload_n (i := 0) (q := 33) dX6_announceHeir_32 rfl rfl rfl ?_
        refine g_getv (q := 36) (z := S.1 0) dX6_announceHeir_33 rfl fk_X6_55 rfl rfl rfl ?_
        refine g_iload_n (i := 1) (q := 37) dX6_announceHeir_36 rfl rfl rfl ?_
        refine g_iload_n (i := 2) (q := 38) dX6_announceHeir_37 rfl rfl rfl ?_
        refine g_fnV (as := [zI (S.1 0), zI n, zI h]) (q := 41) (u' := 0) dX6_announceHeir_38 rfl ck_X6_138 rfl rfl rfl (Nat.le_of_ble_eq_true rfl) (by decide) rfl (by decide) (s_X0_add (by omega) (by omega)) rfl ?_
        refine g_goto (q := 0) (t := 64) dX6_announceHeir_41 (by decide) ?_
        exact g_retv dX6_announceHeir_64 rfl (by decide) (by unfold x_ah; (repeat (first | rw [if_pos (by omega)] | rw [if_neg (by omega)])); exact ⟨rfl, rfl⟩)
  · exact g_retv dX6_announceHeir_13 rfl (by decide) (by unfold x_ah; (repeat (first | rw [if_pos (by omega)] | rw [if_neg (by omega)])); exact ⟨rfl, rfl⟩)
theorem x_ah_mono {S : zS} {n h sb hb : Int} : S.1 2 ≤ (x_ah S n h sb hb).1 2 := by
  unfold x_ah
  split
  · split
    · split
      · exact Int.le_refl _
      · show S.1 2 ≤ S.1 2 + 1; omega
    · split
      · exact Int.le_refl _
      · show S.1 2 ≤ S.1 2 + 1; omega
  · exact Int.le_refl _
/-- one number of a block -/
def x_ib1 (S : zS) (n f h hb : Int) : zS := x_ah (if S.2.1 13 n = f then z_sA (z_sA S 13 n h) 18 n (-1) else S) n h (S.2.1 13 n) hb
theorem x_ib1_mono {S : zS} {n f h hb : Int} : S.1 2 ≤ (x_ib1 S n f h hb).1 2 := by
  unfold x_ib1
  refine Int.le_trans ?_ x_ah_mono
  split <;> exact Int.le_refl _
def x_ibl (S : zS) (f h hb : Int) : Nat → Nat → zS
  | _, 0 => S
  | i, k + 1 => x_ibl (x_ib1 S i f h hb) f h hb (i + 1) k
theorem x_ibl_mono {f h hb : Int} : ∀ (k i : Nat) (S : zS), S.1 2 ≤ (x_ibl S f h hb i k).1 2
  | 0, _, _ => Int.le_refl _
  | k + 1, i, S => Int.le_trans x_ib1_mono (x_ibl_mono k (i + 1) _)
def x_ibc (S : zS) (f h hb : Int) : Nat → Nat → Int
  | _, 0 => 0
  | i, k + 1 => (if S.2.1 13 i = f then 1 else 0) + x_ibc (x_ib1 S i f h hb) f h hb (i + 1) k
theorem x_ibc_rng {f h hb : Int} : ∀ (k i : Nat) (S : zS), 0 ≤ x_ibc S f h hb i k ∧ x_ibc S f h hb i k ≤ k
  | 0, _, _ => by simp [x_ibc]
  | k + 1, i, S => by
    have h1 := x_ibc_rng (f := f) (h := h) (hb := hb) k (i + 1) (x_ib1 S i f h hb)
    rw [x_ibc]
    split <;> omega
theorem l_X6_inheritBlock {Q : zQ} {b : Nat} {f h hb : Int} (hb20 : b < 20) : ∀ (k i : Nat) (S : zS) (cnt : Int), i + k = 10 * b + 10 → 10 * b ≤ i → 0 ≤ S.1 2 → (x_ibl S f h hb i k).1 2 ≤ 600 → 0 ≤ cnt ∧ cnt + k ≤ 10 → Q (.ok (some (zI (cnt + x_ibc S f h hb i k)))) (x_ibl S f h hb i k) →
    ∀ w, z_G mX6_inheritBlock (z_F mX6_inheritBlock Q) 0 34 [some (zR 0), some (zI b), some (zI f), some (zI h), some (zI hb), some (zI cnt), some (zI ((b : Int) * 10)), some (zI (i : Int)), w] [] S := by
  intro k
  induction k with
  | zero =>
    intro i S cnt hi hi2 h0 h6 hcnt hQ w
    rw [x_ibc, Int.add_zero] at hQ
    refine g_iload (q := 36) dX6_inheritBlock_34 rfl rfl ?_
    refine g_iload (q := 38) dX6_inheritBlock_36 rfl rfl ?_
    refine g_bipush (q := 40) dX6_inheritBlock_38 rfl ⟨by decide, by decide⟩ (by decide) ?_
    refine g_iadd (q := 41) dX6_inheritBlock_40 rfl (by constructor <;> omega) ?_
    refine g_icmp_ge (t := 104) (q := 44) dX6_inheritBlock_41 (by decide) rfl (fun h41 => ?_) (fun h41 => (False.elim (by omega)))
    refine g_iload (q := 106) dX6_inheritBlock_104 rfl rfl ?_
    exact g_ret dX6_inheritBlock_106 rfl (by decide) hQ
  | succ k ih =>
    intro i S cnt hi hi2 h0 h6 hcnt hQ w
    rw [x_ibc] at hQ
    rw [x_ibl] at hQ h6
    have hm : (x_ib1 S i f h hb).1 2 ≤ 600 := Int.le_trans (x_ibl_mono k (i + 1) _) h6
    have h01 : 0 ≤ (x_ib1 S i f h hb).1 2 := Int.le_trans h0 x_ib1_mono
    by_cases hs : S.2.1 13 i = f
    · have e : x_ib1 S i f h hb = x_ah (z_sA (z_sA S 13 i h) 18 i (-1)) i h (S.2.1 13 i) hb := by unfold x_ib1; rw [if_pos hs]
      rw [if_pos hs] at hQ
      refine g_iload (q := 36) dX6_inheritBlock_34 rfl rfl ?_
      refine g_iload (q := 38) dX6_inheritBlock_36 rfl rfl ?_
      refine g_bipush (q := 40) dX6_inheritBlock_38 rfl ⟨by decide, by decide⟩ (by decide) ?_
      refine g_iadd (q := 41) dX6_inheritBlock_40 rfl (by constructor <;> omega) ?_
      refine g_icmp_ge (t := 104) (q := 44) dX6_inheritBlock_41 (by decide) rfl (fun h41 => (False.elim (by omega))) (fun h41 => ?_)
      refine g_aload_n (i := 0) (q := 45) dX6_inheritBlock_44 rfl rfl rfl ?_
      refine g_getr (q := 48) dX6_inheritBlock_45 rfl fk_X6_23 rfl rfl ?_
      refine g_getr (q := 51) dX6_inheritBlock_48 rfl fk_X6_129 rfl rfl ?_
      refine g_iload (q := 53) dX6_inheritBlock_51 rfl rfl ?_
      refine g_ildv (q := 54) (z := S.2.1 13 (i : Int)) dX6_inheritBlock_53 rfl ⟨by decide, rfl, rfl⟩ (by omega) (by omega) rfl ?_
      refine g_istore (q := 56) dX6_inheritBlock_54 rfl (by decide) ?_
      refine g_iload (q := 58) dX6_inheritBlock_56 rfl rfl ?_
      refine g_iload_n (i := 2) (q := 59) dX6_inheritBlock_58 rfl rfl rfl ?_
      refine g_icmp_ne (t := 87) (q := 62) dX6_inheritBlock_59 (by decide) rfl (fun h59 => (False.elim (by omega))) (fun h59 => ?_)
      refine g_aload_n (i := 0) (q := 63) dX6_inheritBlock_62 rfl rfl rfl ?_
      refine g_getr (q := 66) dX6_inheritBlock_63 rfl fk_X6_23 rfl rfl ?_
      refine g_getr (q := 69) dX6_inheritBlock_66 rfl fk_X6_129 rfl rfl ?_
      refine g_iload (q := 71) dX6_inheritBlock_69 rfl rfl ?_
      refine g_iload_n (i := 3) (q := 72) dX6_inheritBlock_71 rfl rfl rfl ?_
      refine g_iast (q := 73) dX6_inheritBlock_72 rfl ⟨by decide, rfl, rfl⟩ (by omega) (by omega) ?_
      refine g_aload_n (i := 0) (q := 74) dX6_inheritBlock_73 rfl rfl rfl ?_
      refine g_getr (q := 77) dX6_inheritBlock_74 rfl fk_X6_23 rfl rfl ?_
      refine g_getr (q := 80) dX6_inheritBlock_77 rfl fk_X6_309 rfl rfl ?_
      refine g_iload (q := 82) dX6_inheritBlock_80 rfl rfl ?_
      refine g_iconst (q := 83) dX6_inheritBlock_82 rfl ⟨by decide, by decide⟩ ?_
      refine g_iast (q := 84) dX6_inheritBlock_83 rfl ⟨by decide, rfl, rfl⟩ (by omega) (by omega) ?_
      refine g_iinc (q := 87) (i := 5) (n := 1) dX6_inheritBlock_84 rfl rfl (by constructor <;> omega) ?_
      refine g_aload_n (i := 0) (q := 88) dX6_inheritBlock_87 rfl rfl rfl ?_
      refine g_iload (q := 90) dX6_inheritBlock_88 rfl rfl ?_
      refine g_iload_n (i := 3) (q := 91) dX6_inheritBlock_90 rfl rfl rfl ?_
      refine g_iload (q := 93) dX6_inheritBlock_91 rfl rfl ?_
      refine g_iload (q := 95) dX6_inheritBlock_93 rfl rfl ?_
      refine g_fnV (as := [zI (i : Int), zI h, zI (S.2.1 13 (i : Int)), zI hb]) (q := 98) (u' := 0) dX6_inheritBlock_95 rfl ck_X6_312 rfl rfl rfl (Nat.le_of_ble_eq_true rfl) (by decide) rfl (by decide) (s_X6_announceHeir (by omega) h0 (by rw [← e]; exact hm)) rfl ?_
      refine g_iinc (q := 101) (i := 7) (n := 1) dX6_inheritBlock_98 rfl rfl (by constructor <;> omega) ?_
      refine g_goto (q := 0) (t := 34) dX6_inheritBlock_101 (by decide) ?_
      rw [← e]
      exact ih (i + 1) _ (cnt + 1) (by omega) (by omega) h01 h6 (by omega) (by rw [Int.add_assoc]; exact hQ) _
    · have e : x_ib1 S i f h hb = x_ah S i h (S.2.1 13 i) hb := by unfold x_ib1; rw [if_neg hs]
      rw [if_neg hs, Int.zero_add] at hQ
      refine g_iload (q := 36) dX6_inheritBlock_34 rfl rfl ?_
      refine g_iload (q := 38) dX6_inheritBlock_36 rfl rfl ?_
      refine g_bipush (q := 40) dX6_inheritBlock_38 rfl ⟨by decide, by decide⟩ (by decide) ?_
      refine g_iadd (q := 41) dX6_inheritBlock_40 rfl (by constructor <;> omega) ?_
      refine g_icmp_ge (t := 104) (q := 44) dX6_inheritBlock_41 (by decide) rfl (fun h41 => (False.elim (by omega))) (fun h41 => ?_)
      refine g_aload_n (i := 0) (q := 45) dX6_inheritBlock_44 rfl rfl rfl ?_
      refine g_getr (q := 48) dX6_inheritBlock_45 rfl fk_X6_23 rfl rfl ?_
      refine g_getr (q := 51) dX6_inheritBlock_48 rfl fk_X6_129 rfl rfl ?_
      refine g_iload (q := 53) dX6_inheritBlock_51 rfl rfl ?_
      refine g_ildv (q := 54) (z := S.2.1 13 (i : Int)) dX6_inheritBlock_53 rfl ⟨by decide, rfl, rfl⟩ (by omega) (by omega) rfl ?_
      refine g_istore (q := 56) dX6_inheritBlock_54 rfl (by decide) ?_
      refine g_iload (q := 58) dX6_inheritBlock_56 rfl rfl ?_
      refine g_iload_n (i := 2) (q := 59) dX6_inheritBlock_58 rfl rfl rfl ?_
      refine g_icmp_ne (t := 87) (q := 62) dX6_inheritBlock_59 (by decide) rfl (fun h59 => ?_) (fun h59 => (False.elim (by omega)))
      refine g_aload_n (i := 0) (q := 88) dX6_inheritBlock_87 rfl rfl rfl ?_
      refine g_iload (q := 90) dX6_inheritBlock_88 rfl rfl ?_
      refine g_iload_n (i := 3) (q := 91) dX6_inheritBlock_90 rfl rfl rfl ?_
      refine g_iload (q := 93) dX6_inheritBlock_91 rfl rfl ?_
      refine g_iload (q := 95) dX6_inheritBlock_93 rfl rfl ?_
      refine g_fnV (as := [zI (i : Int), zI h, zI (S.2.1 13 (i : Int)), zI hb]) (q := 98) (u' := 0) dX6_inheritBlock_95 rfl ck_X6_312 rfl rfl rfl (Nat.le_of_ble_eq_true rfl) (by decide) rfl (by decide) (s_X6_announceHeir (by omega) h0 (by rw [← e]; exact hm)) rfl ?_
      refine g_iinc (q := 101) (i := 7) (n := 1) dX6_inheritBlock_98 rfl rfl (by constructor <;> omega) ?_
      refine g_goto (q := 0) (t := 34) dX6_inheritBlock_101 (by decide) ?_
      rw [← e]
      exact ih (i + 1) _ cnt (by omega) (by omega) h01 h6 (by omega) hQ _
/-- one block -/
def x_ib (S : zS) (f h : Int) (b : Nat) : zS := x_ibl (if S.2.1 8 b = f then z_sA S 8 b h else S) f h (S.2.1 8 b) (10 * b) 10
def x_ibn (S : zS) (f h : Int) (b : Nat) : Int := x_ibc (if S.2.1 8 b = f then z_sA S 8 b h else S) f h (S.2.1 8 b) (10 * b) 10
theorem x_ib_mono {S : zS} {f h : Int} {b : Nat} : S.1 2 ≤ (x_ib S f h b).1 2 := by
  unfold x_ib
  refine Int.le_trans ?_ (x_ibl_mono _ _ _)
  split <;> exact Int.le_refl _
theorem s_X6_inheritBlock {S : zS} {f h : Int} {b : Nat} (hb : b < 20) (h0 : 0 ≤ S.1 2) (h6 : (x_ib S f h b).1 2 ≤ 600) : z_Fn mX6_inheritBlock [zR 0, zI b, zI f, zI h] S (some (zI (x_ibn S f h b))) (x_ib S f h b) := by
  refine z_enter (by decide +kernel) rfl (z_n1 trivial (z_n1 trivial (z_n1 trivial (z_n1 trivial z_n0)))) (Nat.le_of_ble_eq_true rfl) ?_
  have e : ((b : Int) * 10) = ((10 * b : Nat) : Int) := by omega
  by_cases hs : S.2.1 8 b = f
  · have e1 : x_ib S f h b = x_ibl (z_sA S 8 b h) f h (S.2.1 8 b) (10 * b) 10 := by unfold x_ib; rw [if_pos hs]
    have e2 : x_ibn S f h b = x_ibc (z_sA S 8 b h) f h (S.2.1 8 b) (10 * b) 10 := by unfold x_ibn; rw [if_pos hs]
    rw [e1] at h6 ⊢
    rw [e2]
    refine g_aload_n (i := 0) (q := 1) dX6_inheritBlock_0 rfl rfl rfl ?_
    refine g_getr (q := 4) dX6_inheritBlock_1 rfl fk_X6_9 rfl rfl ?_
    refine g_iload_n (i := 1) (q := 5) dX6_inheritBlock_4 rfl rfl rfl ?_
    refine g_ildv (q := 6) (z := S.2.1 8 (b : Int)) dX6_inheritBlock_5 rfl ⟨by decide, rfl, rfl⟩ (by omega) (by omega) rfl ?_
    refine g_istore (q := 8) dX6_inheritBlock_6 rfl (by decide) ?_
    refine g_iload (q := 10) dX6_inheritBlock_8 rfl rfl ?_
    refine g_iload_n (i := 2) (q := 11) dX6_inheritBlock_10 rfl rfl rfl ?_
    refine g_icmp_ne (t := 21) (q := 14) dX6_inheritBlock_11 (by decide) rfl (fun h11 => (False.elim (by omega))) (fun h11 => ?_)
    refine g_aload_n (i := 0) (q := 15) dX6_inheritBlock_14 rfl rfl rfl ?_
    refine g_getr (q := 18) dX6_inheritBlock_15 rfl fk_X6_9 rfl rfl ?_
    refine g_iload_n (i := 1) (q := 19) dX6_inheritBlock_18 rfl rfl rfl ?_
    refine g_iload_n (i := 3) (q := 20) dX6_inheritBlock_19 rfl rfl rfl ?_
    refine g_iast (q := 21) dX6_inheritBlock_20 rfl ⟨by decide, rfl, rfl⟩ (by omega) (by omega) ?_
    refine g_iconst (q := 22) dX6_inheritBlock_21 rfl ⟨by decide, by decide⟩ ?_
    refine g_istore (q := 24) dX6_inheritBlock_22 rfl (by decide) ?_
    refine g_iload_n (i := 1) (q := 25) dX6_inheritBlock_24 rfl rfl rfl ?_
    refine g_bipush (q := 27) dX6_inheritBlock_25 rfl ⟨by decide, by decide⟩ (by decide) ?_
    refine g_imul (q := 28) dX6_inheritBlock_27 rfl (by constructor <;> omega) ?_
    refine g_istore (q := 30) dX6_inheritBlock_28 rfl (by decide) ?_
    refine g_iload (q := 32) dX6_inheritBlock_30 rfl rfl ?_
    refine g_istore (q := 34) dX6_inheritBlock_32 rfl (by decide) ?_
    have hk := l_X6_inheritBlock (Q := fun x T => x = .ok (some (zI (x_ibc (z_sA S 8 b h) f h (S.2.1 8 b) (10 * b) 10))) ∧ T = x_ibl (z_sA S 8 b h) f h (S.2.1 8 b) (10 * b) 10) (hb := S.2.1 8 b) hb 10 (10 * b) (z_sA S 8 b h) 0 (by omega) (by omega) h0 h6 (by omega) ⟨by rw [Int.zero_add], rfl⟩ none
    rw [← e] at hk
    exact hk
  · have e1 : x_ib S f h b = x_ibl S f h (S.2.1 8 b) (10 * b) 10 := by unfold x_ib; rw [if_neg hs]
    have e2 : x_ibn S f h b = x_ibc S f h (S.2.1 8 b) (10 * b) 10 := by unfold x_ibn; rw [if_neg hs]
    rw [e1] at h6 ⊢
    rw [e2]
    refine g_aload_n (i := 0) (q := 1) dX6_inheritBlock_0 rfl rfl rfl ?_
    refine g_getr (q := 4) dX6_inheritBlock_1 rfl fk_X6_9 rfl rfl ?_
    refine g_iload_n (i := 1) (q := 5) dX6_inheritBlock_4 rfl rfl rfl ?_
    refine g_ildv (q := 6) (z := S.2.1 8 (b : Int)) dX6_inheritBlock_5 rfl ⟨by decide, rfl, rfl⟩ (by omega) (by omega) rfl ?_
    refine g_istore (q := 8) dX6_inheritBlock_6 rfl (by decide) ?_
    refine g_iload (q := 10) dX6_inheritBlock_8 rfl rfl ?_
    refine g_iload_n (i := 2) (q := 11) dX6_inheritBlock_10 rfl rfl rfl ?_
    refine g_icmp_ne (t := 21) (q := 14) dX6_inheritBlock_11 (by decide) rfl (fun h11 => ?_) (fun h11 => (False.elim (by omega)))
    refine g_iconst (q := 22) dX6_inheritBlock_21 rfl ⟨by decide, by decide⟩ ?_
    refine g_istore (q := 24) dX6_inheritBlock_22 rfl (by decide) ?_
    refine g_iload_n (i := 1) (q := 25) dX6_inheritBlock_24 rfl rfl rfl ?_
    refine g_bipush (q := 27) dX6_inheritBlock_25 rfl ⟨by decide, by decide⟩ (by decide) ?_
    refine g_imul (q := 28) dX6_inheritBlock_27 rfl (by constructor <;> omega) ?_
    refine g_istore (q := 30) dX6_inheritBlock_28 rfl (by decide) ?_
    refine g_iload (q := 32) dX6_inheritBlock_30 rfl rfl ?_
    refine g_istore (q := 34) dX6_inheritBlock_32 rfl (by decide) ?_
    have hk := l_X6_inheritBlock (Q := fun x T => x = .ok (some (zI (x_ibc S f h (S.2.1 8 b) (10 * b) 10))) ∧ T = x_ibl S f h (S.2.1 8 b) (10 * b) 10) (hb := S.2.1 8 b) hb 10 (10 * b) S 0 (by omega) (by omega) h0 h6 (by omega) ⟨by rw [Int.zero_add], rfl⟩ none
    rw [← e] at hk
    exact hk
end
section
/-! ===== minutes ===== -/
/-- what holds of the class's rows while minutes go by -/
def xP (S : zS) (c : Nat) : Prop :=
  S.1 1 = c ∧ c ≤ 60 ∧ (0 ≤ S.1 0 ∧ S.1 0 ≤ 9999) ∧ 0 ≤ S.1 2 ∧ 0 ≤ S.1 3 ∧
  (∀ o : Int, 0 ≤ o → o < c → (0 ≤ S.2.1 21 o ∧ S.2.1 21 o < 200) ∧ (0 ≤ S.2.1 22 o ∧ S.2.1 22 o < 6) ∧ (0 ≤ S.2.1 24 o ∧ S.2.1 24 o ≤ 20000) ∧ (S.2.1 19 o = 1 → ¬ S.2.1 13 (S.2.1 21 o) = -1)) ∧
  (∀ n : Int, 0 ≤ n → n < 200 → -1 ≤ S.2.1 13 n ∧ S.2.1 13 n < 6) ∧
  (∀ j : Int, 0 ≤ j → j < S.1 2 → 0 ≤ S.2.1 26 j ∧ S.2.1 26 j < 200) ∧
  (∀ f : Int, 0 ≤ f → f < 6 → 0 ≤ S.2.1 28 f ∧ S.2.1 28 f ≤ S.1 2 ∧ 0 ≤ S.2.1 11 f ∧ S.2.1 11 f ≤ 50)
theorem x_po_rng {S : zS} {c : Nat} : ∀ (k : Nat) (m : Int), m ≤ x_po S c m k ∧ x_po S c m k ≤ m + 100 * k
  | 0, m => by simp [x_po]
  | k + 1, m => by
    have h := x_po_rng (S := S) (c := c) k (m + 100)
    unfold x_po
    split <;> omega
def x_co (S : zS) (c : Nat) (o : Int) : zS :=
  if S.1 0 ≤ S.2.1 17 (S.2.1 21 o) then z_sA S 24 o (x_po S c (S.2.1 24 o + 100) 60)
  else if S.2.1 13 (S.2.1 21 o) = S.2.1 22 o then z_sA S 19 o 3
  else x_pay (z_sA (x_mv (z_sA (z_sA S 19 o 2) 23 o (S.2.1 13 (S.2.1 21 o))) (S.2.1 21 o) (S.2.1 22 o)) 18 (S.2.1 21 o) o) (S.2.1 22 o) (S.2.1 13 (S.2.1 21 o)) 5
theorem x_co_mono {S : zS} {c : Nat} {o : Int} : S.1 2 ≤ (x_co S c o).1 2 ∧ S.1 3 ≤ (x_co S c o).1 3 := by
  unfold x_co
  split
  · exact ⟨Int.le_refl _, Int.le_refl _⟩
  · split
    · exact ⟨Int.le_refl _, Int.le_refl _⟩
    · constructor
      · show S.1 2 ≤ S.1 2 + 1; omega
      · show S.1 3 ≤ S.1 3 + 1; omega
theorem s_X6_carryOut {S : zS} {c : Nat} {o : Int} (P : xP S c) (ho : 0 ≤ o ∧ o < c) (hw : S.2.1 19 o = 1) (hdue : S.2.1 24 o ≤ 9999) (h2 : (x_co S c o).1 2 ≤ 600) (h3 : (x_co S c o).1 3 ≤ 572) : z_Fn mX6_carryOut [zR 0, zI o] S none (x_co S c o) := by
  obtain ⟨hc, h60, hnow, hc2, hc3, hO, hN, hJ, hF⟩ := P
  obtain ⟨o1, o2, o3, o4⟩ := hO o ho.1 ho.2
  have o5 := o4 hw
  have o6 := hN _ o1.1 o1.2
  refine z_enter (by decide +kernel) rfl (z_n1 trivial (z_n1 trivial z_n0)) (Nat.le_of_ble_eq_true rfl) ?_
  by_cases e1 : S.1 0 ≤ S.2.1 17 (S.2.1 21 o)
  · have e : x_co S c o = z_sA S 24 o (x_po S c (S.2.1 24 o + 100) 60) := by unfold x_co; rw [if_pos e1]
    rw [e]
    refine g_aload_n (i := 0) (q := 1) dX6_carryOut_0 rfl rfl rfl ?_
    refine g_getr (q := 4) dX6_carryOut_1 rfl fk_X6_30 rfl rfl ?_
    refine g_getr (q := 7) dX6_carryOut_4 rfl fk_X6_207 rfl rfl ?_
    refine g_iload_n (i := 1) (q := 8) dX6_carryOut_7 rfl rfl rfl ?_
    refine g_ildv (q := 9) (z := S.2.1 21 o) dX6_carryOut_8 rfl ⟨by decide, rfl, rfl⟩ (by omega) (by omega) rfl ?_
    refine g_istore_n (i := 2) (q := 10) dX6_carryOut_9 rfl rfl (by decide) ?_
    refine g_aload_n (i := 0) (q := 11) dX6_carryOut_10 rfl rfl rfl ?_
    refine g_getr (q := 14) dX6_carryOut_11 rfl fk_X6_30 rfl rfl ?_
    refine g_getr (q := 17) dX6_carryOut_14 rfl fk_X6_213 rfl rfl ?_
    refine g_iload_n (i := 1) (q := 18) dX6_carryOut_17 rfl rfl rfl ?_
    refine g_ildv (q := 19) (z := S.2.1 22 o) dX6_carryOut_18 rfl ⟨by decide, rfl, rfl⟩ (by omega) (by omega) rfl ?_
    refine g_istore_n (i := 3) (q := 20) dX6_carryOut_19 rfl rfl (by decide) ?_
    refine g_aload_n (i := 0) (q := 21) dX6_carryOut_20 rfl rfl rfl ?_
    refine g_getr (q := 24) dX6_carryOut_21 rfl fk_X6_23 rfl rfl ?_
    refine g_iload_n (i := 2) (q := 25) dX6_carryOut_24 rfl rfl rfl ?_
    refine g_aload_n (i := 0) (q := 26) dX6_carryOut_25 rfl rfl rfl ?_
    refine g_getv (q := 29) (z := S.1 0) dX6_carryOut_26 rfl fk_X6_55 rfl rfl rfl ?_
    refine g_fnV (as := [zI (S.2.1 21 o), zI (S.1 0)]) (q := 32) (u' := 0) dX6_carryOut_29 rfl ck_X6_256 rfl rfl rfl (Nat.le_of_ble_eq_true rfl) (by decide) rfl (by decide) (s_X1_mayBeCalledBack_t (by omega) e1) rfl ?_
    refine g_if_eq (t := 46) (q := 35) dX6_carryOut_32 (by decide) rfl (fun h32 => (False.elim (by omega))) (fun h32 => ?_)
    refine g_aload_n (i := 0) (q := 36) dX6_carryOut_35 rfl rfl rfl ?_
    refine g_getr (q := 39) dX6_carryOut_36 rfl fk_X6_30 rfl rfl ?_
    refine g_iload_n (i := 1) (q := 40) dX6_carryOut_39 rfl rfl rfl ?_
    refine g_fnV (as := [zI o]) (q := 43) (u' := 0) dX6_carryOut_40 rfl ck_X6_319 rfl rfl rfl (Nat.le_of_ble_eq_true rfl) (by decide) rfl (by decide) (s_X4_putOff hc h60 (by omega) (by omega) (by omega) (by omega)) rfl ?_
    refine g_goto (q := 0) (t := 131) dX6_carryOut_43 (by decide) ?_
    exact g_retv dX6_carryOut_131 rfl (by decide) (by first | exact ⟨rfl, rfl⟩ | (exfalso; omega))
  · by_cases e2 : S.2.1 13 (S.2.1 21 o) = S.2.1 22 o
    · have e : x_co S c o = z_sA S 19 o 3 := by unfold x_co; rw [if_neg e1, if_pos e2]
      rw [e]
      refine g_aload_n (i := 0) (q := 1) dX6_carryOut_0 rfl rfl rfl ?_
      refine g_getr (q := 4) dX6_carryOut_1 rfl fk_X6_30 rfl rfl ?_
      refine g_getr (q := 7) dX6_carryOut_4 rfl fk_X6_207 rfl rfl ?_
      refine g_iload_n (i := 1) (q := 8) dX6_carryOut_7 rfl rfl rfl ?_
      refine g_ildv (q := 9) (z := S.2.1 21 o) dX6_carryOut_8 rfl ⟨by decide, rfl, rfl⟩ (by omega) (by omega) rfl ?_
      refine g_istore_n (i := 2) (q := 10) dX6_carryOut_9 rfl rfl (by decide) ?_
      refine g_aload_n (i := 0) (q := 11) dX6_carryOut_10 rfl rfl rfl ?_
      refine g_getr (q := 14) dX6_carryOut_11 rfl fk_X6_30 rfl rfl ?_
      refine g_getr (q := 17) dX6_carryOut_14 rfl fk_X6_213 rfl rfl ?_
      refine g_iload_n (i := 1) (q := 18) dX6_carryOut_17 rfl rfl rfl ?_
      refine g_ildv (q := 19) (z := S.2.1 22 o) dX6_carryOut_18 rfl ⟨by decide, rfl, rfl⟩ (by omega) (by omega) rfl ?_
      refine g_istore_n (i := 3) (q := 20) dX6_carryOut_19 rfl rfl (by decide) ?_
      refine g_aload_n (i := 0) (q := 21) dX6_carryOut_20 rfl rfl rfl ?_
      refine g_getr (q := 24) dX6_carryOut_21 rfl fk_X6_23 rfl rfl ?_
      refine g_iload_n (i := 2) (q := 25) dX6_carryOut_24 rfl rfl rfl ?_
      refine g_aload_n (i := 0) (q := 26) dX6_carryOut_25 rfl rfl rfl ?_
      refine g_getv (q := 29) (z := S.1 0) dX6_carryOut_26 rfl fk_X6_55 rfl rfl rfl ?_
      refine g_fnV (as := [zI (S.2.1 21 o), zI (S.1 0)]) (q := 32) (u' := 0) dX6_carryOut_29 rfl ck_X6_256 rfl rfl rfl (Nat.le_of_ble_eq_true rfl) (by decide) rfl (by decide) (s_X1_mayBeCalledBack_f (by omega) e1) rfl ?_
      refine g_if_eq (t := 46) (q := 35) dX6_carryOut_32 (by decide) rfl (fun h32 => ?_) (fun h32 => (False.elim (by omega)))
      refine g_aload_n (i := 0) (q := 47) dX6_carryOut_46 rfl rfl rfl ?_
      refine g_getr (q := 50) dX6_carryOut_47 rfl fk_X6_23 rfl rfl ?_
      refine g_getr (q := 53) dX6_carryOut_50 rfl fk_X6_129 rfl rfl ?_
      refine g_iload_n (i := 2) (q := 54) dX6_carryOut_53 rfl rfl rfl ?_
      refine g_ildv (q := 55) (z := S.2.1 13 (S.2.1 21 o)) dX6_carryOut_54 rfl ⟨by decide, rfl, rfl⟩ (by omega) (by omega) rfl ?_
      refine g_iload_n (i := 3) (q := 56) dX6_carryOut_55 rfl rfl rfl ?_
      refine g_icmp_ne (t := 72) (q := 59) dX6_carryOut_56 (by decide) rfl (fun h56 => (False.elim (by omega))) (fun h56 => ?_)
      refine g_aload_n (i := 0) (q := 60) dX6_carryOut_59 rfl rfl rfl ?_
      refine g_getr (q := 63) dX6_carryOut_60 rfl fk_X6_30 rfl rfl ?_
      refine g_getr (q := 66) dX6_carryOut_63 rfl fk_X6_187 rfl rfl ?_
      refine g_iload_n (i := 1) (q := 67) dX6_carryOut_66 rfl rfl rfl ?_
      refine g_iconst (q := 68) dX6_carryOut_67 rfl ⟨by decide, by decide⟩ ?_
      refine g_iast (q := 69) dX6_carryOut_68 rfl ⟨by decide, rfl, rfl⟩ (by omega) (by omega) ?_
      refine g_goto (q := 0) (t := 131) dX6_carryOut_69 (by decide) ?_
      exact g_retv dX6_carryOut_131 rfl (by decide) (by first | exact ⟨rfl, rfl⟩ | (exfalso; omega))
    · have e : x_co S c o = x_pay (z_sA (x_mv (z_sA (z_sA S 19 o 2) 23 o (S.2.1 13 (S.2.1 21 o))) (S.2.1 21 o) (S.2.1 22 o)) 18 (S.2.1 21 o) o) (S.2.1 22 o) (S.2.1 13 (S.2.1 21 o)) 5 := by unfold x_co; rw [if_neg e1, if_neg e2]
      rw [e] at h2 h3 ⊢
      have h21 : S.1 2 + 1 ≤ 600 := h2
      have h31 : S.1 3 + 1 ≤ 572 := h3
      refine g_aload_n (i := 0) (q := 1) dX6_carryOut_0 rfl rfl rfl ?_
      refine g_getr (q := 4) dX6_carryOut_1 rfl fk_X6_30 rfl rfl ?_
      refine g_getr (q := 7) dX6_carryOut_4 rfl fk_X6_207 rfl rfl ?_
      refine g_iload_n (i := 1) (q := 8) dX6_carryOut_7 rfl rfl rfl ?_
      refine g_ildv (q := 9) (z := S.2.1 21 o) dX6_carryOut_8 rfl ⟨by decide, rfl, rfl⟩ (by omega) (by omega) rfl ?_
      refine g_istore_n (i := 2) (q := 10) dX6_carryOut_9 rfl rfl (by decide) ?_
      refine g_aload_n (i := 0) (q := 11) dX6_carryOut_10 rfl rfl rfl ?_
      refine g_getr (q := 14) dX6_carryOut_11 rfl fk_X6_30 rfl rfl ?_
      refine g_getr (q := 17) dX6_carryOut_14 rfl fk_X6_213 rfl rfl ?_
      refine g_iload_n (i := 1) (q := 18) dX6_carryOut_17 rfl rfl rfl ?_
      refine g_ildv (q := 19) (z := S.2.1 22 o) dX6_carryOut_18 rfl ⟨by decide, rfl, rfl⟩ (by omega) (by omega) rfl ?_
      refine g_istore_n (i := 3) (q := 20) dX6_carryOut_19 rfl rfl (by decide) ?_
      refine g_aload_n (i := 0) (q := 21) dX6_carryOut_20 rfl rfl rfl ?_
      refine g_getr (q := 24) dX6_carryOut_21 rfl fk_X6_23 rfl rfl ?_
      refine g_iload_n (i := 2) (q := 25) dX6_carryOut_24 rfl rfl rfl ?_
      refine g_aload_n (i := 0) (q := 26) dX6_carryOut_25 rfl rfl rfl ?_
      refine g_getv (q := 29) (z := S.1 0) dX6_carryOut_26 rfl fk_X6_55 rfl rfl rfl ?_
      refine g_fnV (as := [zI (S.2.1 21 o), zI (S.1 0)]) (q := 32) (u' := 0) dX6_carryOut_29 rfl ck_X6_256 rfl rfl rfl (Nat.le_of_ble_eq_true rfl) (by decide) rfl (by decide) (s_X1_mayBeCalledBack_f (by omega) e1) rfl ?_
      refine g_if_eq (t := 46) (q := 35) dX6_carryOut_32 (by decide) rfl (fun h32 => ?_) (fun h32 => (False.elim (by omega)))
      refine g_aload_n (i := 0) (q := 47) dX6_carryOut_46 rfl rfl rfl ?_
      refine g_getr (q := 50) dX6_carryOut_47 rfl fk_X6_23 rfl rfl ?_
      refine g_getr (q := 53) dX6_carryOut_50 rfl fk_X6_129 rfl rfl ?_
      refine g_iload_n (i := 2) (q := 54) dX6_carryOut_53 rfl rfl rfl ?_
      refine g_ildv (q := 55) (z := S.2.1 13 (S.2.1 21 o)) dX6_carryOut_54 rfl ⟨by decide, rfl, rfl⟩ (by omega) (by omega) rfl ?_
      refine g_iload_n (i := 3) (q := 56) dX6_carryOut_55 rfl rfl rfl ?_
      refine g_icmp_ne (t := 72) (q := 59) dX6_carryOut_56 (by decide) rfl (fun h56 => ?_) (fun h56 => (False.elim (by omega)))
      refine g_aload_n (i := 0) (q := 73) dX6_carryOut_72 rfl rfl rfl ?_
      refine g_getr (q := 76) dX6_carryOut_73 rfl fk_X6_23 rfl rfl ?_
      refine g_getr (q := 79) dX6_carryOut_76 rfl fk_X6_129 rfl rfl ?_
      refine g_iload_n (i := 2) (q := 80) dX6_carryOut_79 rfl rfl rfl ?_
      refine g_ildv (q := 81) (z := S.2.1 13 (S.2.1 21 o)) dX6_carryOut_80 rfl ⟨by decide, rfl, rfl⟩ (by omega) (by omega) rfl ?_
      refine g_istore (q := 83) dX6_carryOut_81 rfl (by decide) ?_
      refine g_aload_n (i := 0) (q := 84) dX6_carryOut_83 rfl rfl rfl ?_
      refine g_getr (q := 87) dX6_carryOut_84 rfl fk_X6_30 rfl rfl ?_
      refine g_getr (q := 90) dX6_carryOut_87 rfl fk_X6_187 rfl rfl ?_
      refine g_iload_n (i := 1) (q := 91) dX6_carryOut_90 rfl rfl rfl ?_
      refine g_iconst (q := 92) dX6_carryOut_91 rfl ⟨by decide, by decide⟩ ?_
      refine g_iast (q := 93) dX6_carryOut_92 rfl ⟨by decide, rfl, rfl⟩ (by omega) (by omega) ?_
      refine g_aload_n (i := 0) (q := 94) dX6_carryOut_93 rfl rfl rfl ?_
      refine g_getr (q := 97) dX6_carryOut_94 rfl fk_X6_30 rfl rfl ?_
      refine g_getr (q := 100) dX6_carryOut_97 rfl fk_X6_204 rfl rfl ?_
      refine g_iload_n (i := 1) (q := 101) dX6_carryOut_100 rfl rfl rfl ?_
      refine g_iload (q := 103) dX6_carryOut_101 rfl rfl ?_
      refine g_iast (q := 104) dX6_carryOut_103 rfl ⟨by decide, rfl, rfl⟩ (by omega) (by omega) ?_
      refine g_aload_n (i := 0) (q := 105) dX6_carryOut_104 rfl rfl rfl ?_
      refine g_iload_n (i := 2) (q := 106) dX6_carryOut_105 rfl rfl rfl ?_
      refine g_iload_n (i := 3) (q := 107) dX6_carryOut_106 rfl rfl rfl ?_
      refine g_fnV (as := [zI (S.2.1 21 o), zI (S.2.1 22 o)]) (q := 110) (u' := 0) dX6_carryOut_107 rfl ck_X6_210 rfl rfl rfl (Nat.le_of_ble_eq_true rfl) (by decide) rfl (by decide) (s_X6_moveTo (S := z_sA (z_sA S 19 o 2) 23 o (S.2.1 13 (S.2.1 21 o))) o1 (show 0 ≤ S.1 2 ∧ S.1 2 < 600 by omega) (show 0 ≤ S.1 3 ∧ S.1 3 < 572 by omega)) rfl ?_
      refine g_aload_n (i := 0) (q := 111) dX6_carryOut_110 rfl rfl rfl ?_
      refine g_getr (q := 114) dX6_carryOut_111 rfl fk_X6_23 rfl rfl ?_
      refine g_getr (q := 117) dX6_carryOut_114 rfl fk_X6_309 rfl rfl ?_
      refine g_iload_n (i := 2) (q := 118) dX6_carryOut_117 rfl rfl rfl ?_
      refine g_iload_n (i := 1) (q := 119) dX6_carryOut_118 rfl rfl rfl ?_
      refine g_iast (q := 120) dX6_carryOut_119 rfl ⟨by decide, rfl, rfl⟩ (by omega) (by omega) ?_
      refine g_aload_n (i := 0) (q := 121) dX6_carryOut_120 rfl rfl rfl ?_
      refine g_getr (q := 124) dX6_carryOut_121 rfl fk_X6_16 rfl rfl ?_
      refine g_iload_n (i := 3) (q := 125) dX6_carryOut_124 rfl rfl rfl ?_
      refine g_iload (q := 127) dX6_carryOut_125 rfl rfl ?_
      refine g_iconst (q := 128) dX6_carryOut_127 rfl ⟨by decide, by decide⟩ ?_
      refine g_fnV (as := [zI (S.2.1 22 o), zI (S.2.1 13 (S.2.1 21 o)), zI 5]) (q := 131) (u' := 0) dX6_carryOut_128 rfl ck_X6_216 rfl rfl rfl (Nat.le_of_ble_eq_true rfl) (by decide) rfl (by decide) (s_X2_pay (by omega) (by omega)) rfl ?_
      exact g_retv dX6_carryOut_131 rfl (by decide) (by first | exact ⟨rfl, rfl⟩ | (exfalso; omega))
theorem xP_co {S : zS} {c : Nat} {o : Int} (P : xP S c) (ho : 0 ≤ o ∧ o < c) (hw : S.2.1 19 o = 1) (hdue : S.2.1 24 o ≤ 9999) : xP (x_co S c o) c := by
  obtain ⟨hc, h60, hnow, hc2, hc3, hO, hN, hJ, hF⟩ := id P
  obtain ⟨o1, o2, o3, o4⟩ := hO o ho.1 ho.2
  have o5 := o4 hw
  have o6 := hN _ o1.1 o1.2
  unfold x_co
  split
  · have hp := x_po_rng (S := S) (c := c) 60 (S.2.1 24 o + 100)
    refine ⟨hc, h60, hnow, hc2, hc3, fun o' a b => ?_, hN, hJ, hF⟩
    obtain ⟨q1, q2, q3, q4⟩ := hO o' a b
    refine ⟨q1, q2, ?_, q4⟩
    rw [za_sA]
    split <;> omega
  · split
    · refine ⟨hc, h60, hnow, hc2, hc3, fun o' a b => ?_, hN, hJ, hF⟩
      obtain ⟨q1, q2, q3, q4⟩ := hO o' a b
      refine ⟨q1, q2, q3, fun h => ?_⟩
      rw [za_sA] at h
      split at h
      · omega
      · exact q4 h
    · refine ⟨hc, h60, hnow, show 0 ≤ S.1 2 + 1 by omega, show 0 ≤ S.1 3 + 1 by omega, fun o' a b => ?_, fun n a b => ?_, fun j a b => ?_, fun f a b => ?_⟩
      · obtain ⟨q1, q2, q3, q4⟩ := hO o' a b
        refine ⟨q1, q2, q3, fun h => ?_⟩
        have h' : (if o' = o then (2 : Int) else S.2.1 19 o') = 1 := by
          have : (x_pay (z_sA (x_mv (z_sA (z_sA S 19 o 2) 23 o (S.2.1 13 (S.2.1 21 o))) (S.2.1 21 o) (S.2.1 22 o)) 18 (S.2.1 21 o) o) (S.2.1 22 o) (S.2.1 13 (S.2.1 21 o)) 5).2.1 19 o' = if o' = o then (2 : Int) else S.2.1 19 o' := by
            simp [x_pay, x_mv, x_chg, x_note, z_sA, z_sS]
          rw [this] at h
          exact h
        split at h'
        · omega
        · have q5 := q4 h'
          have e9 : ∀ n, (x_pay (z_sA (x_mv (z_sA (z_sA S 19 o 2) 23 o (S.2.1 13 (S.2.1 21 o))) (S.2.1 21 o) (S.2.1 22 o)) 18 (S.2.1 21 o) o) (S.2.1 22 o) (S.2.1 13 (S.2.1 21 o)) 5).2.1 13 n = if n = S.2.1 21 o then S.2.1 22 o else S.2.1 13 n := by
            intro n
            simp [x_pay, x_mv, x_chg, x_note, z_sA, z_sS]
          have e10 : (x_pay (z_sA (x_mv (z_sA (z_sA S 19 o 2) 23 o (S.2.1 13 (S.2.1 21 o))) (S.2.1 21 o) (S.2.1 22 o)) 18 (S.2.1 21 o) o) (S.2.1 22 o) (S.2.1 13 (S.2.1 21 o)) 5).2.1 21 o' = S.2.1 21 o' := by
            simp [x_pay, x_mv, x_chg, x_note, z_sA, z_sS]
          rw [e10, e9]
          split <;> omega
      · have q := hN n a b
        have e9 : (x_pay (z_sA (x_mv (z_sA (z_sA S 19 o 2) 23 o (S.2.1 13 (S.2.1 21 o))) (S.2.1 21 o) (S.2.1 22 o)) 18 (S.2.1 21 o) o) (S.2.1 22 o) (S.2.1 13 (S.2.1 21 o)) 5).2.1 13 n = if n = S.2.1 21 o then S.2.1 22 o else S.2.1 13 n := by
          simp [x_pay, x_mv, x_chg, x_note, z_sA, z_sS]
        rw [e9]
        split <;> omega
      · have b2 : j < S.1 2 + 1 := b
        have e9 : (x_pay (z_sA (x_mv (z_sA (z_sA S 19 o 2) 23 o (S.2.1 13 (S.2.1 21 o))) (S.2.1 21 o) (S.2.1 22 o)) 18 (S.2.1 21 o) o) (S.2.1 22 o) (S.2.1 13 (S.2.1 21 o)) 5).2.1 26 j = if j = S.1 2 then S.2.1 21 o else S.2.1 26 j := by
          simp [x_pay, x_mv, x_chg, x_note, z_sA, z_sS]
        rw [e9]
        split
        · exact o1
        · exact hJ j a (by omega)
      · have q := hF f a b
        refine ⟨q.1, ?_, q.2.2⟩
        show S.2.1 28 f ≤ S.1 2 + 1
        omega
def x_cd (S : zS) (c : Nat) : Nat → Nat → zS
  | _, 0 => S
  | i, k + 1 => x_cd (if S.2.1 19 i = 1 ∧ S.2.1 24 i = S.1 0 then x_co S c i else S) c (i + 1) k
def x_cdn (S : zS) (c : Nat) : Nat → Nat → Int
  | _, 0 => 0
  | i, k + 1 => (if (S.2.1 19 i = 1 ∧ S.2.1 24 i = S.1 0) ∧ (x_co S c i).2.1 19 i = 2 then 1 else 0) + x_cdn (if S.2.1 19 i = 1 ∧ S.2.1 24 i = S.1 0 then x_co S c i else S) c (i + 1) k
theorem x_cd_mono {c : Nat} : ∀ (k i : Nat) (S : zS), S.1 2 ≤ (x_cd S c i k).1 2 ∧ S.1 3 ≤ (x_cd S c i k).1 3
  | 0, _, _ => ⟨Int.le_refl _, Int.le_refl _⟩
  | k + 1, i, S => by
    have h := x_cd_mono (c := c) k (i + 1) (if S.2.1 19 i = 1 ∧ S.2.1 24 i = S.1 0 then x_co S c i else S)
    rw [x_cd]
    have h2 : S.1 2 ≤ (if S.2.1 19 i = 1 ∧ S.2.1 24 i = S.1 0 then x_co S c i else S).1 2 ∧ S.1 3 ≤ (if S.2.1 19 i = 1 ∧ S.2.1 24 i = S.1 0 then x_co S c i else S).1 3 := by
      split
      · exact x_co_mono
      · exact ⟨Int.le_refl _, Int.le_refl _⟩
    exact ⟨Int.le_trans h2.1 h.1, Int.le_trans h2.2 h.2⟩
theorem l_X6_carryOutDueOrders {Q : zQ} {c : Nat} : ∀ (k i : Nat) (S : zS) (d : Int), i + k = c → xP S c → (x_cd S c i k).1 2 ≤ 600 → (x_cd S c i k).1 3 ≤ 572 → 0 ≤ d ∧ d ≤ i → Q (.ok (some (zI (d + x_cdn S c i k)))) (x_cd S c i k) → z_G mX6_carryOutDueOrders (z_F mX6_carryOutDueOrders Q) 0 4 [some (zR 0), some (zI d), some (zI (i : Int))] [] S := by
  intro k
  induction k with
  | zero =>
    intro i S d hi P h2 h3 hd hQ
    rw [x_cdn, Int.add_zero] at hQ
    have hc : S.1 1 = c := P.1
    refine g_iload_n (i := 2) (q := 5) dX6_carryOutDueOrders_4 rfl rfl rfl ?_
    refine g_aload_n (i := 0) (q := 6) dX6_carryOutDueOrders_5 rfl rfl rfl ?_
    refine g_getr (q := 9) dX6_carryOutDueOrders_6 rfl fk_X6_30 rfl rfl ?_
    refine g_getv (q := 12) (z := S.1 1) dX6_carryOutDueOrders_9 rfl fk_X6_172 rfl rfl rfl ?_
    refine g_icmp_ge (t := 71) (q := 15) dX6_carryOutDueOrders_12 (by decide) rfl (fun h12 => ?_) (fun h12 => (False.elim (by omega)))
    refine g_iload_n (i := 1) (q := 72) dX6_carryOutDueOrders_71 rfl rfl rfl ?_
    exact g_ret dX6_carryOutDueOrders_72 rfl (by decide) hQ
  | succ k ih =>
    intro i S d hi P h2 h3 hd hQ
    have hc : S.1 1 = c := P.1
    have h60 := P.2.1
    have hnow := P.2.2.1
    rw [x_cdn] at hQ
    rw [x_cd] at hQ h2 h3
    by_cases e1 : S.2.1 19 i = 1 ∧ S.2.1 24 i = S.1 0
    · rw [if_pos e1] at hQ h2 h3
      have hm := x_cd_mono (c := c) k (i + 1) (x_co S c i)
      by_cases e2 : (x_co S c i).2.1 19 i = 2
      · rw [if_pos ⟨e1, e2⟩] at hQ
        refine g_iload_n (i := 2) (q := 5) dX6_carryOutDueOrders_4 rfl rfl rfl ?_
        refine g_aload_n (i := 0) (q := 6) dX6_carryOutDueOrders_5 rfl rfl rfl ?_
        refine g_getr (q := 9) dX6_carryOutDueOrders_6 rfl fk_X6_30 rfl rfl ?_
        refine g_getv (q := 12) (z := S.1 1) dX6_carryOutDueOrders_9 rfl fk_X6_172 rfl rfl rfl ?_
        refine g_icmp_ge (t := 71) (q := 15) dX6_carryOutDueOrders_12 (by decide) rfl (fun h12 => (False.elim (by omega))) (fun h12 => ?_)
        refine g_aload_n (i := 0) (q := 16) dX6_carryOutDueOrders_15 rfl rfl rfl ?_
        refine g_getr (q := 19) dX6_carryOutDueOrders_16 rfl fk_X6_30 rfl rfl ?_
        refine g_getr (q := 22) dX6_carryOutDueOrders_19 rfl fk_X6_187 rfl rfl ?_
        refine g_iload_n (i := 2) (q := 23) dX6_carryOutDueOrders_22 rfl rfl rfl ?_
        refine g_ildv (q := 24) (z := S.2.1 19 (i : Int)) dX6_carryOutDueOrders_23 rfl ⟨by decide, rfl, rfl⟩ (by omega) (by omega) rfl ?_
        refine g_iconst (q := 25) dX6_carryOutDueOrders_24 rfl ⟨by decide, by decide⟩ ?_
        refine g_icmp_ne (t := 65) (q := 28) dX6_carryOutDueOrders_25 (by decide) rfl (fun h25 => (False.elim (by omega))) (fun h25 => ?_)
        refine g_aload_n (i := 0) (q := 29) dX6_carryOutDueOrders_28 rfl rfl rfl ?_
        refine g_getr (q := 32) dX6_carryOutDueOrders_29 rfl fk_X6_30 rfl rfl ?_
        refine g_getr (q := 35) dX6_carryOutDueOrders_32 rfl fk_X6_190 rfl rfl ?_
        refine g_iload_n (i := 2) (q := 36) dX6_carryOutDueOrders_35 rfl rfl rfl ?_
        refine g_ildv (q := 37) (z := S.2.1 24 (i : Int)) dX6_carryOutDueOrders_36 rfl ⟨by decide, rfl, rfl⟩ (by omega) (by omega) rfl ?_
        refine g_aload_n (i := 0) (q := 38) dX6_carryOutDueOrders_37 rfl rfl rfl ?_
        refine g_getv (q := 41) (z := S.1 0) dX6_carryOutDueOrders_38 rfl fk_X6_55 rfl rfl rfl ?_
        refine g_icmp_ne (t := 65) (q := 44) dX6_carryOutDueOrders_41 (by decide) rfl (fun h41 => (False.elim (by omega))) (fun h41 => ?_)
        refine g_aload_n (i := 0) (q := 45) dX6_carryOutDueOrders_44 rfl rfl rfl ?_
        refine g_iload_n (i := 2) (q := 46) dX6_carryOutDueOrders_45 rfl rfl rfl ?_
        refine g_fnV (as := [zI (i : Int)]) (q := 49) (u' := 0) dX6_carryOutDueOrders_46 rfl ck_X6_316 rfl rfl rfl (Nat.le_of_ble_eq_true rfl) (by decide) rfl (by decide) (s_X6_carryOut P (by omega) e1.1 (by omega) (by omega) (by omega)) rfl ?_
        refine g_aload_n (i := 0) (q := 50) dX6_carryOutDueOrders_49 rfl rfl rfl ?_
        refine g_getr (q := 53) dX6_carryOutDueOrders_50 rfl fk_X6_30 rfl rfl ?_
        refine g_getr (q := 56) dX6_carryOutDueOrders_53 rfl fk_X6_187 rfl rfl ?_
        refine g_iload_n (i := 2) (q := 57) dX6_carryOutDueOrders_56 rfl rfl rfl ?_
        refine g_ildv (q := 58) (z := (x_co S c i).2.1 19 (i : Int)) dX6_carryOutDueOrders_57 rfl ⟨by decide, rfl, rfl⟩ (by omega) (by omega) rfl ?_
        refine g_iconst (q := 59) dX6_carryOutDueOrders_58 rfl ⟨by decide, by decide⟩ ?_
        refine g_icmp_ne (t := 65) (q := 62) dX6_carryOutDueOrders_59 (by decide) rfl (fun h59 => (False.elim (by omega))) (fun h59 => ?_)
        refine g_iinc (q := 65) (i := 1) (n := 1) dX6_carryOutDueOrders_62 rfl rfl (by constructor <;> omega) ?_
        refine g_iinc (q := 68) (i := 2) (n := 1) dX6_carryOutDueOrders_65 rfl rfl (by constructor <;> omega) ?_
        refine g_goto (q := 0) (t := 4) dX6_carryOutDueOrders_68 (by decide) ?_
        exact ih (i + 1) _ _ (by omega) (xP_co P (by omega) e1.1 (by omega)) h2 h3 (by omega) (by rw [Int.add_assoc]; exact hQ)
      · rw [if_neg (fun q => e2 q.2), Int.zero_add] at hQ
        refine g_iload_n (i := 2) (q := 5) dX6_carryOutDueOrders_4 rfl rfl rfl ?_
        refine g_aload_n (i := 0) (q := 6) dX6_carryOutDueOrders_5 rfl rfl rfl ?_
        refine g_getr (q := 9) dX6_carryOutDueOrders_6 rfl fk_X6_30 rfl rfl ?_
        refine g_getv (q := 12) (z := S.1 1) dX6_carryOutDueOrders_9 rfl fk_X6_172 rfl rfl rfl ?_
        refine g_icmp_ge (t := 71) (q := 15) dX6_carryOutDueOrders_12 (by decide) rfl (fun h12 => (False.elim (by omega))) (fun h12 => ?_)
        refine g_aload_n (i := 0) (q := 16) dX6_carryOutDueOrders_15 rfl rfl rfl ?_
        refine g_getr (q := 19) dX6_carryOutDueOrders_16 rfl fk_X6_30 rfl rfl ?_
        refine g_getr (q := 22) dX6_carryOutDueOrders_19 rfl fk_X6_187 rfl rfl ?_
        refine g_iload_n (i := 2) (q := 23) dX6_carryOutDueOrders_22 rfl rfl rfl ?_
        refine g_ildv (q := 24) (z := S.2.1 19 (i : Int)) dX6_carryOutDueOrders_23 rfl ⟨by decide, rfl, rfl⟩ (by omega) (by omega) rfl ?_
        refine g_iconst (q := 25) dX6_carryOutDueOrders_24 rfl ⟨by decide, by decide⟩ ?_
        refine g_icmp_ne (t := 65) (q := 28) dX6_carryOutDueOrders_25 (by decide) rfl (fun h25 => (False.elim (by omega))) (fun h25 => ?_)
        refine g_aload_n (i := 0) (q := 29) dX6_carryOutDueOrders_28 rfl rfl rfl ?_
        refine g_getr (q := 32) dX6_carryOutDueOrders_29 rfl fk_X6_30 rfl rfl ?_
        refine g_getr (q := 35) dX6_carryOutDueOrders_32 rfl fk_X6_190 rfl rfl ?_
        refine g_iload_n (i := 2) (q := 36) dX6_carryOutDueOrders_35 rfl rfl rfl ?_
        refine g_ildv (q := 37) (z := S.2.1 24 (i : Int)) dX6_carryOutDueOrders_36 rfl ⟨by decide, rfl, rfl⟩ (by omega) (by omega) rfl ?_
        refine g_aload_n (i := 0) (q := 38) dX6_carryOutDueOrders_37 rfl rfl rfl ?_
        refine g_getv (q := 41) (z := S.1 0) dX6_carryOutDueOrders_38 rfl fk_X6_55 rfl rfl rfl ?_
        refine g_icmp_ne (t := 65) (q := 44) dX6_carryOutDueOrders_41 (by decide) rfl (fun h41 => (False.elim (by omega))) (fun h41 => ?_)
        refine g_aload_n (i := 0) (q := 45) dX6_carryOutDueOrders_44 rfl rfl rfl ?_
        refine g_iload_n (i := 2) (q := 46) dX6_carryOutDueOrders_45 rfl rfl rfl ?_
        refine g_fnV (as := [zI (i : Int)]) (q := 49) (u' := 0) dX6_carryOutDueOrders_46 rfl ck_X6_316 rfl rfl rfl (Nat.le_of_ble_eq_true rfl) (by decide) rfl (by decide) (s_X6_carryOut P (by omega) e1.1 (by omega) (by omega) (by omega)) rfl ?_
        refine g_aload_n (i := 0) (q := 50) dX6_carryOutDueOrders_49 rfl rfl rfl ?_
        refine g_getr (q := 53) dX6_carryOutDueOrders_50 rfl fk_X6_30 rfl rfl ?_
        refine g_getr (q := 56) dX6_carryOutDueOrders_53 rfl fk_X6_187 rfl rfl ?_
        refine g_iload_n (i := 2) (q := 57) dX6_carryOutDueOrders_56 rfl rfl rfl ?_
        refine g_ildv (q := 58) (z := (x_co S c i).2.1 19 (i : Int)) dX6_carryOutDueOrders_57 rfl ⟨by decide, rfl, rfl⟩ (by omega) (by omega) rfl ?_
        refine g_iconst (q := 59) dX6_carryOutDueOrders_58 rfl ⟨by decide, by decide⟩ ?_
        refine g_icmp_ne (t := 65) (q := 62) dX6_carryOutDueOrders_59 (by decide) rfl (fun h59 => ?_) (fun h59 => (False.elim (by omega)))
        refine g_iinc (q := 68) (i := 2) (n := 1) dX6_carryOutDueOrders_65 rfl rfl (by constructor <;> omega) ?_
        refine g_goto (q := 0) (t := 4) dX6_carryOutDueOrders_68 (by decide) ?_
        exact ih (i + 1) _ _ (by omega) (xP_co P (by omega) e1.1 (by omega)) h2 h3 (by omega) hQ
    · rw [if_neg e1] at hQ h2 h3
      rw [if_neg (fun q => e1 q.1), Int.zero_add] at hQ
      refine g_iload_n (i := 2) (q := 5) dX6_carryOutDueOrders_4 rfl rfl rfl ?_
      refine g_aload_n (i := 0) (q := 6) dX6_carryOutDueOrders_5 rfl rfl rfl ?_
      refine g_getr (q := 9) dX6_carryOutDueOrders_6 rfl fk_X6_30 rfl rfl ?_
      refine g_getv (q := 12) (z := S.1 1) dX6_carryOutDueOrders_9 rfl fk_X6_172 rfl rfl rfl ?_
      refine g_icmp_ge (t := 71) (q := 15) dX6_carryOutDueOrders_12 (by decide) rfl (fun h12 => (False.elim (by omega))) (fun h12 => ?_)
      refine g_aload_n (i := 0) (q := 16) dX6_carryOutDueOrders_15 rfl rfl rfl ?_
      refine g_getr (q := 19) dX6_carryOutDueOrders_16 rfl fk_X6_30 rfl rfl ?_
      refine g_getr (q := 22) dX6_carryOutDueOrders_19 rfl fk_X6_187 rfl rfl ?_
      refine g_iload_n (i := 2) (q := 23) dX6_carryOutDueOrders_22 rfl rfl rfl ?_
      refine g_ildv (q := 24) (z := S.2.1 19 (i : Int)) dX6_carryOutDueOrders_23 rfl ⟨by decide, rfl, rfl⟩ (by omega) (by omega) rfl ?_
      refine g_iconst (q := 25) dX6_carryOutDueOrders_24 rfl ⟨by decide, by decide⟩ ?_
      refine g_icmp_ne (t := 65) (q := 28) dX6_carryOutDueOrders_25 (by decide) rfl (fun h25 => ?_) (fun h25 => ?_)
      · refine g_iinc (q := 68) (i := 2) (n := 1) dX6_carryOutDueOrders_65 rfl rfl (by constructor <;> omega) ?_
        refine g_goto (q := 0) (t := 4) dX6_carryOutDueOrders_68 (by decide) ?_
        exact ih (i + 1) _ _ (by omega) P h2 h3 (by omega) hQ
      · refine g_aload_n (i := 0) (q := 29) dX6_carryOutDueOrders_28 rfl rfl rfl ?_
        refine g_getr (q := 32) dX6_carryOutDueOrders_29 rfl fk_X6_30 rfl rfl ?_
        refine g_getr (q := 35) dX6_carryOutDueOrders_32 rfl fk_X6_190 rfl rfl ?_
        refine g_iload_n (i := 2) (q := 36) dX6_carryOutDueOrders_35 rfl rfl rfl ?_
        refine g_ildv (q := 37) (z := S.2.1 24 (i : Int)) dX6_carryOutDueOrders_36 rfl ⟨by decide, rfl, rfl⟩ (by omega) (by omega) rfl ?_
        refine g_aload_n (i := 0) (q := 38) dX6_carryOutDueOrders_37 rfl rfl rfl ?_
        refine g_getv (q := 41) (z := S.1 0) dX6_carryOutDueOrders_38 rfl fk_X6_55 rfl rfl rfl ?_
        refine g_icmp_ne (t := 65) (q := 44) dX6_carryOutDueOrders_41 (by decide) rfl (fun h41 => ?_) (fun h41 => ?_)
        · refine g_iinc (q := 68) (i := 2) (n := 1) dX6_carryOutDueOrders_65 rfl rfl (by constructor <;> omega) ?_
          refine g_goto (q := 0) (t := 4) dX6_carryOutDueOrders_68 (by decide) ?_
          exact ih (i + 1) _ _ (by omega) P h2 h3 (by omega) hQ
        · exact absurd ⟨by omega, by omega⟩ e1
theorem s_X6_carryOutDueOrders {S : zS} {c : Nat} (P : xP S c) (h2 : (x_cd S c 0 c).1 2 ≤ 600) (h3 : (x_cd S c 0 c).1 3 ≤ 572) : z_Fn mX6_carryOutDueOrders [zR 0] S (some (zI (x_cdn S c 0 c))) (x_cd S c 0 c) := by
  refine z_enter (by decide +kernel) rfl (z_n1 trivial z_n0) (Nat.le_of_ble_eq_true rfl) ?_
  refine g_iconst (q := 1) dX6_carryOutDueOrders_0 rfl ⟨by decide, by decide⟩ ?_
  refine g_istore_n (i := 1) (q := 2) dX6_carryOutDueOrders_1 rfl rfl (by decide) ?_
  refine g_iconst (q := 3) dX6_carryOutDueOrders_2 rfl ⟨by decide, by decide⟩ ?_
  refine g_istore_n (i := 2) (q := 4) dX6_carryOutDueOrders_3 rfl rfl (by decide) ?_
  exact l_X6_carryOutDueOrders c 0 S 0 (by omega) P h2 h3 (by omega) ⟨by rw [Int.zero_add], rfl⟩
theorem x_cdn_rng {c : Nat} : ∀ (k i : Nat) (S : zS), 0 ≤ x_cdn S c i k ∧ x_cdn S c i k ≤ k
  | 0, _, _ => by simp [x_cdn]
  | k + 1, i, S => by
    have h := x_cdn_rng (c := c) k (i + 1) (if S.2.1 19 i = 1 ∧ S.2.1 24 i = S.1 0 then x_co S c i else S)
    rw [x_cdn]
    split <;> omega
theorem xP_cd {c : Nat} : ∀ (k i : Nat) (S : zS), i + k = c → xP S c → xP (x_cd S c i k) c
  | 0, _, _, _, P => P
  | k + 1, i, S, hi, P => by
    rw [x_cd]
    refine xP_cd k (i + 1) _ (by omega) ?_
    split
    · next e1 => exact xP_co P (by omega) e1.1 (by have := P.2.2.1; omega)
    · exact P
/-- what a firm learns as a minute goes by -/
def x_li1 (S : zS) (c2 : Nat) (f : Int) : zS := if S.2.1 10 f = 0 then x_lu S f (S.1 0 - S.2.1 11 f) (S.2.1 28 f).toNat (c2 - (S.2.1 28 f).toNat) else S
def x_li (S : zS) (c2 : Nat) : Nat → Nat → zS
  | _, 0 => S
  | i, k + 1 => x_li (x_li1 S c2 i) c2 (i + 1) k
/-- a table's learning touches that firm's table and how far it is -/
theorem x_lu_fr {f m : Int} : ∀ (k a : Nat) (S : zS), (∀ i, (x_lu S f m a k).1 i = S.1 i) ∧ (∀ q j, q ≠ 28 → q ≠ 30 + f.toNat → (x_lu S f m a k).2.1 q j = S.2.1 q j) ∧ (∀ j, j ≠ f → (x_lu S f m a k).2.1 28 j = S.2.1 28 j) ∧ ((a : Int) ≤ (x_lu S f m a k).2.1 28 f ∧ (x_lu S f m a k).2.1 28 f ≤ a + k) ∧ (x_lu S f m a k).2.2 = S.2.2
  | 0, a, S => by
    rw [x_lu]
    refine ⟨fun i => rfl, fun q j h1 h2 => za_ne h1, fun j h => za_ni h, ?_, rfl⟩
    rw [za_eq]
    omega
  | k + 1, a, S => by
    rw [x_lu]
    split
    · obtain ⟨h1, h2, h3, h4, h5⟩ := x_lu_fr (f := f) (m := m) k (a + 1) (z_sA S (30 + f.toNat) (S.2.1 26 a) (S.2.1 27 a))
      refine ⟨fun i => h1 i, fun q j a1 a2 => by rw [h2 q j a1 a2, za_ne a2], fun j h => by rw [h3 j h, za_ne (by omega)], ⟨by omega, by omega⟩, h5⟩
    · refine ⟨fun i => rfl, fun q j h1 h2 => za_ne h1, fun j h => za_ni h, ?_, rfl⟩
      rw [za_eq]
      omega
theorem xP_li1 {S : zS} {c c2 : Nat} {f : Int} (P : xP S c) (hc2 : S.1 2 = c2) (hf : 0 ≤ f ∧ f < 6) : xP (x_li1 S c2 f) c ∧ (x_li1 S c2 f).1 = S.1 := by
  unfold x_li1
  split
  · obtain ⟨hc, h60, hnow, hc2', hc3, hO, hN, hJ, hF⟩ := P
    have hff := hF f hf.1 hf.2
    obtain ⟨a1, a2, a3, a4, -⟩ := x_lu_fr (f := f) (m := S.1 0 - S.2.1 11 f) (c2 - (S.2.1 28 f).toNat) (S.2.1 28 f).toNat S
    generalize x_lu S f (S.1 0 - S.2.1 11 f) (S.2.1 28 f).toNat (c2 - (S.2.1 28 f).toNat) = T at a1 a2 a3 a4
    refine ⟨⟨by rw [a1]; exact hc, h60, by rw [a1]; exact hnow, by rw [a1]; exact hc2', by rw [a1]; exact hc3, fun o x y => ?_, fun n x y => ?_, fun j x y => ?_, fun g x y => ?_⟩, funext a1⟩
    · rw [a2 21 o (by omega) (by omega), a2 22 o (by omega) (by omega), a2 24 o (by omega) (by omega), a2 19 o (by omega) (by omega), a2 13 _ (by omega) (by omega)]
      exact hO o x y
    · rw [a2 13 n (by omega) (by omega)]
      exact hN n x y
    · rw [a1] at y
      rw [a2 26 j (by omega) (by omega)]
      exact hJ j x y
    · rw [a1, a2 11 g (by omega) (by omega)]
      have hg := hF g x y
      by_cases hgf : g = f
      · subst hgf
        exact ⟨by omega, by omega, hg.2.2⟩
      · rw [a3 g hgf]
        exact hg
  · exact ⟨P, rfl⟩
theorem l_X6_learnInTime {Q : zQ} {c c2 : Nat} (h6 : c2 ≤ 600) : ∀ (k i : Nat) (S : zS), i + k = 6 → xP S c → S.1 2 = c2 → Q (.ok none) (x_li S c2 i k) → z_G mX6_learnInTime (z_F mX6_learnInTime Q) 0 2 [some (zR 0), some (zI (i : Int))] [] S := by
  intro k
  induction k with
  | zero =>
    intro i S hi P hc2 hQ
    refine g_iload_n (i := 1) (q := 3) dX6_learnInTime_2 rfl rfl rfl ?_
    refine g_bipush (q := 5) dX6_learnInTime_3 rfl ⟨by decide, by decide⟩ (by decide) ?_
    refine g_icmp_ge (t := 48) (q := 8) dX6_learnInTime_5 (by decide) rfl (fun h5 => ?_) (fun h5 => (False.elim (by omega)))
    exact g_retv dX6_learnInTime_48 rfl (by decide) hQ
  | succ k ih =>
    intro i S hi P hc2 hQ
    rw [x_li] at hQ
    have hP1 := xP_li1 P hc2 (f := (i : Int)) (by omega)
    have hff := P.2.2.2.2.2.2.2.2 (i : Int) (by omega) (by omega)
    have hnow := P.2.2.1
    have hnx := ih (i + 1) (x_li1 S c2 i) (by omega) hP1.1 (by rw [hP1.2]; exact hc2) hQ
    have hJ := P.2.2.2.2.2.2.2.1
    by_cases e1 : S.2.1 10 i = 0
    · have e : x_li1 S c2 i = x_lu S i (S.1 0 - S.2.1 11 i) (S.2.1 28 i).toNat (c2 - (S.2.1 28 i).toNat) := by unfold x_li1; rw [if_pos e1]
      rw [e] at hnx
      refine g_iload_n (i := 1) (q := 3) dX6_learnInTime_2 rfl rfl rfl ?_
      refine g_bipush (q := 5) dX6_learnInTime_3 rfl ⟨by decide, by decide⟩ (by decide) ?_
      refine g_icmp_ge (t := 48) (q := 8) dX6_learnInTime_5 (by decide) rfl (fun h5 => (False.elim (by omega))) (fun h5 => ?_)
      refine g_aload_n (i := 0) (q := 9) dX6_learnInTime_8 rfl rfl rfl ?_
      refine g_getr (q := 12) dX6_learnInTime_9 rfl fk_X6_16 rfl rfl ?_
      refine g_getr (q := 15) dX6_learnInTime_12 rfl fk_X6_234 rfl rfl ?_
      refine g_iload_n (i := 1) (q := 16) dX6_learnInTime_15 rfl rfl rfl ?_
      refine g_zldv (q := 17) (z := S.2.1 10 (i : Int)) dX6_learnInTime_16 rfl ⟨by decide, rfl, rfl⟩ (by omega) (by omega) rfl ?_
      refine g_if_ne (t := 42) (q := 20) dX6_learnInTime_17 (by decide) rfl (fun h17 => (False.elim (by omega))) (fun h17 => ?_)
      refine g_aload_n (i := 0) (q := 21) dX6_learnInTime_20 rfl rfl rfl ?_
      refine g_getr (q := 24) dX6_learnInTime_21 rfl fk_X6_37 rfl rfl ?_
      refine g_iload_n (i := 1) (q := 25) dX6_learnInTime_24 rfl rfl rfl ?_
      refine g_aload_n (i := 0) (q := 26) dX6_learnInTime_25 rfl rfl rfl ?_
      refine g_getv (q := 29) (z := S.1 0) dX6_learnInTime_26 rfl fk_X6_55 rfl rfl rfl ?_
      refine g_aload_n (i := 0) (q := 30) dX6_learnInTime_29 rfl rfl rfl ?_
      refine g_getr (q := 33) dX6_learnInTime_30 rfl fk_X6_16 rfl rfl ?_
      refine g_getr (q := 36) dX6_learnInTime_33 rfl fk_X6_231 rfl rfl ?_
      refine g_iload_n (i := 1) (q := 37) dX6_learnInTime_36 rfl rfl rfl ?_
      refine g_ildv (q := 38) (z := S.2.1 11 (i : Int)) dX6_learnInTime_37 rfl ⟨by decide, rfl, rfl⟩ (by omega) (by omega) rfl ?_
      refine g_isub (q := 39) dX6_learnInTime_38 rfl (by constructor <;> omega) ?_
      refine g_fnV (as := [zI (i : Int), zI ((S.1 0) - (S.2.1 11 (i : Int)))]) (q := 42) (u' := 0) dX6_learnInTime_39 rfl ck_X6_322 rfl rfl rfl (Nat.le_of_ble_eq_true rfl) (by decide) rfl (by decide) (s_X0_learnUpTo (a := (S.2.1 28 i).toNat) (by omega) hc2 h6 (by omega) (by omega) (fun j hj => hJ j (by omega) (by omega))) rfl ?_
      refine g_iinc (q := 45) (i := 1) (n := 1) dX6_learnInTime_42 rfl rfl (by constructor <;> omega) ?_
      refine g_goto (q := 0) (t := 2) dX6_learnInTime_45 (by decide) ?_
      exact hnx
    · have e : x_li1 S c2 i = S := by unfold x_li1; rw [if_neg e1]
      rw [e] at hnx
      refine g_iload_n (i := 1) (q := 3) dX6_learnInTime_2 rfl rfl rfl ?_
      refine g_bipush (q := 5) dX6_learnInTime_3 rfl ⟨by decide, by decide⟩ (by decide) ?_
      refine g_icmp_ge (t := 48) (q := 8) dX6_learnInTime_5 (by decide) rfl (fun h5 => (False.elim (by omega))) (fun h5 => ?_)
      refine g_aload_n (i := 0) (q := 9) dX6_learnInTime_8 rfl rfl rfl ?_
      refine g_getr (q := 12) dX6_learnInTime_9 rfl fk_X6_16 rfl rfl ?_
      refine g_getr (q := 15) dX6_learnInTime_12 rfl fk_X6_234 rfl rfl ?_
      refine g_iload_n (i := 1) (q := 16) dX6_learnInTime_15 rfl rfl rfl ?_
      refine g_zldv (q := 17) (z := S.2.1 10 (i : Int)) dX6_learnInTime_16 rfl ⟨by decide, rfl, rfl⟩ (by omega) (by omega) rfl ?_
      refine g_if_ne (t := 42) (q := 20) dX6_learnInTime_17 (by decide) rfl (fun h17 => ?_) (fun h17 => (False.elim (by omega)))
      refine g_iinc (q := 45) (i := 1) (n := 1) dX6_learnInTime_42 rfl rfl (by constructor <;> omega) ?_
      refine g_goto (q := 0) (t := 2) dX6_learnInTime_45 (by decide) ?_
      exact hnx
theorem s_X6_learnInTime {S : zS} {c c2 : Nat} (h6 : c2 ≤ 600) (P : xP S c) (hc2 : S.1 2 = c2) : z_Fn mX6_learnInTime [zR 0] S none (x_li S c2 0 6) := by
  refine z_enter (by decide +kernel) rfl (z_n1 trivial z_n0) (Nat.le_of_ble_eq_true rfl) ?_
  refine g_iconst (q := 1) dX6_learnInTime_0 rfl ⟨by decide, by decide⟩ ?_
  refine g_istore_n (i := 1) (q := 2) dX6_learnInTime_1 rfl rfl (by decide) ?_
  exact l_X6_learnInTime h6 6 0 S (by omega) P hc2 ⟨rfl, rfl⟩
theorem xP_li {c c2 : Nat} : ∀ (k i : Nat) (S : zS), i + k = 6 → xP S c → S.1 2 = c2 → xP (x_li S c2 i k) c ∧ (x_li S c2 i k).1 = S.1
  | 0, _, _, _, P, _ => ⟨P, rfl⟩
  | k + 1, i, S, hi, P, hc2 => by
    rw [x_li]
    have h1 := xP_li1 P hc2 (f := (i : Int)) (by omega)
    have h2 := xP_li (c := c) (c2 := c2) k (i + 1) (x_li1 S c2 i) (by omega) h1.1 (by rw [h1.2]; exact hc2)
    exact ⟨h2.1, h2.2.trans h1.2⟩
/-- one minute -/
def x_min (S : zS) (c : Nat) : zS := x_li (x_cd (z_sS S 0 (S.1 0 + 1)) c 0 c) ((x_cd (z_sS S 0 (S.1 0 + 1)) c 0 c).1 2).toNat 0 6
def x_minn (S : zS) (c : Nat) : Int := x_cdn (z_sS S 0 (S.1 0 + 1)) c 0 c
def x_ps (S : zS) (c : Nat) : Nat → zS
  | 0 => S
  | k + 1 => x_ps (x_min S c) c k
def x_psn (S : zS) (c : Nat) : Nat → Int
  | 0 => 0
  | k + 1 => x_minn S c + x_psn (x_min S c) c k
theorem xP_tick {S : zS} {c : Nat} (P : xP S c) (h : S.1 0 < 9999) : xP (z_sS S 0 (S.1 0 + 1)) c := by
  obtain ⟨hc, h60, hnow, hc2', hc3, hO, hN, hJ, hF⟩ := P
  exact ⟨hc, h60, show 0 ≤ S.1 0 + 1 ∧ S.1 0 + 1 ≤ 9999 by omega, hc2', hc3, hO, hN, hJ, hF⟩
theorem xP_min {S : zS} {c : Nat} (P : xP S c) (h : S.1 0 < 9999) : xP (x_min S c) c ∧ (x_min S c).1 2 = (x_cd (z_sS S 0 (S.1 0 + 1)) c 0 c).1 2 ∧ (x_min S c).1 3 = (x_cd (z_sS S 0 (S.1 0 + 1)) c 0 c).1 3 ∧ (x_min S c).1 0 = (x_cd (z_sS S 0 (S.1 0 + 1)) c 0 c).1 0 := by
  have h1 := xP_cd c 0 _ (by omega) (xP_tick P h)
  have h2 := xP_li (c := c) 6 0 _ (by omega) h1 (c2 := ((x_cd (z_sS S 0 (S.1 0 + 1)) c 0 c).1 2).toNat) (by have := h1.2.2.2.1; omega)
  exact ⟨h2.1, congrFun h2.2 2, congrFun h2.2 3, congrFun h2.2 0⟩
theorem x_co_now {S : zS} {c : Nat} {o : Int} : (x_co S c o).1 0 = S.1 0 := by
  unfold x_co
  split
  · rfl
  · split <;> rfl
theorem x_cd_now {c : Nat} : ∀ (k i : Nat) (S : zS), (x_cd S c i k).1 0 = S.1 0
  | 0, _, _ => rfl
  | k + 1, i, S => by
    rw [x_cd, x_cd_now k (i + 1)]
    split
    · exact x_co_now
    · rfl
theorem x_min_now {S : zS} {c : Nat} (P : xP S c) (h : S.1 0 < 9999) : (x_min S c).1 0 = S.1 0 + 1 := by
  rw [(xP_min P h).2.2.2, x_cd_now]
  rfl
theorem x_ps_mono {c : Nat} : ∀ (k : Nat) (S : zS), xP S c → S.1 0 + k ≤ 9999 → S.1 2 ≤ (x_ps S c k).1 2 ∧ S.1 3 ≤ (x_ps S c k).1 3
  | 0, _, _, _ => ⟨Int.le_refl _, Int.le_refl _⟩
  | k + 1, S, P, h => by
    have hm := xP_min P (by omega)
    have h1 := x_ps_mono k (x_min S c) hm.1 (by rw [x_min_now P (by omega)]; omega)
    have h2 := x_cd_mono (c := c) c 0 (z_sS S 0 (S.1 0 + 1))
    rw [x_ps]
    exact ⟨Int.le_trans h2.1 (by rw [← hm.2.1]; exact h1.1), Int.le_trans h2.2 (by rw [← hm.2.2.1]; exact h1.2)⟩
theorem l_X6_pass {Q : zQ} {c : Nat} {m : Nat} (hm : m ≤ 100) : ∀ (k i : Nat) (S : zS) (d : Int), i + k = m → xP S c → S.1 0 + k ≤ 9999 → (x_ps S c k).1 2 ≤ 600 → (x_ps S c k).1 3 ≤ 572 → 0 ≤ d ∧ d ≤ i * 60 → Q (.ok (some (zI (d + x_psn S c k)))) (x_ps S c k) → z_G mX6_pass (z_F mX6_pass Q) 0 47 [some (zR 0), some (zI (m : Int)), some (zI d), some (zI (i : Int))] [] S := by
  intro k
  induction k with
  | zero =>
    intro i S d hi P hn h2 h3 hd hQ
    rw [x_psn, Int.add_zero] at hQ
    refine g_iload_n (i := 3) (q := 48) dX6_pass_47 rfl rfl rfl ?_
    refine g_iload_n (i := 1) (q := 49) dX6_pass_48 rfl rfl rfl ?_
    refine g_icmp_ge (t := 79) (q := 52) dX6_pass_49 (by decide) rfl (fun h49 => ?_) (fun h49 => (False.elim (by omega)))
    refine g_iload_n (i := 2) (q := 80) dX6_pass_79 rfl rfl rfl ?_
    exact g_ret dX6_pass_80 rfl (by decide) hQ
  | succ k ih =>
    intro i S d hi P hn h2 h3 hd hQ
    rw [x_psn] at hQ
    rw [x_ps] at hQ h2 h3
    have hmi := xP_min P (by omega)
    have hmn := x_min_now P (by omega)
    have hmo := x_ps_mono k (x_min S c) hmi.1 (by omega)
    have hcd := xP_cd c 0 _ (by omega) (xP_tick P (by omega))
    have hnn := x_cdn_rng (c := c) c 0 (z_sS S 0 (S.1 0 + 1))
    have hc0 := hcd.2.2.2.1
    have h60 := P.2.1
    have hnow := P.2.2.1
    have hnx := ih (i + 1) (x_min S c) (d + x_minn S c) (by omega) hmi.1 (by omega) h2 h3 (by unfold x_minn; omega) (by rw [Int.add_assoc]; exact hQ)
    refine g_iload_n (i := 3) (q := 48) dX6_pass_47 rfl rfl rfl ?_
    refine g_iload_n (i := 1) (q := 49) dX6_pass_48 rfl rfl rfl ?_
    refine g_icmp_ge (t := 79) (q := 52) dX6_pass_49 (by decide) rfl (fun h49 => (False.elim (by omega))) (fun h49 => ?_)
    refine g_aload_n (i := 0) (q := 53) dX6_pass_52 rfl rfl rfl ?_
    refine g_dup (q := 54) dX6_pass_53 rfl trivial ?_
    refine g_getv (q := 57) (z := S.1 0) dX6_pass_54 rfl fk_X6_55 rfl rfl rfl ?_
    refine g_iconst (q := 58) dX6_pass_57 rfl ⟨by decide, by decide⟩ ?_
    refine g_iadd (q := 59) dX6_pass_58 rfl (by constructor <;> omega) ?_
    refine g_put (q := 62) dX6_pass_59 rfl fk_X6_55 fp_6_7 rfl rfl ?_
    refine g_iload_n (i := 2) (q := 63) dX6_pass_62 rfl rfl rfl ?_
    refine g_aload_n (i := 0) (q := 64) dX6_pass_63 rfl rfl rfl ?_
    refine g_fnV (as := []) (q := 67) (u' := 0) dX6_pass_64 rfl ck_X6_223 rfl rfl rfl (Nat.le_of_ble_eq_true rfl) (by decide) rfl (by decide) (s_X6_carryOutDueOrders (xP_tick P (by omega)) (by omega) (by omega)) rfl ?_
    refine g_iadd (q := 68) dX6_pass_67 rfl (by constructor <;> omega) ?_
    refine g_istore_n (i := 2) (q := 69) dX6_pass_68 rfl rfl (by decide) ?_
    refine g_aload_n (i := 0) (q := 70) dX6_pass_69 rfl rfl rfl ?_
    refine g_fnV (as := []) (q := 73) (u' := 0) dX6_pass_70 rfl ck_X6_226 rfl rfl rfl (Nat.le_of_ble_eq_true rfl) (by decide) rfl (by decide) (s_X6_learnInTime (c2 := ((x_cd (z_sS S 0 (S.1 0 + 1)) c 0 c).1 2).toNat) (by omega) hcd (by omega)) rfl ?_
    refine g_iinc (q := 76) (i := 3) (n := 1) dX6_pass_73 rfl rfl (by constructor <;> omega) ?_
    refine g_goto (q := 0) (t := 47) dX6_pass_76 (by decide) ?_
    exact hnx
end
section
/-! ===== calls along the tables ===== -/
def x_rd (S : zS) (w h : Int) (i : Nat) : Int := if w = 2 ∧ i = 2 ∧ S.2.1 39 ((i : Int) - 1) = h then S.2.1 39 0 else S.2.1 39 ((i : Int) - 1)
def x_nx (S : zS) (n w h : Int) (i : Nat) : Int := if ¬ w = 0 ∧ i = 1 ∧ ¬ S.2.1 39 ((i : Int) - 1) = h then h else x_pbt S (x_rd S w h i) n
def x_ft (S : zS) (n w h : Int) : Nat → Nat → zS × Int
  | _, 0 => (S, 3)
  | i, k + 1 =>
    if S.2.1 39 ((i : Int) - 1) = S.2.1 13 n then (S, 0)
    else if ¬ S.2.1 9 (S.2.1 39 ((i : Int) - 1)) = 0 then (S, 4)
    else if x_nx S n w h i = S.2.1 39 ((i : Int) - 1) ∨ x_nx S n w h i = x_rd S w h i then (S, 4)
    else if x_has S (x_nx S n w h i) 0 i then (x_ha S (x_nx S n w h i), 3)
    else x_ft (x_ha S (x_nx S n w h i)) n w h (i + 1) k
/-- what a walk needs: the tables' entries and the hops are firms -/
def xT (S : zS) (n h : Int) (i : Nat) : Prop := S.1 4 = i ∧ (1 ≤ i ∧ i ≤ 7) ∧ (0 ≤ n ∧ n < 200) ∧ (0 ≤ h ∧ h < 6) ∧ S.2.1 8 (n / 10) = h ∧ (∀ f : Int, 0 ≤ f → f < 6 → 0 ≤ S.2.1 (30 + f.toNat) n ∧ S.2.1 (30 + f.toNat) n ≤ 6) ∧ (∀ j : Int, 0 ≤ j → j < i → 0 ≤ S.2.1 39 j ∧ S.2.1 39 j < 6)
theorem x_rd_rng {S : zS} {n w h : Int} {i : Nat} (T : xT S n h i) : 0 ≤ x_rd S w h i ∧ x_rd S w h i < 6 := by
  obtain ⟨t1, t2, t3, t4, t5, t6, t7⟩ := T
  unfold x_rd
  split
  · exact t7 0 (by omega) (by omega)
  · exact t7 _ (by omega) (by omega)
theorem x_nx_rng {S : zS} {n w h : Int} {i : Nat} (T : xT S n h i) : 0 ≤ x_nx S n w h i ∧ x_nx S n w h i < 6 := by
  have hr := x_rd_rng (w := w) T
  obtain ⟨t1, t2, t3, t4, t5, t6, t7⟩ := T
  have h6 := t6 _ hr.1 hr.2
  unfold x_nx
  split
  · exact t4
  · unfold x_pbt
    split
    · rw [t5]; exact t4
    · omega
theorem xT_ha {S : zS} {n h x : Int} {i : Nat} (T : xT S n h i) (hi : i ≤ 6) (hx : 0 ≤ x ∧ x < 6) : xT (x_ha S x) n h (i + 1) := by
  obtain ⟨t1, t2, t3, t4, t5, t6, t7⟩ := T
  refine ⟨show S.1 4 + 1 = _ by omega, by omega, t3, t4, t5, fun f a b => ?_, fun j a b => ?_⟩
  · have e : (x_ha S x).2.1 (30 + f.toNat) n = S.2.1 (30 + f.toNat) n := by
      unfold x_ha
      rw [za_sS, za_ne (by omega)]
    rw [e]
    exact t6 f a b
  · unfold x_ha
    rw [za_sS, za_sA]
    split
    · exact hx
    · next hne => exact t7 j a (by
        by_cases q : j = S.1 4
        · exact absurd ⟨rfl, q⟩ hne
        · omega)
theorem l_X6_followTables {Q : zQ} {n w h : Int} (hg : True) : ∀ (k i : Nat) (S : zS), i + k = 7 → xT S n h i → (∀ f : Int, 0 ≤ f → f < 6 → S.2.1 9 f = 0 ∨ S.2.1 9 f = 1) → Q (.ok (some (zI (x_ft S n w h i k).2))) (x_ft S n w h i k).1 →
    ∀ v5 v6 v7 v8 v9 v10, z_G mX6_followTables (z_F mX6_followTables Q) 0 3 [some (zR 0), some (zI n), some (zI w), some (zI h), some (zI (i : Int)), v5, v6, v7, v8, v9, v10] [] S := by
  intro k
  induction k with
  | zero =>
    intro i S hi T hgone hQ v5 v6 v7 v8 v9 v10
    refine g_iload (q := 5) dX6_followTables_3 rfl rfl ?_
    refine g_bipush (q := 7) dX6_followTables_5 rfl ⟨by decide, by decide⟩ (by decide) ?_
    refine g_icmp_gt (t := 196) (q := 10) dX6_followTables_7 (by decide) rfl (fun h7 => ?_) (fun h7 => (False.elim (by omega)))
    refine g_iconst (q := 197) dX6_followTables_196 rfl ⟨by decide, by decide⟩ ?_
    exact g_ret dX6_followTables_197 rfl (by decide) hQ
  | succ k ih =>
    intro i S hi T hgone hQ v5 v6 v7 v8 v9 v10
    obtain ⟨t1, t2, t3, t4, t5, t6, t7⟩ := id T
    have hh := t7 ((i : Int) - 1) (by omega) (by omega)
    have hh0 := t7 0 (by omega) (by omega)
    have hrd := x_rd_rng (w := w) T
    have hnx := x_nx_rng (w := w) T
    rw [x_ft] at hQ
    have kC : S.2.1 39 ((i : Int) - 1) ≠ S.2.1 13 n → S.2.1 9 (S.2.1 39 ((i : Int) - 1)) = 0 → ∀ v6 v8 v10, z_G mX6_followTables (z_F mX6_followTables Q) 0 147 [some (zR 0), some (zI n), some (zI w), some (zI h), some (zI (i : Int)), some (zI (S.2.1 39 ((i : Int) - 1))), v6, some (zI (x_rd S w h i)), v8, some (zI (x_nx S n w h i)), v10] [] S := by
      intro g1 g2 v6 v8 v10
      rw [if_neg g1, if_neg (fun q => q g2)] at hQ
      have sp := s_X5_has (S := S) (f := x_nx S n w h i) (c := i) t1 (by omega)
      by_cases hb : x_has S (x_nx S n w h i) 0 i = true
      · rw [if_pos hb] at sp hQ
        refine g_iload (q := 149) dX6_followTables_147 rfl rfl ?_
        refine g_iload (q := 151) dX6_followTables_149 rfl rfl ?_
        refine g_icmp_eq (t := 161) (q := 154) dX6_followTables_151 (by decide) rfl (fun h151 => ?_) (fun h151 => ?_)
        · refine g_iconst (q := 162) dX6_followTables_161 rfl ⟨by decide, by decide⟩ ?_
          exact g_ret dX6_followTables_162 rfl (by decide) (by rw [if_pos (by omega)] at hQ; exact hQ)
        · refine g_iload (q := 156) dX6_followTables_154 rfl rfl ?_
          refine g_iload (q := 158) dX6_followTables_156 rfl rfl ?_
          refine g_icmp_ne (t := 163) (q := 161) dX6_followTables_158 (by decide) rfl (fun h158 => ?_) (fun h158 => ?_)
          · refine g_aload_n (i := 0) (q := 164) dX6_followTables_163 rfl rfl rfl ?_
            refine g_getr (q := 167) dX6_followTables_164 rfl fk_X6_51 rfl rfl ?_
            refine g_iload (q := 169) dX6_followTables_167 rfl rfl ?_
            refine g_fnV (as := [zI (x_nx S n w h i)]) (q := 172) (u' := 0) dX6_followTables_169 rfl ck_X6_336 rfl rfl rfl (Nat.le_of_ble_eq_true rfl) (by decide) rfl (by decide) (sp) rfl ?_
            refine g_istore (q := 174) dX6_followTables_172 rfl (by decide) ?_
            refine g_aload_n (i := 0) (q := 175) dX6_followTables_174 rfl rfl rfl ?_
            refine g_getr (q := 178) dX6_followTables_175 rfl fk_X6_51 rfl rfl ?_
            refine g_iload (q := 180) dX6_followTables_178 rfl rfl ?_
            refine g_fnV (as := [zI (x_nx S n w h i)]) (q := 183) (u' := 0) dX6_followTables_180 rfl ck_X6_331 rfl rfl rfl (Nat.le_of_ble_eq_true rfl) (by decide) rfl (by decide) (s_X5_add (by omega) (by omega)) rfl ?_
            refine g_iload (q := 185) dX6_followTables_183 rfl rfl ?_
            refine g_if_eq (t := 190) (q := 188) dX6_followTables_185 (by decide) rfl (fun h185 => (False.elim (by omega))) (fun h185 => ?_)
            refine g_iconst (q := 189) dX6_followTables_188 rfl ⟨by decide, by decide⟩ ?_
            exact g_ret dX6_followTables_189 rfl (by decide) (by rw [if_neg (by omega)] at hQ; exact hQ)
          · refine g_iconst (q := 162) dX6_followTables_161 rfl ⟨by decide, by decide⟩ ?_
            exact g_ret dX6_followTables_162 rfl (by decide) (by rw [if_pos (by omega)] at hQ; exact hQ)
      · rw [if_neg hb] at sp hQ
        refine g_iload (q := 149) dX6_followTables_147 rfl rfl ?_
        refine g_iload (q := 151) dX6_followTables_149 rfl rfl ?_
        refine g_icmp_eq (t := 161) (q := 154) dX6_followTables_151 (by decide) rfl (fun h151 => ?_) (fun h151 => ?_)
        · refine g_iconst (q := 162) dX6_followTables_161 rfl ⟨by decide, by decide⟩ ?_
          exact g_ret dX6_followTables_162 rfl (by decide) (by rw [if_pos (by omega)] at hQ; exact hQ)
        · refine g_iload (q := 156) dX6_followTables_154 rfl rfl ?_
          refine g_iload (q := 158) dX6_followTables_156 rfl rfl ?_
          refine g_icmp_ne (t := 163) (q := 161) dX6_followTables_158 (by decide) rfl (fun h158 => ?_) (fun h158 => ?_)
          · refine g_aload_n (i := 0) (q := 164) dX6_followTables_163 rfl rfl rfl ?_
            refine g_getr (q := 167) dX6_followTables_164 rfl fk_X6_51 rfl rfl ?_
            refine g_iload (q := 169) dX6_followTables_167 rfl rfl ?_
            refine g_fnV (as := [zI (x_nx S n w h i)]) (q := 172) (u' := 0) dX6_followTables_169 rfl ck_X6_336 rfl rfl rfl (Nat.le_of_ble_eq_true rfl) (by decide) rfl (by decide) (sp) rfl ?_
            refine g_istore (q := 174) dX6_followTables_172 rfl (by decide) ?_
            refine g_aload_n (i := 0) (q := 175) dX6_followTables_174 rfl rfl rfl ?_
            refine g_getr (q := 178) dX6_followTables_175 rfl fk_X6_51 rfl rfl ?_
            refine g_iload (q := 180) dX6_followTables_178 rfl rfl ?_
            refine g_fnV (as := [zI (x_nx S n w h i)]) (q := 183) (u' := 0) dX6_followTables_180 rfl ck_X6_331 rfl rfl rfl (Nat.le_of_ble_eq_true rfl) (by decide) rfl (by decide) (s_X5_add (by omega) (by omega)) rfl ?_
            refine g_iload (q := 185) dX6_followTables_183 rfl rfl ?_
            refine g_if_eq (t := 190) (q := 188) dX6_followTables_185 (by decide) rfl (fun h185 => ?_) (fun h185 => (False.elim (by omega)))
            refine g_iinc (q := 193) (i := 4) (n := 1) dX6_followTables_190 rfl rfl (by constructor <;> omega) ?_
            refine g_goto (q := 0) (t := 3) dX6_followTables_193 (by decide) ?_
            exact ih (i + 1) _ (by omega) (xT_ha T (by omega) hnx) hgone (by rw [if_neg (by omega)] at hQ; exact hQ) _ _ _ _ _ _
          · refine g_iconst (q := 162) dX6_followTables_161 rfl ⟨by decide, by decide⟩ ?_
            exact g_ret dX6_followTables_162 rfl (by decide) (by rw [if_pos (by omega)] at hQ; exact hQ)
    have kB : S.2.1 39 ((i : Int) - 1) ≠ S.2.1 13 n → S.2.1 9 (S.2.1 39 ((i : Int) - 1)) = 0 → ∀ v6, z_G mX6_followTables (z_F mX6_followTables Q) 0 106 [some (zR 0), some (zI n), some (zI w), some (zI h), some (zI (i : Int)), some (zI (S.2.1 39 ((i : Int) - 1))), v6, some (zI (x_rd S w h i)), v8, v9, v10] [] S := by
      intro g1 g2 v6
      by_cases gh : ¬ w = 0 ∧ i = 1 ∧ ¬ S.2.1 39 ((i : Int) - 1) = h
      · have e : x_nx S n w h i = h := by unfold x_nx; rw [if_pos gh]
        rw [e] at kC
        refine g_iload_n (i := 2) (q := 107) dX6_followTables_106 rfl rfl rfl ?_
        refine g_if_eq (t := 126) (q := 110) dX6_followTables_107 (by decide) rfl (fun h107 => (False.elim (by omega))) (fun h107 => ?_)
        refine g_iload (q := 112) dX6_followTables_110 rfl rfl ?_
        refine g_iconst (q := 113) dX6_followTables_112 rfl ⟨by decide, by decide⟩ ?_
        refine g_icmp_ne (t := 126) (q := 116) dX6_followTables_113 (by decide) rfl (fun h113 => (False.elim (by omega))) (fun h113 => ?_)
        refine g_iload (q := 118) dX6_followTables_116 rfl rfl ?_
        refine g_iload_n (i := 3) (q := 119) dX6_followTables_118 rfl rfl rfl ?_
        refine g_icmp_eq (t := 126) (q := 122) dX6_followTables_119 (by decide) rfl (fun h119 => (False.elim (by omega))) (fun h119 => ?_)
        refine g_iconst (q := 123) dX6_followTables_122 rfl ⟨by decide, by decide⟩ ?_
        refine g_goto (q := 0) (t := 127) dX6_followTables_123 (by decide) ?_
        refine g_istore (q := 129) dX6_followTables_127 rfl (by decide) ?_
        refine g_iload (q := 131) dX6_followTables_129 rfl rfl ?_
        refine g_if_eq (t := 138) (q := 134) dX6_followTables_131 (by decide) rfl (fun h131 => (False.elim (by omega))) (fun h131 => ?_)
        refine g_iload_n (i := 3) (q := 135) dX6_followTables_134 rfl rfl rfl ?_
        refine g_goto (q := 0) (t := 145) dX6_followTables_135 (by decide) ?_
        refine g_istore (q := 147) dX6_followTables_145 rfl (by decide) ?_
        exact kC g1 g2 _ _ _
      · have e : x_nx S n w h i = x_pbt S (x_rd S w h i) n := by unfold x_nx; rw [if_neg gh]
        rw [e] at kC
        refine g_iload_n (i := 2) (q := 107) dX6_followTables_106 rfl rfl rfl ?_
        refine g_if_eq (t := 126) (q := 110) dX6_followTables_107 (by decide) rfl (fun h107 => ?_) (fun h107 => ?_)
        · refine g_iconst (q := 127) dX6_followTables_126 rfl ⟨by decide, by decide⟩ ?_
          refine g_istore (q := 129) dX6_followTables_127 rfl (by decide) ?_
          refine g_iload (q := 131) dX6_followTables_129 rfl rfl ?_
          refine g_if_eq (t := 138) (q := 134) dX6_followTables_131 (by decide) rfl (fun h131 => ?_) (fun h131 => (False.elim (by omega)))
          refine g_aload_n (i := 0) (q := 139) dX6_followTables_138 rfl rfl rfl ?_
          refine g_iload (q := 141) dX6_followTables_139 rfl rfl ?_
          refine g_iload_n (i := 1) (q := 142) dX6_followTables_141 rfl rfl rfl ?_
          refine g_fnV (as := [zI (x_rd S w h i), zI n]) (q := 145) (u' := 0) dX6_followTables_142 rfl ck_X6_277 rfl rfl rfl (Nat.le_of_ble_eq_true rfl) (by decide) rfl (by decide) (s_X6_placeByTable hrd t3) rfl ?_
          refine g_istore (q := 147) dX6_followTables_145 rfl (by decide) ?_
          exact kC g1 g2 _ _ _
        · refine g_iload (q := 112) dX6_followTables_110 rfl rfl ?_
          refine g_iconst (q := 113) dX6_followTables_112 rfl ⟨by decide, by decide⟩ ?_
          refine g_icmp_ne (t := 126) (q := 116) dX6_followTables_113 (by decide) rfl (fun h113 => ?_) (fun h113 => ?_)
          · refine g_iconst (q := 127) dX6_followTables_126 rfl ⟨by decide, by decide⟩ ?_
            refine g_istore (q := 129) dX6_followTables_127 rfl (by decide) ?_
            refine g_iload (q := 131) dX6_followTables_129 rfl rfl ?_
            refine g_if_eq (t := 138) (q := 134) dX6_followTables_131 (by decide) rfl (fun h131 => ?_) (fun h131 => (False.elim (by omega)))
            refine g_aload_n (i := 0) (q := 139) dX6_followTables_138 rfl rfl rfl ?_
            refine g_iload (q := 141) dX6_followTables_139 rfl rfl ?_
            refine g_iload_n (i := 1) (q := 142) dX6_followTables_141 rfl rfl rfl ?_
            refine g_fnV (as := [zI (x_rd S w h i), zI n]) (q := 145) (u' := 0) dX6_followTables_142 rfl ck_X6_277 rfl rfl rfl (Nat.le_of_ble_eq_true rfl) (by decide) rfl (by decide) (s_X6_placeByTable hrd t3) rfl ?_
            refine g_istore (q := 147) dX6_followTables_145 rfl (by decide) ?_
            exact kC g1 g2 _ _ _
          · refine g_iload (q := 118) dX6_followTables_116 rfl rfl ?_
            refine g_iload_n (i := 3) (q := 119) dX6_followTables_118 rfl rfl rfl ?_
            refine g_icmp_eq (t := 126) (q := 122) dX6_followTables_119 (by decide) rfl (fun h119 => ?_) (fun h119 => ?_)
            · refine g_iconst (q := 127) dX6_followTables_126 rfl ⟨by decide, by decide⟩ ?_
              refine g_istore (q := 129) dX6_followTables_127 rfl (by decide) ?_
              refine g_iload (q := 131) dX6_followTables_129 rfl rfl ?_
              refine g_if_eq (t := 138) (q := 134) dX6_followTables_131 (by decide) rfl (fun h131 => ?_) (fun h131 => (False.elim (by omega)))
              refine g_aload_n (i := 0) (q := 139) dX6_followTables_138 rfl rfl rfl ?_
              refine g_iload (q := 141) dX6_followTables_139 rfl rfl ?_
              refine g_iload_n (i := 1) (q := 142) dX6_followTables_141 rfl rfl rfl ?_
              refine g_fnV (as := [zI (x_rd S w h i), zI n]) (q := 145) (u' := 0) dX6_followTables_142 rfl ck_X6_277 rfl rfl rfl (Nat.le_of_ble_eq_true rfl) (by decide) rfl (by decide) (s_X6_placeByTable hrd t3) rfl ?_
              refine g_istore (q := 147) dX6_followTables_145 rfl (by decide) ?_
              exact kC g1 g2 _ _ _
            · exact absurd ⟨by omega, by omega, by omega⟩ gh
    by_cases g1 : S.2.1 39 ((i : Int) - 1) = S.2.1 13 n
    · rw [if_pos g1] at hQ
      refine g_iload (q := 5) dX6_followTables_3 rfl rfl ?_
      refine g_bipush (q := 7) dX6_followTables_5 rfl ⟨by decide, by decide⟩ (by decide) ?_
      refine g_icmp_gt (t := 196) (q := 10) dX6_followTables_7 (by decide) rfl (fun h7 => (False.elim (by omega))) (fun h7 => ?_)
      refine g_aload_n (i := 0) (q := 11) dX6_followTables_10 rfl rfl rfl ?_
      refine g_getr (q := 14) dX6_followTables_11 rfl fk_X6_51 rfl rfl ?_
      refine g_iload (q := 16) dX6_followTables_14 rfl rfl ?_
      refine g_iconst (q := 17) dX6_followTables_16 rfl ⟨by decide, by decide⟩ ?_
      refine g_isub (q := 18) dX6_followTables_17 rfl (by constructor <;> omega) ?_
      refine g_fnV (as := [zI ((i : Int) - 1)]) (q := 21) (u' := 0) dX6_followTables_18 rfl ck_X6_289 rfl rfl rfl (Nat.le_of_ble_eq_true rfl) (by decide) rfl (by decide) (s_X5_hopAt (by omega)) rfl ?_
      refine g_top (z := S.2.1 39 ((i : Int) - 1)) (by unfold x_hop; rw [if_pos (by omega)]) ?_
      refine g_istore (q := 23) dX6_followTables_21 rfl (by decide) ?_
      refine g_iload (q := 25) dX6_followTables_23 rfl rfl ?_
      refine g_aload_n (i := 0) (q := 26) dX6_followTables_25 rfl rfl rfl ?_
      refine g_getr (q := 29) dX6_followTables_26 rfl fk_X6_23 rfl rfl ?_
      refine g_getr (q := 32) dX6_followTables_29 rfl fk_X6_129 rfl rfl ?_
      refine g_iload_n (i := 1) (q := 33) dX6_followTables_32 rfl rfl rfl ?_
      refine g_ildv (q := 34) (z := S.2.1 13 n) dX6_followTables_33 rfl ⟨by decide, rfl, rfl⟩ (by omega) (by omega) rfl ?_
      refine g_icmp_ne (t := 39) (q := 37) dX6_followTables_34 (by decide) rfl (fun h34 => (False.elim (by omega))) (fun h34 => ?_)
      refine g_iconst (q := 38) dX6_followTables_37 rfl ⟨by decide, by decide⟩ ?_
      exact g_ret dX6_followTables_38 rfl (by decide) hQ
    · by_cases g2 : S.2.1 9 (S.2.1 39 ((i : Int) - 1)) = 0
      · by_cases gd : w = 2 ∧ i = 2 ∧ S.2.1 39 ((i : Int) - 1) = h
        · have e : x_rd S w h i = S.2.1 39 0 := by unfold x_rd; rw [if_pos gd]
          have kb := kB g1 g2
          rw [e] at kb
          refine g_iload (q := 5) dX6_followTables_3 rfl rfl ?_
          refine g_bipush (q := 7) dX6_followTables_5 rfl ⟨by decide, by decide⟩ (by decide) ?_
          refine g_icmp_gt (t := 196) (q := 10) dX6_followTables_7 (by decide) rfl (fun h7 => (False.elim (by omega))) (fun h7 => ?_)
          refine g_aload_n (i := 0) (q := 11) dX6_followTables_10 rfl rfl rfl ?_
          refine g_getr (q := 14) dX6_followTables_11 rfl fk_X6_51 rfl rfl ?_
          refine g_iload (q := 16) dX6_followTables_14 rfl rfl ?_
          refine g_iconst (q := 17) dX6_followTables_16 rfl ⟨by decide, by decide⟩ ?_
          refine g_isub (q := 18) dX6_followTables_17 rfl (by constructor <;> omega) ?_
          refine g_fnV (as := [zI ((i : Int) - 1)]) (q := 21) (u' := 0) dX6_followTables_18 rfl ck_X6_289 rfl rfl rfl (Nat.le_of_ble_eq_true rfl) (by decide) rfl (by decide) (s_X5_hopAt (by omega)) rfl ?_
          refine g_top (z := S.2.1 39 ((i : Int) - 1)) (by unfold x_hop; rw [if_pos (by omega)]) ?_
          refine g_istore (q := 23) dX6_followTables_21 rfl (by decide) ?_
          refine g_iload (q := 25) dX6_followTables_23 rfl rfl ?_
          refine g_aload_n (i := 0) (q := 26) dX6_followTables_25 rfl rfl rfl ?_
          refine g_getr (q := 29) dX6_followTables_26 rfl fk_X6_23 rfl rfl ?_
          refine g_getr (q := 32) dX6_followTables_29 rfl fk_X6_129 rfl rfl ?_
          refine g_iload_n (i := 1) (q := 33) dX6_followTables_32 rfl rfl rfl ?_
          refine g_ildv (q := 34) (z := S.2.1 13 n) dX6_followTables_33 rfl ⟨by decide, rfl, rfl⟩ (by omega) (by omega) rfl ?_
          refine g_icmp_ne (t := 39) (q := 37) dX6_followTables_34 (by decide) rfl (fun h34 => ?_) (fun h34 => (False.elim (by omega)))
          refine g_iload (q := 41) dX6_followTables_39 rfl rfl ?_
          refine g_fnS (as := [zI (S.2.1 39 ((i : Int) - 1))]) (q := 44) (u' := 0) dX6_followTables_41 rfl ck_X6_69 rfl rfl (Nat.le_of_ble_eq_true rfl) (by decide) rfl (by decide) (s_X6_isFirm_t hh) rfl ?_
          refine g_if_eq (t := 60) (q := 47) dX6_followTables_44 (by decide) rfl (fun h44 => (False.elim (by omega))) (fun h44 => ?_)
          refine g_aload_n (i := 0) (q := 48) dX6_followTables_47 rfl rfl rfl ?_
          refine g_getr (q := 51) dX6_followTables_48 rfl fk_X6_16 rfl rfl ?_
          refine g_getr (q := 54) dX6_followTables_51 rfl fk_X6_79 rfl rfl ?_
          refine g_iload (q := 56) dX6_followTables_54 rfl rfl ?_
          refine g_zldv (q := 57) (z := S.2.1 9 (S.2.1 39 ((i : Int) - 1))) dX6_followTables_56 rfl ⟨by decide, rfl, rfl⟩ (by omega) (by omega) rfl ?_
          refine g_if_eq (t := 62) (q := 60) dX6_followTables_57 (by decide) rfl (fun h57 => ?_) (fun h57 => (False.elim (by omega)))
          refine g_iload_n (i := 2) (q := 63) dX6_followTables_62 rfl rfl rfl ?_
          refine g_iconst (q := 64) dX6_followTables_63 rfl ⟨by decide, by decide⟩ ?_
          refine g_icmp_ne (t := 83) (q := 67) dX6_followTables_64 (by decide) rfl (fun h64 => (False.elim (by omega))) (fun h64 => ?_)
          refine g_iload (q := 69) dX6_followTables_67 rfl rfl ?_
          refine g_iconst (q := 70) dX6_followTables_69 rfl ⟨by decide, by decide⟩ ?_
          refine g_icmp_ne (t := 83) (q := 73) dX6_followTables_70 (by decide) rfl (fun h70 => (False.elim (by omega))) (fun h70 => ?_)
          refine g_iload (q := 75) dX6_followTables_73 rfl rfl ?_
          refine g_iload_n (i := 3) (q := 76) dX6_followTables_75 rfl rfl rfl ?_
          refine g_icmp_ne (t := 83) (q := 79) dX6_followTables_76 (by decide) rfl (fun h76 => (False.elim (by omega))) (fun h76 => ?_)
          refine g_iconst (q := 80) dX6_followTables_79 rfl ⟨by decide, by decide⟩ ?_
          refine g_goto (q := 0) (t := 84) dX6_followTables_80 (by decide) ?_
          refine g_istore (q := 86) dX6_followTables_84 rfl (by decide) ?_
          refine g_iload (q := 88) dX6_followTables_86 rfl rfl ?_
          refine g_if_eq (t := 102) (q := 91) dX6_followTables_88 (by decide) rfl (fun h88 => (False.elim (by omega))) (fun h88 => ?_)
          refine g_aload_n (i := 0) (q := 92) dX6_followTables_91 rfl rfl rfl ?_
          refine g_getr (q := 95) dX6_followTables_92 rfl fk_X6_51 rfl rfl ?_
          refine g_iconst (q := 96) dX6_followTables_95 rfl ⟨by decide, by decide⟩ ?_
          refine g_fnV (as := [zI 0]) (q := 99) (u' := 0) dX6_followTables_96 rfl ck_X6_289 rfl rfl rfl (Nat.le_of_ble_eq_true rfl) (by decide) rfl (by decide) (s_X5_hopAt (by omega)) rfl ?_
          refine g_top (z := S.2.1 39 0) (by unfold x_hop; rw [if_pos (by omega)]) ?_
          refine g_goto (q := 0) (t := 104) dX6_followTables_99 (by decide) ?_
          refine g_istore (q := 106) dX6_followTables_104 rfl (by decide) ?_
          exact kb _
        · have e : x_rd S w h i = S.2.1 39 ((i : Int) - 1) := by unfold x_rd; rw [if_neg gd]
          have kb := kB g1 g2
          rw [e] at kb
          refine g_iload (q := 5) dX6_followTables_3 rfl rfl ?_
          refine g_bipush (q := 7) dX6_followTables_5 rfl ⟨by decide, by decide⟩ (by decide) ?_
          refine g_icmp_gt (t := 196) (q := 10) dX6_followTables_7 (by decide) rfl (fun h7 => (False.elim (by omega))) (fun h7 => ?_)
          refine g_aload_n (i := 0) (q := 11) dX6_followTables_10 rfl rfl rfl ?_
          refine g_getr (q := 14) dX6_followTables_11 rfl fk_X6_51 rfl rfl ?_
          refine g_iload (q := 16) dX6_followTables_14 rfl rfl ?_
          refine g_iconst (q := 17) dX6_followTables_16 rfl ⟨by decide, by decide⟩ ?_
          refine g_isub (q := 18) dX6_followTables_17 rfl (by constructor <;> omega) ?_
          refine g_fnV (as := [zI ((i : Int) - 1)]) (q := 21) (u' := 0) dX6_followTables_18 rfl ck_X6_289 rfl rfl rfl (Nat.le_of_ble_eq_true rfl) (by decide) rfl (by decide) (s_X5_hopAt (by omega)) rfl ?_
          refine g_top (z := S.2.1 39 ((i : Int) - 1)) (by unfold x_hop; rw [if_pos (by omega)]) ?_
          refine g_istore (q := 23) dX6_followTables_21 rfl (by decide) ?_
          refine g_iload (q := 25) dX6_followTables_23 rfl rfl ?_
          refine g_aload_n (i := 0) (q := 26) dX6_followTables_25 rfl rfl rfl ?_
          refine g_getr (q := 29) dX6_followTables_26 rfl fk_X6_23 rfl rfl ?_
          refine g_getr (q := 32) dX6_followTables_29 rfl fk_X6_129 rfl rfl ?_
          refine g_iload_n (i := 1) (q := 33) dX6_followTables_32 rfl rfl rfl ?_
          refine g_ildv (q := 34) (z := S.2.1 13 n) dX6_followTables_33 rfl ⟨by decide, rfl, rfl⟩ (by omega) (by omega) rfl ?_
          refine g_icmp_ne (t := 39) (q := 37) dX6_followTables_34 (by decide) rfl (fun h34 => ?_) (fun h34 => (False.elim (by omega)))
          refine g_iload (q := 41) dX6_followTables_39 rfl rfl ?_
          refine g_fnS (as := [zI (S.2.1 39 ((i : Int) - 1))]) (q := 44) (u' := 0) dX6_followTables_41 rfl ck_X6_69 rfl rfl (Nat.le_of_ble_eq_true rfl) (by decide) rfl (by decide) (s_X6_isFirm_t hh) rfl ?_
          refine g_if_eq (t := 60) (q := 47) dX6_followTables_44 (by decide) rfl (fun h44 => (False.elim (by omega))) (fun h44 => ?_)
          refine g_aload_n (i := 0) (q := 48) dX6_followTables_47 rfl rfl rfl ?_
          refine g_getr (q := 51) dX6_followTables_48 rfl fk_X6_16 rfl rfl ?_
          refine g_getr (q := 54) dX6_followTables_51 rfl fk_X6_79 rfl rfl ?_
          refine g_iload (q := 56) dX6_followTables_54 rfl rfl ?_
          refine g_zldv (q := 57) (z := S.2.1 9 (S.2.1 39 ((i : Int) - 1))) dX6_followTables_56 rfl ⟨by decide, rfl, rfl⟩ (by omega) (by omega) rfl ?_
          refine g_if_eq (t := 62) (q := 60) dX6_followTables_57 (by decide) rfl (fun h57 => ?_) (fun h57 => (False.elim (by omega)))
          refine g_iload_n (i := 2) (q := 63) dX6_followTables_62 rfl rfl rfl ?_
          refine g_iconst (q := 64) dX6_followTables_63 rfl ⟨by decide, by decide⟩ ?_
          refine g_icmp_ne (t := 83) (q := 67) dX6_followTables_64 (by decide) rfl (fun h64 => ?_) (fun h64 => ?_)
          · refine g_iconst (q := 84) dX6_followTables_83 rfl ⟨by decide, by decide⟩ ?_
            refine g_istore (q := 86) dX6_followTables_84 rfl (by decide) ?_
            refine g_iload (q := 88) dX6_followTables_86 rfl rfl ?_
            refine g_if_eq (t := 102) (q := 91) dX6_followTables_88 (by decide) rfl (fun h88 => ?_) (fun h88 => (False.elim (by omega)))
            refine g_iload (q := 104) dX6_followTables_102 rfl rfl ?_
            refine g_istore (q := 106) dX6_followTables_104 rfl (by decide) ?_
            exact kb _
          · refine g_iload (q := 69) dX6_followTables_67 rfl rfl ?_
            refine g_iconst (q := 70) dX6_followTables_69 rfl ⟨by decide, by decide⟩ ?_
            refine g_icmp_ne (t := 83) (q := 73) dX6_followTables_70 (by decide) rfl (fun h70 => ?_) (fun h70 => ?_)
            · refine g_iconst (q := 84) dX6_followTables_83 rfl ⟨by decide, by decide⟩ ?_
              refine g_istore (q := 86) dX6_followTables_84 rfl (by decide) ?_
              refine g_iload (q := 88) dX6_followTables_86 rfl rfl ?_
              refine g_if_eq (t := 102) (q := 91) dX6_followTables_88 (by decide) rfl (fun h88 => ?_) (fun h88 => (False.elim (by omega)))
              refine g_iload (q := 104) dX6_followTables_102 rfl rfl ?_
              refine g_istore (q := 106) dX6_followTables_104 rfl (by decide) ?_
              exact kb _
            · refine g_iload (q := 75) dX6_followTables_73 rfl rfl ?_
              refine g_iload_n (i := 3) (q := 76) dX6_followTables_75 rfl rfl rfl ?_
              refine g_icmp_ne (t := 83) (q := 79) dX6_followTables_76 (by decide) rfl (fun h76 => ?_) (fun h76 => ?_)
              · refine g_iconst (q := 84) dX6_followTables_83 rfl ⟨by decide, by decide⟩ ?_
                refine g_istore (q := 86) dX6_followTables_84 rfl (by decide) ?_
                refine g_iload (q := 88) dX6_followTables_86 rfl rfl ?_
                refine g_if_eq (t := 102) (q := 91) dX6_followTables_88 (by decide) rfl (fun h88 => ?_) (fun h88 => (False.elim (by omega)))
                refine g_iload (q := 104) dX6_followTables_102 rfl rfl ?_
                refine g_istore (q := 106) dX6_followTables_104 rfl (by decide) ?_
                exact kb _
              · exact absurd ⟨by omega, by omega, by omega⟩ gd
      · rw [if_neg g1, if_pos g2] at hQ
        refine g_iload (q := 5) dX6_followTables_3 rfl rfl ?_
        refine g_bipush (q := 7) dX6_followTables_5 rfl ⟨by decide, by decide⟩ (by decide) ?_
        refine g_icmp_gt (t := 196) (q := 10) dX6_followTables_7 (by decide) rfl (fun h7 => (False.elim (by omega))) (fun h7 => ?_)
        refine g_aload_n (i := 0) (q := 11) dX6_followTables_10 rfl rfl rfl ?_
        refine g_getr (q := 14) dX6_followTables_11 rfl fk_X6_51 rfl rfl ?_
        refine g_iload (q := 16) dX6_followTables_14 rfl rfl ?_
        refine g_iconst (q := 17) dX6_followTables_16 rfl ⟨by decide, by decide⟩ ?_
        refine g_isub (q := 18) dX6_followTables_17 rfl (by constructor <;> omega) ?_
        refine g_fnV (as := [zI ((i : Int) - 1)]) (q := 21) (u' := 0) dX6_followTables_18 rfl ck_X6_289 rfl rfl rfl (Nat.le_of_ble_eq_true rfl) (by decide) rfl (by decide) (s_X5_hopAt (by omega)) rfl ?_
        refine g_top (z := S.2.1 39 ((i : Int) - 1)) (by unfold x_hop; rw [if_pos (by omega)]) ?_
        refine g_istore (q := 23) dX6_followTables_21 rfl (by decide) ?_
        refine g_iload (q := 25) dX6_followTables_23 rfl rfl ?_
        refine g_aload_n (i := 0) (q := 26) dX6_followTables_25 rfl rfl rfl ?_
        refine g_getr (q := 29) dX6_followTables_26 rfl fk_X6_23 rfl rfl ?_
        refine g_getr (q := 32) dX6_followTables_29 rfl fk_X6_129 rfl rfl ?_
        refine g_iload_n (i := 1) (q := 33) dX6_followTables_32 rfl rfl rfl ?_
        refine g_ildv (q := 34) (z := S.2.1 13 n) dX6_followTables_33 rfl ⟨by decide, rfl, rfl⟩ (by omega) (by omega) rfl ?_
        refine g_icmp_ne (t := 39) (q := 37) dX6_followTables_34 (by decide) rfl (fun h34 => ?_) (fun h34 => (False.elim (by omega)))
        refine g_iload (q := 41) dX6_followTables_39 rfl rfl ?_
        refine g_fnS (as := [zI (S.2.1 39 ((i : Int) - 1))]) (q := 44) (u' := 0) dX6_followTables_41 rfl ck_X6_69 rfl rfl (Nat.le_of_ble_eq_true rfl) (by decide) rfl (by decide) (s_X6_isFirm_t hh) rfl ?_
        refine g_if_eq (t := 60) (q := 47) dX6_followTables_44 (by decide) rfl (fun h44 => (False.elim (by omega))) (fun h44 => ?_)
        refine g_aload_n (i := 0) (q := 48) dX6_followTables_47 rfl rfl rfl ?_
        refine g_getr (q := 51) dX6_followTables_48 rfl fk_X6_16 rfl rfl ?_
        refine g_getr (q := 54) dX6_followTables_51 rfl fk_X6_79 rfl rfl ?_
        refine g_iload (q := 56) dX6_followTables_54 rfl rfl ?_
        refine g_zldv (q := 57) (z := S.2.1 9 (S.2.1 39 ((i : Int) - 1))) dX6_followTables_56 rfl ⟨by decide, rfl, rfl⟩ (by omega) (by omega) rfl ?_
        refine g_if_eq (t := 62) (q := 60) dX6_followTables_57 (by decide) rfl (fun h57 => (False.elim (by omega))) (fun h57 => ?_)
        refine g_iconst (q := 61) dX6_followTables_60 rfl ⟨by decide, by decide⟩ ?_
        exact g_ret dX6_followTables_61 rfl (by decide) hQ
theorem s_X6_followTables {S : zS} {n w h : Int} (T : xT S n h 1) (hgone : ∀ f : Int, 0 ≤ f → f < 6 → S.2.1 9 f = 0 ∨ S.2.1 9 f = 1) : z_Fn mX6_followTables [zR 0, zI n, zI w, zI h] S (some (zI (x_ft S n w h 1 6).2)) (x_ft S n w h 1 6).1 := by
  refine z_enter (by decide +kernel) rfl (z_n1 trivial (z_n1 trivial (z_n1 trivial (z_n1 trivial z_n0)))) (Nat.le_of_ble_eq_true rfl) ?_
  refine g_iconst (q := 1) dX6_followTables_0 rfl ⟨by decide, by decide⟩ ?_
  refine g_istore (q := 3) dX6_followTables_1 rfl (by decide) ?_
  exact l_X6_followTables trivial 6 1 S (by omega) T hgone ⟨rfl, rfl⟩ _ _ _ _ _ _
/-- a call: the hops are laid, how it ends -/
def x_tc (S : zS) (f n w : Int) : zS × Int :=
  if S.2.1 8 (n / 10) = -1 then (x_hb S f, 1)
  else if S.2.1 13 n = -1 then (if S.2.1 8 (n / 10) = f then (x_hb S f, 2) else (x_ha (x_hb S f) (S.2.1 8 (n / 10)), 2))
  else x_ft (x_hb S f) n w (S.2.1 8 (n / 10)) 1 6
theorem xT_hb {S : zS} {f n : Int} (hf : 0 ≤ f ∧ f < 6) (hn : 0 ≤ n ∧ n < 200) (hh : 0 ≤ S.2.1 8 (n / 10) ∧ S.2.1 8 (n / 10) < 6) (ht : ∀ f : Int, 0 ≤ f → f < 6 → 0 ≤ S.2.1 (30 + f.toNat) n ∧ S.2.1 (30 + f.toNat) n ≤ 6) : xT (x_hb S f) n (S.2.1 8 (n / 10)) 1 := by
  refine ⟨rfl, by omega, hn, hh, rfl, fun g a b => ?_, fun j a b => ?_⟩
  · have e : (x_hb S f).2.1 (30 + g.toNat) n = S.2.1 (30 + g.toNat) n := by
      unfold x_hb
      rw [za_sS, za_ne (by omega)]
    rw [e]
    exact ht g a b
  · have e : j = 0 := by omega
    subst e
    show 0 ≤ (z_sA S 39 0 f).2.1 39 0 ∧ (z_sA S 39 0 f).2.1 39 0 < 6
    rw [za_eq]
    exact hf
theorem s_X6_traceCall {S : zS} {f n w : Int} (hf : 0 ≤ f ∧ f < 6) (hn : 0 ≤ n ∧ n < 200) (hh : -1 ≤ S.2.1 8 (n / 10) ∧ S.2.1 8 (n / 10) < 6) (ht : ∀ f : Int, 0 ≤ f → f < 6 → 0 ≤ S.2.1 (30 + f.toNat) n ∧ S.2.1 (30 + f.toNat) n ≤ 6) (hgone : ∀ f : Int, 0 ≤ f → f < 6 → S.2.1 9 f = 0 ∨ S.2.1 9 f = 1) : z_Fn mX6_traceCall [zR 0, zI f, zI n, zI w] S (some (zI (x_tc S f n w).2)) (x_tc S f n w).1 := by
  refine z_enter (by decide +kernel) rfl (z_n1 trivial (z_n1 trivial (z_n1 trivial (z_n1 trivial z_n0)))) (Nat.le_of_ble_eq_true rfl) ?_
  by_cases e1 : S.2.1 8 (n / 10) = -1
  · have e : x_tc S f n w = (x_hb S f, 1) := by unfold x_tc; rw [if_pos e1]
    rw [e]
    refine g_aload_n (i := 0) (q := 1) dX6_traceCall_0 rfl rfl rfl ?_
    refine g_getr (q := 4) dX6_traceCall_1 rfl fk_X6_51 rfl rfl ?_
    refine g_iload_n (i := 1) (q := 5) dX6_traceCall_4 rfl rfl rfl ?_
    refine g_fnV (as := [zI f]) (q := 8) (u' := 0) dX6_traceCall_5 rfl ck_X6_329 rfl rfl rfl (Nat.le_of_ble_eq_true rfl) (by decide) rfl (by decide) (s_X5_begin) rfl ?_
    refine g_aload_n (i := 0) (q := 9) dX6_traceCall_8 rfl rfl rfl ?_
    refine g_iload_n (i := 2) (q := 10) dX6_traceCall_9 rfl rfl rfl ?_
    refine g_fnV (as := [zI n]) (q := 13) (u' := 0) dX6_traceCall_10 rfl ck_X6_106 rfl rfl rfl (Nat.le_of_ble_eq_true rfl) (by decide) rfl (by decide) (s_X6_holderOf hn) rfl ?_
    refine g_top (z := S.2.1 8 (n / 10)) rfl ?_
    refine g_istore (q := 15) dX6_traceCall_13 rfl (by decide) ?_
    refine g_iload (q := 17) dX6_traceCall_15 rfl rfl ?_
    refine g_iconst (q := 18) dX6_traceCall_17 rfl ⟨by decide, by decide⟩ ?_
    refine g_icmp_ne (t := 23) (q := 21) dX6_traceCall_18 (by decide) rfl (fun h18 => (False.elim (by omega))) (fun h18 => ?_)
    refine g_iconst (q := 22) dX6_traceCall_21 rfl ⟨by decide, by decide⟩ ?_
    exact g_ret dX6_traceCall_22 rfl (by decide) (by first | exact ⟨rfl, rfl⟩ | (exfalso; omega))
  · by_cases e2 : S.2.1 13 n = -1
    · by_cases e3 : S.2.1 8 (n / 10) = f
      · have e : x_tc S f n w = (x_hb S f, 2) := by unfold x_tc; rw [if_neg e1, if_pos e2, if_pos e3]
        rw [e]
        refine g_aload_n (i := 0) (q := 1) dX6_traceCall_0 rfl rfl rfl ?_
        refine g_getr (q := 4) dX6_traceCall_1 rfl fk_X6_51 rfl rfl ?_
        refine g_iload_n (i := 1) (q := 5) dX6_traceCall_4 rfl rfl rfl ?_
        refine g_fnV (as := [zI f]) (q := 8) (u' := 0) dX6_traceCall_5 rfl ck_X6_329 rfl rfl rfl (Nat.le_of_ble_eq_true rfl) (by decide) rfl (by decide) (s_X5_begin) rfl ?_
        refine g_aload_n (i := 0) (q := 9) dX6_traceCall_8 rfl rfl rfl ?_
        refine g_iload_n (i := 2) (q := 10) dX6_traceCall_9 rfl rfl rfl ?_
        refine g_fnV (as := [zI n]) (q := 13) (u' := 0) dX6_traceCall_10 rfl ck_X6_106 rfl rfl rfl (Nat.le_of_ble_eq_true rfl) (by decide) rfl (by decide) (s_X6_holderOf hn) rfl ?_
        refine g_top (z := S.2.1 8 (n / 10)) rfl ?_
        refine g_istore (q := 15) dX6_traceCall_13 rfl (by decide) ?_
        refine g_iload (q := 17) dX6_traceCall_15 rfl rfl ?_
        refine g_iconst (q := 18) dX6_traceCall_17 rfl ⟨by decide, by decide⟩ ?_
        refine g_icmp_ne (t := 23) (q := 21) dX6_traceCall_18 (by decide) rfl (fun h18 => ?_) (fun h18 => (False.elim (by omega)))
        refine g_aload_n (i := 0) (q := 24) dX6_traceCall_23 rfl rfl rfl ?_
        refine g_getr (q := 27) dX6_traceCall_24 rfl fk_X6_23 rfl rfl ?_
        refine g_iload_n (i := 2) (q := 28) dX6_traceCall_27 rfl rfl rfl ?_
        refine g_fnV (as := [zI n]) (q := 31) (u' := 0) dX6_traceCall_28 rfl ck_X6_109 rfl rfl rfl (Nat.le_of_ble_eq_true rfl) (by decide) rfl (by decide) (s_X1_isInUse_f hn (show S.2.1 13 n = -1 from e2)) rfl ?_
        refine g_if_ne (t := 51) (q := 34) dX6_traceCall_31 (by decide) rfl (fun h31 => (False.elim (by omega))) (fun h31 => ?_)
        refine g_iload (q := 36) dX6_traceCall_34 rfl rfl ?_
        refine g_iload_n (i := 1) (q := 37) dX6_traceCall_36 rfl rfl rfl ?_
        refine g_icmp_eq (t := 49) (q := 40) dX6_traceCall_37 (by decide) rfl (fun h37 => ?_) (fun h37 => (False.elim (by omega)))
        refine g_iconst (q := 50) dX6_traceCall_49 rfl ⟨by decide, by decide⟩ ?_
        exact g_ret dX6_traceCall_50 rfl (by decide) (by first | exact ⟨rfl, rfl⟩ | (exfalso; omega))
      · have e : x_tc S f n w = (x_ha (x_hb S f) (S.2.1 8 (n / 10)), 2) := by unfold x_tc; rw [if_neg e1, if_pos e2, if_neg e3]
        rw [e]
        refine g_aload_n (i := 0) (q := 1) dX6_traceCall_0 rfl rfl rfl ?_
        refine g_getr (q := 4) dX6_traceCall_1 rfl fk_X6_51 rfl rfl ?_
        refine g_iload_n (i := 1) (q := 5) dX6_traceCall_4 rfl rfl rfl ?_
        refine g_fnV (as := [zI f]) (q := 8) (u' := 0) dX6_traceCall_5 rfl ck_X6_329 rfl rfl rfl (Nat.le_of_ble_eq_true rfl) (by decide) rfl (by decide) (s_X5_begin) rfl ?_
        refine g_aload_n (i := 0) (q := 9) dX6_traceCall_8 rfl rfl rfl ?_
        refine g_iload_n (i := 2) (q := 10) dX6_traceCall_9 rfl rfl rfl ?_
        refine g_fnV (as := [zI n]) (q := 13) (u' := 0) dX6_traceCall_10 rfl ck_X6_106 rfl rfl rfl (Nat.le_of_ble_eq_true rfl) (by decide) rfl (by decide) (s_X6_holderOf hn) rfl ?_
        refine g_top (z := S.2.1 8 (n / 10)) rfl ?_
        refine g_istore (q := 15) dX6_traceCall_13 rfl (by decide) ?_
        refine g_iload (q := 17) dX6_traceCall_15 rfl rfl ?_
        refine g_iconst (q := 18) dX6_traceCall_17 rfl ⟨by decide, by decide⟩ ?_
        refine g_icmp_ne (t := 23) (q := 21) dX6_traceCall_18 (by decide) rfl (fun h18 => ?_) (fun h18 => (False.elim (by omega)))
        refine g_aload_n (i := 0) (q := 24) dX6_traceCall_23 rfl rfl rfl ?_
        refine g_getr (q := 27) dX6_traceCall_24 rfl fk_X6_23 rfl rfl ?_
        refine g_iload_n (i := 2) (q := 28) dX6_traceCall_27 rfl rfl rfl ?_
        refine g_fnV (as := [zI n]) (q := 31) (u' := 0) dX6_traceCall_28 rfl ck_X6_109 rfl rfl rfl (Nat.le_of_ble_eq_true rfl) (by decide) rfl (by decide) (s_X1_isInUse_f hn (show S.2.1 13 n = -1 from e2)) rfl ?_
        refine g_if_ne (t := 51) (q := 34) dX6_traceCall_31 (by decide) rfl (fun h31 => (False.elim (by omega))) (fun h31 => ?_)
        refine g_iload (q := 36) dX6_traceCall_34 rfl rfl ?_
        refine g_iload_n (i := 1) (q := 37) dX6_traceCall_36 rfl rfl rfl ?_
        refine g_icmp_eq (t := 49) (q := 40) dX6_traceCall_37 (by decide) rfl (fun h37 => (False.elim (by omega))) (fun h37 => ?_)
        refine g_aload_n (i := 0) (q := 41) dX6_traceCall_40 rfl rfl rfl ?_
        refine g_getr (q := 44) dX6_traceCall_41 rfl fk_X6_51 rfl rfl ?_
        refine g_iload (q := 46) dX6_traceCall_44 rfl rfl ?_
        refine g_fnV (as := [zI (S.2.1 8 (n / 10))]) (q := 49) (u' := 0) dX6_traceCall_46 rfl ck_X6_331 rfl rfl rfl (Nat.le_of_ble_eq_true rfl) (by decide) rfl (by decide) (s_X5_add (show (0 : Int) ≤ 1 by omega) (show (1 : Int) < 7 by omega)) rfl ?_
        refine g_iconst (q := 50) dX6_traceCall_49 rfl ⟨by decide, by decide⟩ ?_
        exact g_ret dX6_traceCall_50 rfl (by decide) (by first | exact ⟨rfl, rfl⟩ | (exfalso; omega))
    · have e : x_tc S f n w = x_ft (x_hb S f) n w (S.2.1 8 (n / 10)) 1 6 := by unfold x_tc; rw [if_neg e1, if_neg e2]
      rw [e]
      refine g_aload_n (i := 0) (q := 1) dX6_traceCall_0 rfl rfl rfl ?_
      refine g_getr (q := 4) dX6_traceCall_1 rfl fk_X6_51 rfl rfl ?_
      refine g_iload_n (i := 1) (q := 5) dX6_traceCall_4 rfl rfl rfl ?_
      refine g_fnV (as := [zI f]) (q := 8) (u' := 0) dX6_traceCall_5 rfl ck_X6_329 rfl rfl rfl (Nat.le_of_ble_eq_true rfl) (by decide) rfl (by decide) (s_X5_begin) rfl ?_
      refine g_aload_n (i := 0) (q := 9) dX6_traceCall_8 rfl rfl rfl ?_
      refine g_iload_n (i := 2) (q := 10) dX6_traceCall_9 rfl rfl rfl ?_
      refine g_fnV (as := [zI n]) (q := 13) (u' := 0) dX6_traceCall_10 rfl ck_X6_106 rfl rfl rfl (Nat.le_of_ble_eq_true rfl) (by decide) rfl (by decide) (s_X6_holderOf hn) rfl ?_
      refine g_top (z := S.2.1 8 (n / 10)) rfl ?_
      refine g_istore (q := 15) dX6_traceCall_13 rfl (by decide) ?_
      refine g_iload (q := 17) dX6_traceCall_15 rfl rfl ?_
      refine g_iconst (q := 18) dX6_traceCall_17 rfl ⟨by decide, by decide⟩ ?_
      refine g_icmp_ne (t := 23) (q := 21) dX6_traceCall_18 (by decide) rfl (fun h18 => ?_) (fun h18 => (False.elim (by omega)))
      refine g_aload_n (i := 0) (q := 24) dX6_traceCall_23 rfl rfl rfl ?_
      refine g_getr (q := 27) dX6_traceCall_24 rfl fk_X6_23 rfl rfl ?_
      refine g_iload_n (i := 2) (q := 28) dX6_traceCall_27 rfl rfl rfl ?_
      refine g_fnV (as := [zI n]) (q := 31) (u' := 0) dX6_traceCall_28 rfl ck_X6_109 rfl rfl rfl (Nat.le_of_ble_eq_true rfl) (by decide) rfl (by decide) (s_X1_isInUse_t hn (show ¬ S.2.1 13 n = -1 from e2)) rfl ?_
      refine g_if_ne (t := 51) (q := 34) dX6_traceCall_31 (by decide) rfl (fun h31 => ?_) (fun h31 => (False.elim (by omega)))
      refine g_aload_n (i := 0) (q := 52) dX6_traceCall_51 rfl rfl rfl ?_
      refine g_iload_n (i := 2) (q := 53) dX6_traceCall_52 rfl rfl rfl ?_
      refine g_iload_n (i := 3) (q := 54) dX6_traceCall_53 rfl rfl rfl ?_
      refine g_iload (q := 56) dX6_traceCall_54 rfl rfl ?_
      refine g_fnV (as := [zI n, zI w, zI (S.2.1 8 (n / 10))]) (q := 59) (u' := 0) dX6_traceCall_56 rfl ck_X6_333 rfl rfl rfl (Nat.le_of_ble_eq_true rfl) (by decide) rfl (by decide) (s_X6_followTables (xT_hb hf hn (by omega) ht) hgone) rfl ?_
      exact g_ret dX6_traceCall_59 rfl (by decide) (by first | exact ⟨rfl, rfl⟩ | (exfalso; omega))
/-- who pays for a call that has arrived -/
def x_pfl (S : zS) : Nat → Nat → zS
  | _, 0 => S
  | i, k + 1 => x_pfl (x_pay S (S.2.1 39 0) (S.2.1 39 i) 1) (i + 1) k
def x_pf (S : zS) : zS := if S.1 4 - 1 < 1 then S else x_pfl (x_pay S (S.2.1 39 0) (S.2.1 39 (S.1 4 - 1)) 3) 1 (S.1 4 - 2).toNat
theorem x_pay_39 {S : zS} {p t m j : Int} : (x_pay S p t m).2.1 39 j = S.2.1 39 j := by
  unfold x_pay
  rw [za_ne (by omega), za_ne (by omega)]
theorem l_X6_payForCall {Q : zQ} {f : Int} {len : Nat} (hf : 0 ≤ f ∧ f < 6) (h7 : len ≤ 7) : ∀ (k i : Nat) (S : zS), i + k + 1 = len → 1 ≤ i → S.1 4 = len → S.2.1 39 0 = f → (∀ j : Int, 0 ≤ j → j < len → 0 ≤ S.2.1 39 j ∧ S.2.1 39 j < 6) → Q (.ok none) (x_pfl S i k) → z_G mX6_payForCall (z_F mX6_payForCall Q) 0 44 [some (zR 0), some (zI f), some (zI ((len : Int) - 1)), some (zI (i : Int))] [] S := by
  intro k
  induction k with
  | zero =>
    intro i S hi h1 hl h0 hr hQ
    refine g_iload_n (i := 3) (q := 45) dX6_payForCall_44 rfl rfl rfl ?_
    refine g_iload_n (i := 2) (q := 46) dX6_payForCall_45 rfl rfl rfl ?_
    refine g_icmp_ge (t := 72) (q := 49) dX6_payForCall_46 (by decide) rfl (fun h46 => ?_) (fun h46 => (False.elim (by omega)))
    exact g_retv dX6_payForCall_72 rfl (by decide) hQ
  | succ k ih =>
    intro i S hi h1 hl h0 hr hQ
    have hr1 := hr (i : Int) (by omega) (by omega)
    rw [x_pfl, h0] at hQ
    refine g_iload_n (i := 3) (q := 45) dX6_payForCall_44 rfl rfl rfl ?_
    refine g_iload_n (i := 2) (q := 46) dX6_payForCall_45 rfl rfl rfl ?_
    refine g_icmp_ge (t := 72) (q := 49) dX6_payForCall_46 (by decide) rfl (fun h46 => (False.elim (by omega))) (fun h46 => ?_)
    refine g_aload_n (i := 0) (q := 50) dX6_payForCall_49 rfl rfl rfl ?_
    refine g_getr (q := 53) dX6_payForCall_50 rfl fk_X6_16 rfl rfl ?_
    refine g_iload_n (i := 1) (q := 54) dX6_payForCall_53 rfl rfl rfl ?_
    refine g_aload_n (i := 0) (q := 55) dX6_payForCall_54 rfl rfl rfl ?_
    refine g_getr (q := 58) dX6_payForCall_55 rfl fk_X6_51 rfl rfl ?_
    refine g_iload_n (i := 3) (q := 59) dX6_payForCall_58 rfl rfl rfl ?_
    refine g_fnV (as := [zI (i : Int)]) (q := 62) (u' := 0) dX6_payForCall_59 rfl ck_X6_289 rfl rfl rfl (Nat.le_of_ble_eq_true rfl) (by decide) rfl (by decide) (s_X5_hopAt (by omega)) rfl ?_
    refine g_top (z := S.2.1 39 (i : Int)) (by unfold x_hop; rw [if_pos (by omega)]) ?_
    refine g_iconst (q := 63) dX6_payForCall_62 rfl ⟨by decide, by decide⟩ ?_
    refine g_fnV (as := [zI f, zI (S.2.1 39 (i : Int)), zI 1]) (q := 66) (u' := 0) dX6_payForCall_63 rfl ck_X6_216 rfl rfl rfl (Nat.le_of_ble_eq_true rfl) (by decide) rfl (by decide) (s_X2_pay (by omega) (by omega)) rfl ?_
    refine g_iinc (q := 69) (i := 3) (n := 1) dX6_payForCall_66 rfl rfl (by constructor <;> omega) ?_
    refine g_goto (q := 0) (t := 44) dX6_payForCall_69 (by decide) ?_
    exact ih (i + 1) _ (by omega) (by omega) hl (by rw [x_pay_39]; exact h0) (fun j a b => by rw [x_pay_39]; exact hr j a b) hQ
theorem s_X6_payForCall {S : zS} {len : Nat} (hl : S.1 4 = len) (h1 : 1 ≤ len) (h7 : len ≤ 7) (hr : ∀ j : Int, 0 ≤ j → j < len → 0 ≤ S.2.1 39 j ∧ S.2.1 39 j < 6) : z_Fn mX6_payForCall [zR 0] S none (x_pf S) := by
  have hr0 := hr 0 (by omega) (by omega)
  have hr1 := hr (S.1 4 - 1) (by omega) (by omega)
  refine z_enter (by decide +kernel) rfl (z_n1 trivial z_n0) (Nat.le_of_ble_eq_true rfl) ?_
  by_cases e1 : S.1 4 - 1 < 1
  · have e : x_pf S = S := by unfold x_pf; rw [if_pos e1]
    rw [e]
    refine g_aload_n (i := 0) (q := 1) dX6_payForCall_0 rfl rfl rfl ?_
    refine g_getr (q := 4) dX6_payForCall_1 rfl fk_X6_51 rfl rfl ?_
    refine g_iconst (q := 5) dX6_payForCall_4 rfl ⟨by decide, by decide⟩ ?_
    refine g_fnV (as := [zI 0]) (q := 8) (u' := 0) dX6_payForCall_5 rfl ck_X6_289 rfl rfl rfl (Nat.le_of_ble_eq_true rfl) (by decide) rfl (by decide) (s_X5_hopAt (by omega)) rfl ?_
    refine g_top (z := S.2.1 39 0) (by unfold x_hop; rw [if_pos (by omega)]) ?_
    refine g_istore_n (i := 1) (q := 9) dX6_payForCall_8 rfl rfl (by decide) ?_
    refine g_aload_n (i := 0) (q := 10) dX6_payForCall_9 rfl rfl rfl ?_
    refine g_getr (q := 13) dX6_payForCall_10 rfl fk_X6_51 rfl rfl ?_
    refine g_getv (q := 16) (z := S.1 4) dX6_payForCall_13 rfl fk_X6_339 rfl rfl rfl ?_
    refine g_iconst (q := 17) dX6_payForCall_16 rfl ⟨by decide, by decide⟩ ?_
    refine g_isub (q := 18) dX6_payForCall_17 rfl (by constructor <;> omega) ?_
    refine g_istore_n (i := 2) (q := 19) dX6_payForCall_18 rfl rfl (by decide) ?_
    refine g_iload_n (i := 2) (q := 20) dX6_payForCall_19 rfl rfl rfl ?_
    refine g_iconst (q := 21) dX6_payForCall_20 rfl ⟨by decide, by decide⟩ ?_
    refine g_icmp_ge (t := 25) (q := 24) dX6_payForCall_21 (by decide) rfl (fun h21 => (False.elim (by omega))) (fun h21 => ?_)
    exact g_retv dX6_payForCall_24 rfl (by decide) (by first | exact ⟨rfl, rfl⟩ | (exfalso; omega))
  · have e : x_pf S = x_pfl (x_pay S (S.2.1 39 0) (S.2.1 39 (S.1 4 - 1)) 3) 1 (S.1 4 - 2).toNat := by unfold x_pf; rw [if_neg e1]
    rw [e]
    refine g_aload_n (i := 0) (q := 1) dX6_payForCall_0 rfl rfl rfl ?_
    refine g_getr (q := 4) dX6_payForCall_1 rfl fk_X6_51 rfl rfl ?_
    refine g_iconst (q := 5) dX6_payForCall_4 rfl ⟨by decide, by decide⟩ ?_
    refine g_fnV (as := [zI 0]) (q := 8) (u' := 0) dX6_payForCall_5 rfl ck_X6_289 rfl rfl rfl (Nat.le_of_ble_eq_true rfl) (by decide) rfl (by decide) (s_X5_hopAt (by omega)) rfl ?_
    refine g_top (z := S.2.1 39 0) (by unfold x_hop; rw [if_pos (by omega)]) ?_
    refine g_istore_n (i := 1) (q := 9) dX6_payForCall_8 rfl rfl (by decide) ?_
    refine g_aload_n (i := 0) (q := 10) dX6_payForCall_9 rfl rfl rfl ?_
    refine g_getr (q := 13) dX6_payForCall_10 rfl fk_X6_51 rfl rfl ?_
    refine g_getv (q := 16) (z := S.1 4) dX6_payForCall_13 rfl fk_X6_339 rfl rfl rfl ?_
    refine g_iconst (q := 17) dX6_payForCall_16 rfl ⟨by decide, by decide⟩ ?_
    refine g_isub (q := 18) dX6_payForCall_17 rfl (by constructor <;> omega) ?_
    refine g_istore_n (i := 2) (q := 19) dX6_payForCall_18 rfl rfl (by decide) ?_
    refine g_iload_n (i := 2) (q := 20) dX6_payForCall_19 rfl rfl rfl ?_
    refine g_iconst (q := 21) dX6_payForCall_20 rfl ⟨by decide, by decide⟩ ?_
    refine g_icmp_ge (t := 25) (q := 24) dX6_payForCall_21 (by decide) rfl (fun h21 => ?_) (fun h21 => (False.elim (by omega)))
    refine g_aload_n (i := 0) (q := 26) dX6_payForCall_25 rfl rfl rfl ?_
    refine g_getr (q := 29) dX6_payForCall_26 rfl fk_X6_16 rfl rfl ?_
    refine g_iload_n (i := 1) (q := 30) dX6_payForCall_29 rfl rfl rfl ?_
    refine g_aload_n (i := 0) (q := 31) dX6_payForCall_30 rfl rfl rfl ?_
    refine g_getr (q := 34) dX6_payForCall_31 rfl fk_X6_51 rfl rfl ?_
    refine g_iload_n (i := 2) (q := 35) dX6_payForCall_34 rfl rfl rfl ?_
    refine g_fnV (as := [zI ((S.1 4) - 1)]) (q := 38) (u' := 0) dX6_payForCall_35 rfl ck_X6_289 rfl rfl rfl (Nat.le_of_ble_eq_true rfl) (by decide) rfl (by decide) (s_X5_hopAt (by omega)) rfl ?_
    refine g_top (z := S.2.1 39 (S.1 4 - 1)) (by unfold x_hop; rw [if_pos (by omega)]) ?_
    refine g_iconst (q := 39) dX6_payForCall_38 rfl ⟨by decide, by decide⟩ ?_
    refine g_fnV (as := [zI (S.2.1 39 0), zI (S.2.1 39 (S.1 4 - 1)), zI 3]) (q := 42) (u' := 0) dX6_payForCall_39 rfl ck_X6_216 rfl rfl rfl (Nat.le_of_ble_eq_true rfl) (by decide) rfl (by decide) (s_X2_pay (by omega) (by omega)) rfl ?_
    refine g_iconst (q := 43) dX6_payForCall_42 rfl ⟨by decide, by decide⟩ ?_
    refine g_istore_n (i := 3) (q := 44) dX6_payForCall_43 rfl rfl (by decide) ?_
    have hk := l_X6_payForCall (Q := fun x T => x = .ok none ∧ T = x_pfl (x_pay S (S.2.1 39 0) (S.2.1 39 (S.1 4 - 1)) 3) 1 (S.1 4 - 2).toNat) hr0 h7 (S.1 4 - 2).toNat 1 (x_pay S (S.2.1 39 0) (S.2.1 39 (S.1 4 - 1)) 3) (by omega) (by omega) hl (by rw [x_pay_39]) (fun j a b => by rw [x_pay_39]; exact hr j a b) ⟨rfl, rfl⟩
    rw [← hl] at hk
    exact hk
end
section
/-! ===== the class's public calls: what they answer, what they leave ===== -/
abbrev zO : Type := Except String (Option zV) × zS
abbrev z_Out (M : zM) (as : List zV) (S : zS) (o : zO) : Prop := z_Sp M as S (fun x T => x = o.1 ∧ T = o.2)
abbrev zI? (z : Int) : Except String (Option zV) := .ok (some (zI z))
def o_give (S : zS) (b f : Int) : zO := if ¬ ((0 ≤ b ∧ b < 20) ∧ (0 ≤ f ∧ f < 6)) then (.error xI, S) else if ¬ S.2.1 8 b = -1 ∨ ¬ S.2.1 9 f = 0 then (.error xS, S) else (zI? (x_cb (z_sA S 8 b f) f 20), z_sA S 8 b f)
theorem c_give {S : zS} {b f : Int} : z_Out mX6_give [zR 0, zI b, zI f] S (o_give S b f) := by
  refine z_enter (by decide +kernel) rfl (z_n1 trivial (z_n1 trivial (z_n1 trivial z_n0))) (Nat.le_of_ble_eq_true rfl) ?_
  refine g_iload_n (i := 1) (q := 1) dX6_give_0 rfl rfl rfl ?_
  by_cases c1 : 0 ≤ b ∧ b < 20
  · refine g_fnS (as := [zI b]) (q := 4) (u' := 0) dX6_give_1 rfl ck_X6_65 rfl rfl (Nat.le_of_ble_eq_true rfl) (by decide) rfl (by decide) (s_X6_isBlock_t c1) rfl ?_
    refine g_if_eq (t := 14) (q := 7) dX6_give_4 (by decide) rfl (fun h4 => (False.elim (by omega))) (fun h4 => ?_)
    refine g_iload_n (i := 2) (q := 8) dX6_give_7 rfl rfl rfl ?_
    by_cases c8 : 0 ≤ f ∧ f < 6
    · refine g_fnS (as := [zI f]) (q := 11) (u' := 0) dX6_give_8 rfl ck_X6_69 rfl rfl (Nat.le_of_ble_eq_true rfl) (by decide) rfl (by decide) (s_X6_isFirm_t c8) rfl ?_
      refine g_if_ne (t := 24) (q := 14) dX6_give_11 (by decide) rfl (fun h11 => ?_) (fun h11 => (False.elim (by omega)))
      refine g_aload_n (i := 0) (q := 25) dX6_give_24 rfl rfl rfl ?_
      refine g_getr (q := 28) dX6_give_25 rfl fk_X6_9 rfl rfl ?_
      refine g_iload_n (i := 1) (q := 29) dX6_give_28 rfl rfl rfl ?_
      refine g_ildv (q := 30) (z := S.2.1 8 b) dX6_give_29 rfl ⟨by decide, rfl, rfl⟩ (by omega) (by omega) rfl ?_
      refine g_iconst (q := 31) dX6_give_30 rfl ⟨by decide, by decide⟩ ?_
      refine g_icmp_ne (t := 46) (q := 34) dX6_give_31 (by decide) rfl (fun h31 => ?_) (fun h31 => ?_)
      · exact g_throw (text := "the block is given, or the firm is gone") rfl rfl z_tk_S (by decide +kernel) dX6_give_46 dX6_give_49 dX6_give_50 dX6_give_52 dX6_give_55 (by decide) (by decide) (by decide) (by unfold o_give; (repeat (first | rw [if_pos (by omega)] | rw [if_neg (by omega)])); exact ⟨rfl, rfl⟩)
      · refine g_aload_n (i := 0) (q := 35) dX6_give_34 rfl rfl rfl ?_
        refine g_getr (q := 38) dX6_give_35 rfl fk_X6_16 rfl rfl ?_
        refine g_getr (q := 41) dX6_give_38 rfl fk_X6_79 rfl rfl ?_
        refine g_iload_n (i := 2) (q := 42) dX6_give_41 rfl rfl rfl ?_
        refine g_zldv (q := 43) (z := S.2.1 9 f) dX6_give_42 rfl ⟨by decide, rfl, rfl⟩ (by omega) (by omega) rfl ?_
        refine g_if_eq (t := 56) (q := 46) dX6_give_43 (by decide) rfl (fun h43 => ?_) (fun h43 => ?_)
        · refine g_aload_n (i := 0) (q := 57) dX6_give_56 rfl rfl rfl ?_
          refine g_getr (q := 60) dX6_give_57 rfl fk_X6_9 rfl rfl ?_
          refine g_iload_n (i := 1) (q := 61) dX6_give_60 rfl rfl rfl ?_
          refine g_iload_n (i := 2) (q := 62) dX6_give_61 rfl rfl rfl ?_
          refine g_iast (q := 63) dX6_give_62 rfl ⟨by decide, rfl, rfl⟩ (by omega) (by omega) ?_
          refine g_aload_n (i := 0) (q := 64) dX6_give_63 rfl rfl rfl ?_
          refine g_iload_n (i := 2) (q := 65) dX6_give_64 rfl rfl rfl ?_
          refine g_fnV (as := [zI f]) (q := 68) (u' := 0) dX6_give_65 rfl ck_X6_88 rfl rfl rfl (Nat.le_of_ble_eq_true rfl) (by decide) rfl (by decide) (s_X6_countBlocksOf) rfl ?_
          exact g_ret dX6_give_68 rfl (by decide) (by unfold o_give; (repeat (first | rw [if_pos (by omega)] | rw [if_neg (by omega)])); exact ⟨rfl, rfl⟩)
        · exact g_throw (text := "the block is given, or the firm is gone") rfl rfl z_tk_S (by decide +kernel) dX6_give_46 dX6_give_49 dX6_give_50 dX6_give_52 dX6_give_55 (by decide) (by decide) (by decide) (by unfold o_give; (repeat (first | rw [if_pos (by omega)] | rw [if_neg (by omega)])); exact ⟨rfl, rfl⟩)
    · refine g_fnS (as := [zI f]) (q := 11) (u' := 0) dX6_give_8 rfl ck_X6_69 rfl rfl (Nat.le_of_ble_eq_true rfl) (by decide) rfl (by decide) (s_X6_isFirm_f c8) rfl ?_
      refine g_if_ne (t := 24) (q := 14) dX6_give_11 (by decide) rfl (fun h11 => (False.elim (by omega))) (fun h11 => ?_)
      exact g_throw (text := "no such block or firm") rfl rfl z_tk_I (by decide +kernel) dX6_give_14 dX6_give_17 dX6_give_18 dX6_give_20 dX6_give_23 (by decide) (by decide) (by decide) (by unfold o_give; (repeat (first | rw [if_pos (by omega)] | rw [if_neg (by omega)])); exact ⟨rfl, rfl⟩)
  · refine g_fnS (as := [zI b]) (q := 4) (u' := 0) dX6_give_1 rfl ck_X6_65 rfl rfl (Nat.le_of_ble_eq_true rfl) (by decide) rfl (by decide) (s_X6_isBlock_f c1) rfl ?_
    refine g_if_eq (t := 14) (q := 7) dX6_give_4 (by decide) rfl (fun h4 => ?_) (fun h4 => (False.elim (by omega)))
    exact g_throw (text := "no such block or firm") rfl rfl z_tk_I (by decide +kernel) dX6_give_14 dX6_give_17 dX6_give_18 dX6_give_20 dX6_give_23 (by decide) (by decide) (by decide) (by unfold o_give; (repeat (first | rw [if_pos (by omega)] | rw [if_neg (by omega)])); exact ⟨rfl, rfl⟩)
def o_giveBack (S : zS) (b : Int) : zO := if ¬ (0 ≤ b ∧ b < 20) then (.error xI, S) else if S.2.1 8 b = -1 then (.error xS, S) else if x_bb S (10 * b.toNat) 10 = true then (.error xS, S) else (zI? (S.2.1 8 b), z_sA S 8 b (-1))
theorem c_giveBack {S : zS} {b : Int} : z_Out mX6_giveBack [zR 0, zI b] S (o_giveBack S b) := by
  refine z_enter (by decide +kernel) rfl (z_n1 trivial (z_n1 trivial z_n0)) (Nat.le_of_ble_eq_true rfl) ?_
  by_cases hb : 0 ≤ b ∧ b < 20
  · obtain ⟨k, rfl⟩ : ∃ k : Nat, b = k := ⟨b.toNat, by omega⟩
    have sp := s_X6_isBlockBusy (S := S) (b := k) (by omega)
    by_cases hx : x_bb S (10 * k) 10 = true
    · rw [if_pos hx] at sp
      refine g_iload_n (i := 1) (q := 1) dX6_giveBack_0 rfl rfl rfl ?_
      refine g_fnS (as := [zI (k : Int)]) (q := 4) (u' := 0) dX6_giveBack_1 rfl ck_X6_65 rfl rfl (Nat.le_of_ble_eq_true rfl) (by decide) rfl (by decide) (s_X6_isBlock_t hb) rfl ?_
      refine g_if_ne (t := 17) (q := 7) dX6_giveBack_4 (by decide) rfl (fun h4 => ?_) (fun h4 => (False.elim (by omega)))
      refine g_aload_n (i := 0) (q := 18) dX6_giveBack_17 rfl rfl rfl ?_
      refine g_getr (q := 21) dX6_giveBack_18 rfl fk_X6_9 rfl rfl ?_
      refine g_iload_n (i := 1) (q := 22) dX6_giveBack_21 rfl rfl rfl ?_
      refine g_ildv (q := 23) (z := S.2.1 8 (k : Int)) dX6_giveBack_22 rfl ⟨by decide, rfl, rfl⟩ (by omega) (by omega) rfl ?_
      refine g_iconst (q := 24) dX6_giveBack_23 rfl ⟨by decide, by decide⟩ ?_
      refine g_icmp_eq (t := 35) (q := 27) dX6_giveBack_24 (by decide) rfl (fun h24 => ?_) (fun h24 => ?_)
      · exact g_throw (text := "the block is not given, or one of its numbers is not free") rfl rfl z_tk_S (by decide +kernel) dX6_giveBack_35 dX6_giveBack_38 dX6_giveBack_39 dX6_giveBack_41 dX6_giveBack_44 (by decide) (by decide) (by decide) (by unfold o_giveBack; rw [Int.toNat_natCast, if_neg (by omega)]; first | (rw [if_pos (by omega)]; exact ⟨rfl, rfl⟩) | (rw [if_neg (by omega), if_pos hx]; exact ⟨rfl, rfl⟩))
      · refine g_aload_n (i := 0) (q := 28) dX6_giveBack_27 rfl rfl rfl ?_
        refine g_iload_n (i := 1) (q := 29) dX6_giveBack_28 rfl rfl rfl ?_
        refine g_fnV (as := [zI (k : Int)]) (q := 32) (u' := 0) dX6_giveBack_29 rfl ck_X6_94 rfl rfl rfl (Nat.le_of_ble_eq_true rfl) (by decide) rfl (by decide) (sp) rfl ?_
        refine g_if_eq (t := 45) (q := 35) dX6_giveBack_32 (by decide) rfl (fun h32 => (False.elim (by omega))) (fun h32 => ?_)
        exact g_throw (text := "the block is not given, or one of its numbers is not free") rfl rfl z_tk_S (by decide +kernel) dX6_giveBack_35 dX6_giveBack_38 dX6_giveBack_39 dX6_giveBack_41 dX6_giveBack_44 (by decide) (by decide) (by decide) (by unfold o_giveBack; rw [Int.toNat_natCast, if_neg (by omega)]; first | (rw [if_pos (by omega)]; exact ⟨rfl, rfl⟩) | (rw [if_neg (by omega), if_pos hx]; exact ⟨rfl, rfl⟩))
    · rw [if_neg hx] at sp
      refine g_iload_n (i := 1) (q := 1) dX6_giveBack_0 rfl rfl rfl ?_
      refine g_fnS (as := [zI (k : Int)]) (q := 4) (u' := 0) dX6_giveBack_1 rfl ck_X6_65 rfl rfl (Nat.le_of_ble_eq_true rfl) (by decide) rfl (by decide) (s_X6_isBlock_t hb) rfl ?_
      refine g_if_ne (t := 17) (q := 7) dX6_giveBack_4 (by decide) rfl (fun h4 => ?_) (fun h4 => (False.elim (by omega)))
      refine g_aload_n (i := 0) (q := 18) dX6_giveBack_17 rfl rfl rfl ?_
      refine g_getr (q := 21) dX6_giveBack_18 rfl fk_X6_9 rfl rfl ?_
      refine g_iload_n (i := 1) (q := 22) dX6_giveBack_21 rfl rfl rfl ?_
      refine g_ildv (q := 23) (z := S.2.1 8 (k : Int)) dX6_giveBack_22 rfl ⟨by decide, rfl, rfl⟩ (by omega) (by omega) rfl ?_
      refine g_iconst (q := 24) dX6_giveBack_23 rfl ⟨by decide, by decide⟩ ?_
      refine g_icmp_eq (t := 35) (q := 27) dX6_giveBack_24 (by decide) rfl (fun h24 => ?_) (fun h24 => ?_)
      · exact g_throw (text := "the block is not given, or one of its numbers is not free") rfl rfl z_tk_S (by decide +kernel) dX6_giveBack_35 dX6_giveBack_38 dX6_giveBack_39 dX6_giveBack_41 dX6_giveBack_44 (by decide) (by decide) (by decide) (by unfold o_giveBack; rw [Int.toNat_natCast, if_neg (by omega)]; first | (rw [if_pos (by omega)]; exact ⟨rfl, rfl⟩) | (rw [if_neg (by omega), if_neg hx]; exact ⟨rfl, rfl⟩))
      · refine g_aload_n (i := 0) (q := 28) dX6_giveBack_27 rfl rfl rfl ?_
        refine g_iload_n (i := 1) (q := 29) dX6_giveBack_28 rfl rfl rfl ?_
        refine g_fnV (as := [zI (k : Int)]) (q := 32) (u' := 0) dX6_giveBack_29 rfl ck_X6_94 rfl rfl rfl (Nat.le_of_ble_eq_true rfl) (by decide) rfl (by decide) (sp) rfl ?_
        refine g_if_eq (t := 45) (q := 35) dX6_giveBack_32 (by decide) rfl (fun h32 => ?_) (fun h32 => (False.elim (by omega)))
        refine g_aload_n (i := 0) (q := 46) dX6_giveBack_45 rfl rfl rfl ?_
        refine g_getr (q := 49) dX6_giveBack_46 rfl fk_X6_9 rfl rfl ?_
        refine g_iload_n (i := 1) (q := 50) dX6_giveBack_49 rfl rfl rfl ?_
        refine g_ildv (q := 51) (z := S.2.1 8 (k : Int)) dX6_giveBack_50 rfl ⟨by decide, rfl, rfl⟩ (by omega) (by omega) rfl ?_
        refine g_istore_n (i := 2) (q := 52) dX6_giveBack_51 rfl rfl (by decide) ?_
        refine g_aload_n (i := 0) (q := 53) dX6_giveBack_52 rfl rfl rfl ?_
        refine g_getr (q := 56) dX6_giveBack_53 rfl fk_X6_9 rfl rfl ?_
        refine g_iload_n (i := 1) (q := 57) dX6_giveBack_56 rfl rfl rfl ?_
        refine g_iconst (q := 58) dX6_giveBack_57 rfl ⟨by decide, by decide⟩ ?_
        refine g_iast (q := 59) dX6_giveBack_58 rfl ⟨by decide, rfl, rfl⟩ (by omega) (by omega) ?_
        refine g_iload_n (i := 2) (q := 60) dX6_giveBack_59 rfl rfl rfl ?_
        exact g_ret dX6_giveBack_60 rfl (by decide) (by unfold o_giveBack; rw [Int.toNat_natCast, if_neg (by omega)]; first | (rw [if_pos (by omega)]; exact ⟨rfl, rfl⟩) | (rw [if_neg (by omega), if_neg hx]; exact ⟨rfl, rfl⟩))
  · skip
    refine g_iload_n (i := 1) (q := 1) dX6_giveBack_0 rfl rfl rfl ?_
    refine g_fnS (as := [zI b]) (q := 4) (u' := 0) dX6_giveBack_1 rfl ck_X6_65 rfl rfl (Nat.le_of_ble_eq_true rfl) (by decide) rfl (by decide) (s_X6_isBlock_f hb) rfl ?_
    refine g_if_ne (t := 17) (q := 7) dX6_giveBack_4 (by decide) rfl (fun h4 => (False.elim (by omega))) (fun h4 => ?_)
    exact g_throw (text := "no such block") rfl rfl z_tk_I (by decide +kernel) dX6_giveBack_7 dX6_giveBack_10 dX6_giveBack_11 dX6_giveBack_13 dX6_giveBack_16 (by decide) (by decide) (by decide) (by unfold o_giveBack; (repeat (first | rw [if_pos (by omega)] | rw [if_neg (by omega)])); exact ⟨rfl, rfl⟩)
def o_assign (S : zS) (n t : Int) : zO := if ¬ (0 ≤ n ∧ n < 200) then (.error xI, S) else if ¬ (0 ≤ t ∧ t < 100) then (.error xA, S) else if S.2.1 8 (n / 10) = -1 ∨ ¬ S.2.1 13 n = -1 ∨ S.1 0 ≤ S.2.1 15 n then (.error xS, S) else (zI? (S.2.1 8 (n / 10)), x_note (z_sA (z_sA S 13 n (S.2.1 8 (n / 10))) 14 n t) 0 n (S.2.1 8 (n / 10)))
theorem c_assign {S : zS} {n t : Int} (h3 : 0 ≤ S.1 3 ∧ S.1 3 < 572) : z_Out mX6_assign [zR 0, zI n, zI t] S (o_assign S n t) := by
  refine z_enter (by decide +kernel) rfl (z_n1 trivial (z_n1 trivial (z_n1 trivial z_n0))) (Nat.le_of_ble_eq_true rfl) ?_
  refine g_iload_n (i := 1) (q := 1) dX6_assign_0 rfl rfl rfl ?_
  by_cases c1 : 0 ≤ n ∧ n < 200
  · skip
    refine g_fnS (as := [zI n]) (q := 4) (u' := 1) dX6_assign_1 rfl ck_X6_99 rfl rfl (Nat.le_of_ble_eq_true rfl) (by decide) rfl (by decide) (s_X6_requireNumber_ok c1) rfl ?_
    refine g_iload_n (i := 2) (q := 5) dX6_assign_4 rfl rfl rfl ?_
    by_cases c5 : 0 ≤ t ∧ t < 100
    · skip
      refine g_fnS (as := [zI t]) (q := 8) (u' := 2) dX6_assign_5 rfl ck_X6_103 rfl rfl (Nat.le_of_ble_eq_true rfl) (by decide) rfl (by decide) (s_X6_requireSecret_ok c5) rfl ?_
      refine g_aload_n (i := 0) (q := 9) dX6_assign_8 rfl rfl rfl ?_
      refine g_iload_n (i := 1) (q := 10) dX6_assign_9 rfl rfl rfl ?_
      refine g_fnV (as := [zI n]) (q := 13) (u' := 2) dX6_assign_10 rfl ck_X6_106 rfl rfl rfl (Nat.le_of_ble_eq_true rfl) (by decide) rfl (by decide) (s_X6_holderOf (by omega)) rfl ?_
      refine g_istore_n (i := 3) (q := 14) dX6_assign_13 rfl rfl (by decide) ?_
      refine g_iload_n (i := 3) (q := 15) dX6_assign_14 rfl rfl rfl ?_
      refine g_iconst (q := 16) dX6_assign_15 rfl ⟨by decide, by decide⟩ ?_
      refine g_icmp_eq (t := 45) (q := 19) dX6_assign_16 (by decide) rfl (fun h16 => ?_) (fun h16 => ?_)
      · exact g_throw (text := "the block is not given, or the number is not free") rfl rfl z_tk_S (by decide +kernel) dX6_assign_45 dX6_assign_48 dX6_assign_49 dX6_assign_51 dX6_assign_54 (by decide) (by decide) (by decide) (by unfold o_assign; (repeat (first | rw [if_pos (by omega)] | rw [if_neg (by omega)])); exact ⟨rfl, rfl⟩)
      · refine g_aload_n (i := 0) (q := 20) dX6_assign_19 rfl rfl rfl ?_
        refine g_getr (q := 23) dX6_assign_20 rfl fk_X6_23 rfl rfl ?_
        refine g_iload_n (i := 1) (q := 24) dX6_assign_23 rfl rfl rfl ?_
        by_cases c24 : ¬ (S).2.1 13 n = -1
        · refine g_fnV (as := [zI n]) (q := 27) (u' := 2) dX6_assign_24 rfl ck_X6_109 rfl rfl rfl (Nat.le_of_ble_eq_true rfl) (by decide) rfl (by decide) (s_X1_isInUse_t (by omega) c24) rfl ?_
          refine g_if_ne (t := 45) (q := 30) dX6_assign_27 (by decide) rfl (fun h27 => ?_) (fun h27 => (False.elim (by omega)))
          exact g_throw (text := "the block is not given, or the number is not free") rfl rfl z_tk_S (by decide +kernel) dX6_assign_45 dX6_assign_48 dX6_assign_49 dX6_assign_51 dX6_assign_54 (by decide) (by decide) (by decide) (by unfold o_assign; (repeat (first | rw [if_pos (by omega)] | rw [if_neg (by omega)])); exact ⟨rfl, rfl⟩)
        · refine g_fnV (as := [zI n]) (q := 27) (u' := 2) dX6_assign_24 rfl ck_X6_109 rfl rfl rfl (Nat.le_of_ble_eq_true rfl) (by decide) rfl (by decide) (s_X1_isInUse_f (by omega) (Decidable.not_not.mp c24)) rfl ?_
          refine g_if_ne (t := 45) (q := 30) dX6_assign_27 (by decide) rfl (fun h27 => (False.elim (by omega))) (fun h27 => ?_)
          refine g_aload_n (i := 0) (q := 31) dX6_assign_30 rfl rfl rfl ?_
          refine g_getr (q := 34) dX6_assign_31 rfl fk_X6_23 rfl rfl ?_
          refine g_iload_n (i := 1) (q := 35) dX6_assign_34 rfl rfl rfl ?_
          refine g_aload_n (i := 0) (q := 36) dX6_assign_35 rfl rfl rfl ?_
          refine g_getv (q := 39) (z := S.1 0) dX6_assign_36 rfl fk_X6_55 rfl rfl rfl ?_
          by_cases c39 : S.1 0 ≤ (S).2.1 15 n
          · refine g_fnV (as := [zI n, zI (S.1 0)]) (q := 42) (u' := 2) dX6_assign_39 rfl ck_X6_112 rfl rfl rfl (Nat.le_of_ble_eq_true rfl) (by decide) rfl (by decide) (s_X1_isInQuarantine_t (by omega) c39) rfl ?_
            refine g_if_eq (t := 55) (q := 45) dX6_assign_42 (by decide) rfl (fun h42 => (False.elim (by omega))) (fun h42 => ?_)
            exact g_throw (text := "the block is not given, or the number is not free") rfl rfl z_tk_S (by decide +kernel) dX6_assign_45 dX6_assign_48 dX6_assign_49 dX6_assign_51 dX6_assign_54 (by decide) (by decide) (by decide) (by unfold o_assign; (repeat (first | rw [if_pos (by omega)] | rw [if_neg (by omega)])); exact ⟨rfl, rfl⟩)
          · refine g_fnV (as := [zI n, zI (S.1 0)]) (q := 42) (u' := 2) dX6_assign_39 rfl ck_X6_112 rfl rfl rfl (Nat.le_of_ble_eq_true rfl) (by decide) rfl (by decide) (s_X1_isInQuarantine_f (by omega) c39) rfl ?_
            refine g_if_eq (t := 55) (q := 45) dX6_assign_42 (by decide) rfl (fun h42 => ?_) (fun h42 => (False.elim (by omega)))
            refine g_aload_n (i := 0) (q := 56) dX6_assign_55 rfl rfl rfl ?_
            refine g_getr (q := 59) dX6_assign_56 rfl fk_X6_23 rfl rfl ?_
            refine g_iload_n (i := 1) (q := 60) dX6_assign_59 rfl rfl rfl ?_
            refine g_iload_n (i := 3) (q := 61) dX6_assign_60 rfl rfl rfl ?_
            refine g_iload_n (i := 2) (q := 62) dX6_assign_61 rfl rfl rfl ?_
            refine g_fnV (as := [zI n, zI ((S).2.1 8 (n / 10)), zI t]) (q := 65) (u' := 2) dX6_assign_62 rfl ck_X6_118 rfl rfl rfl (Nat.le_of_ble_eq_true rfl) (by decide) rfl (by decide) (s_X1_begin (by omega)) rfl ?_
            refine g_aload_n (i := 0) (q := 66) dX6_assign_65 rfl rfl rfl ?_
            refine g_getr (q := 69) dX6_assign_66 rfl fk_X6_44 rfl rfl ?_
            refine g_iload_n (i := 1) (q := 70) dX6_assign_69 rfl rfl rfl ?_
            refine g_iload_n (i := 3) (q := 71) dX6_assign_70 rfl rfl rfl ?_
            refine g_fnV (as := [zI n, zI ((S).2.1 8 (n / 10))]) (q := 74) (u' := 2) dX6_assign_71 rfl ck_X6_122 rfl rfl rfl (Nat.le_of_ble_eq_true rfl) (by decide) rfl (by decide) (s_X3_serves h3.1 h3.2) rfl ?_
            refine g_iload_n (i := 3) (q := 75) dX6_assign_74 rfl rfl rfl ?_
            exact g_ret dX6_assign_75 rfl (by decide) (by unfold o_assign; (repeat (first | rw [if_pos (by omega)] | rw [if_neg (by omega)])); exact ⟨rfl, rfl⟩)
    · exact g_exS (as := [zI t]) dX6_assign_5 ck_X6_103 rfl rfl (Nat.le_of_ble_eq_true rfl) (by decide) (by decide) rfl (s_X6_requireSecret_ex c5) (by unfold o_assign; (repeat (first | rw [if_pos (by omega)] | rw [if_neg (by omega)])); exact ⟨rfl, rfl⟩)
  · exact g_exS (as := [zI n]) dX6_assign_1 ck_X6_99 rfl rfl (Nat.le_of_ble_eq_true rfl) (by decide) (by decide) rfl (s_X6_requireNumber_ex c1) (by unfold o_assign; (repeat (first | rw [if_pos (by omega)] | rw [if_neg (by omega)])); exact ⟨rfl, rfl⟩)
def x_en (S : zS) (n : Int) (c : Nat) : zS := if S.2.1 13 n = S.2.1 8 (n / 10) then x_cf (x_note (x_fin S n (S.1 0)) 0 n (-1)) n c else x_chg (x_cf (x_note (x_fin S n (S.1 0)) 0 n (-1)) n c) (S.1 0) n 6
def o_end (S : zS) (c : Nat) (n : Int) : zO := if ¬ (0 ≤ n ∧ n < 200) then (.error xI, S) else if S.2.1 13 n = -1 then (.error xS, S) else (zI? (S.2.1 13 n), x_en S n c)
theorem x_cf_fr {S : zS} {n : Int} {c : Nat} : (x_cf S n c).1 = S.1 ∧ (∀ q j, q ≠ 19 → (x_cf S n c).2.1 q j = S.2.1 q j) ∧ (x_cf S n c).2.2 = S.2.2 := by
  unfold x_cf
  split
  · exact ⟨rfl, fun q j h => za_ne h, rfl⟩
  · exact ⟨rfl, fun q j h => rfl, rfl⟩
theorem c_end {S : zS} {n : Int} {c : Nat} (hc : S.1 1 = c) (h60 : c ≤ 60) (hnow : 0 ≤ S.1 0 ∧ S.1 0 ≤ 9999) (h2 : 0 ≤ S.1 2 ∧ S.1 2 < 600) (h3 : 0 ≤ S.1 3 ∧ S.1 3 < 572) : z_Out mX6_end [zR 0, zI n] S (o_end S c n) := by
  obtain ⟨f1, f2, -⟩ := x_cf_fr (S := x_note (x_fin S n (S.1 0)) 0 n (-1)) (n := n) (c := c)
  have f3 : (x_cf (x_note (x_fin S n (S.1 0)) 0 n (-1)) n c).2.1 8 (n / 10) = S.2.1 8 (n / 10) := by rw [f2 8 _ (by omega)]; rfl
  have f4 : (x_cf (x_note (x_fin S n (S.1 0)) 0 n (-1)) n c).1 0 = S.1 0 := by rw [f1]; rfl
  have f5 : (x_cf (x_note (x_fin S n (S.1 0)) 0 n (-1)) n c).1 2 = S.1 2 := by rw [f1]; rfl
  refine z_enter (by decide +kernel) rfl (z_n1 trivial (z_n1 trivial z_n0)) (Nat.le_of_ble_eq_true rfl) ?_
  refine g_iload_n (i := 1) (q := 1) dX6_end_0 rfl rfl rfl ?_
  by_cases c1 : 0 ≤ n ∧ n < 200
  · skip
    refine g_fnS (as := [zI n]) (q := 4) (u' := 1) dX6_end_1 rfl ck_X6_99 rfl rfl (Nat.le_of_ble_eq_true rfl) (by decide) rfl (by decide) (s_X6_requireNumber_ok c1) rfl ?_
    refine g_aload_n (i := 0) (q := 5) dX6_end_4 rfl rfl rfl ?_
    refine g_iload_n (i := 1) (q := 6) dX6_end_5 rfl rfl rfl ?_
    by_cases c6 : ¬ (S).2.1 13 n = -1
    · skip
      refine g_fnV (as := [zI n]) (q := 9) (u' := 2) dX6_end_6 rfl ck_X6_126 rfl rfl rfl (Nat.le_of_ble_eq_true rfl) (by decide) rfl (by decide) (s_X6_requireInUse_ok (by omega) c6) rfl ?_
      refine g_aload_n (i := 0) (q := 10) dX6_end_9 rfl rfl rfl ?_
      refine g_getr (q := 13) dX6_end_10 rfl fk_X6_23 rfl rfl ?_
      refine g_getr (q := 16) dX6_end_13 rfl fk_X6_129 rfl rfl ?_
      refine g_iload_n (i := 1) (q := 17) dX6_end_16 rfl rfl rfl ?_
      refine g_ildv (q := 18) (z := S.2.1 13 n) dX6_end_17 rfl ⟨by decide, rfl, rfl⟩ (by omega) (by omega) rfl ?_
      refine g_istore_n (i := 2) (q := 19) dX6_end_18 rfl rfl (by decide) ?_
      refine g_aload_n (i := 0) (q := 20) dX6_end_19 rfl rfl rfl ?_
      refine g_getr (q := 23) dX6_end_20 rfl fk_X6_23 rfl rfl ?_
      refine g_iload_n (i := 1) (q := 24) dX6_end_23 rfl rfl rfl ?_
      refine g_aload_n (i := 0) (q := 25) dX6_end_24 rfl rfl rfl ?_
      refine g_getv (q := 28) (z := S.1 0) dX6_end_25 rfl fk_X6_55 rfl rfl rfl ?_
      refine g_fnV (as := [zI n, zI (S.1 0)]) (q := 31) (u' := 2) dX6_end_28 rfl ck_X6_132 rfl rfl rfl (Nat.le_of_ble_eq_true rfl) (by decide) rfl (by decide) (s_X1_finish (by omega) (by omega)) rfl ?_
      refine g_aload_n (i := 0) (q := 32) dX6_end_31 rfl rfl rfl ?_
      refine g_getr (q := 35) dX6_end_32 rfl fk_X6_44 rfl rfl ?_
      refine g_iload_n (i := 1) (q := 36) dX6_end_35 rfl rfl rfl ?_
      refine g_iconst (q := 37) dX6_end_36 rfl ⟨by decide, by decide⟩ ?_
      refine g_fnV (as := [zI n, zI (-1)]) (q := 40) (u' := 2) dX6_end_37 rfl ck_X6_122 rfl rfl rfl (Nat.le_of_ble_eq_true rfl) (by decide) rfl (by decide) (s_X3_serves (S := x_fin S n (S.1 0)) h3.1 h3.2) rfl ?_
      refine g_aload_n (i := 0) (q := 41) dX6_end_40 rfl rfl rfl ?_
      refine g_getr (q := 44) dX6_end_41 rfl fk_X6_30 rfl rfl ?_
      refine g_iload_n (i := 1) (q := 45) dX6_end_44 rfl rfl rfl ?_
      refine g_fnV (as := [zI n]) (q := 48) (u' := 2) dX6_end_45 rfl ck_X6_135 rfl rfl rfl (Nat.le_of_ble_eq_true rfl) (by decide) rfl (by decide) (s_X4_cancelFor (S := x_note (x_fin S n (S.1 0)) 0 n (-1)) hc h60) rfl ?_
      refine g_iload_n (i := 2) (q := 49) dX6_end_48 rfl rfl rfl ?_
      refine g_aload_n (i := 0) (q := 50) dX6_end_49 rfl rfl rfl ?_
      refine g_iload_n (i := 1) (q := 51) dX6_end_50 rfl rfl rfl ?_
      refine g_fnV (as := [zI n]) (q := 54) (u' := 2) dX6_end_51 rfl ck_X6_106 rfl rfl rfl (Nat.le_of_ble_eq_true rfl) (by decide) rfl (by decide) (s_X6_holderOf (by omega)) rfl ?_
      refine g_top (z := S.2.1 8 (n / 10)) f3 ?_
      refine g_icmp_eq (t := 71) (q := 57) dX6_end_54 (by decide) rfl (fun h54 => ?_) (fun h54 => ?_)
      · refine g_iload_n (i := 2) (q := 72) dX6_end_71 rfl rfl rfl ?_
        exact g_ret dX6_end_72 rfl (by decide) (by unfold o_end x_en; (repeat (first | rw [if_pos (by omega)] | rw [if_neg (by omega)])); exact ⟨rfl, rfl⟩)
      · refine g_aload_n (i := 0) (q := 58) dX6_end_57 rfl rfl rfl ?_
        refine g_getr (q := 61) dX6_end_58 rfl fk_X6_37 rfl rfl ?_
        refine g_aload_n (i := 0) (q := 62) dX6_end_61 rfl rfl rfl ?_
        refine g_getv (q := 65) (z := S.1 0) dX6_end_62 rfl fk_X6_55 rfl rfl f4 ?_
        refine g_iload_n (i := 1) (q := 66) dX6_end_65 rfl rfl rfl ?_
        refine g_bipush (q := 68) dX6_end_66 rfl ⟨by decide, by decide⟩ (by decide) ?_
        refine g_fnV (as := [zI (S.1 0), zI n, zI 6]) (q := 71) (u' := 2) dX6_end_68 rfl ck_X6_138 rfl rfl rfl (Nat.le_of_ble_eq_true rfl) (by decide) rfl (by decide) (s_X0_add (by rw [f5]; exact h2.1) (by rw [f5]; exact h2.2)) rfl ?_
        refine g_iload_n (i := 2) (q := 72) dX6_end_71 rfl rfl rfl ?_
        exact g_ret dX6_end_72 rfl (by decide) (by unfold o_end x_en; (repeat (first | rw [if_pos (by omega)] | rw [if_neg (by omega)])); exact ⟨rfl, rfl⟩)
    · exact g_exV (as := [zI n]) dX6_end_6 ck_X6_126 rfl rfl rfl (Nat.le_of_ble_eq_true rfl) (by decide) (by decide) rfl (s_X6_requireInUse_ex (by omega) c6) (by unfold o_end; (repeat (first | rw [if_pos (by omega)] | rw [if_neg (by omega)])); exact ⟨rfl, rfl⟩)
  · exact g_exS (as := [zI n]) dX6_end_1 ck_X6_99 rfl rfl (Nat.le_of_ble_eq_true rfl) (by decide) (by decide) rfl (s_X6_requireNumber_ex c1) (by unfold o_end; (repeat (first | rw [if_pos (by omega)] | rw [if_neg (by omega)])); exact ⟨rfl, rfl⟩)
def o_swap (S : zS) (n t : Int) : zO := if ¬ (0 ≤ n ∧ n < 200) then (.error xI, S) else if ¬ (0 ≤ t ∧ t < 100) then (.error xA, S) else if S.2.1 13 n = -1 then (.error xS, S) else (zI? (S.2.1 14 n), z_sA (z_sA S 14 n t) 16 n (S.1 0 + 49))
theorem c_swap {S : zS} {n t : Int} (hnow : 0 ≤ S.1 0 ∧ S.1 0 ≤ 9999) : z_Out mX6_swap [zR 0, zI n, zI t] S (o_swap S n t) := by
  refine z_enter (by decide +kernel) rfl (z_n1 trivial (z_n1 trivial (z_n1 trivial z_n0))) (Nat.le_of_ble_eq_true rfl) ?_
  refine g_iload_n (i := 1) (q := 1) dX6_swap_0 rfl rfl rfl ?_
  by_cases c1 : 0 ≤ n ∧ n < 200
  · skip
    refine g_fnS (as := [zI n]) (q := 4) (u' := 1) dX6_swap_1 rfl ck_X6_99 rfl rfl (Nat.le_of_ble_eq_true rfl) (by decide) rfl (by decide) (s_X6_requireNumber_ok c1) rfl ?_
    refine g_iload_n (i := 2) (q := 5) dX6_swap_4 rfl rfl rfl ?_
    by_cases c5 : 0 ≤ t ∧ t < 100
    · skip
      refine g_fnS (as := [zI t]) (q := 8) (u' := 2) dX6_swap_5 rfl ck_X6_103 rfl rfl (Nat.le_of_ble_eq_true rfl) (by decide) rfl (by decide) (s_X6_requireSecret_ok c5) rfl ?_
      refine g_aload_n (i := 0) (q := 9) dX6_swap_8 rfl rfl rfl ?_
      refine g_iload_n (i := 1) (q := 10) dX6_swap_9 rfl rfl rfl ?_
      by_cases c10 : ¬ (S).2.1 13 n = -1
      · skip
        refine g_fnV (as := [zI n]) (q := 13) (u' := 3) dX6_swap_10 rfl ck_X6_126 rfl rfl rfl (Nat.le_of_ble_eq_true rfl) (by decide) rfl (by decide) (s_X6_requireInUse_ok (by omega) c10) rfl ?_
        refine g_aload_n (i := 0) (q := 14) dX6_swap_13 rfl rfl rfl ?_
        refine g_getr (q := 17) dX6_swap_14 rfl fk_X6_23 rfl rfl ?_
        refine g_getr (q := 20) dX6_swap_17 rfl fk_X6_141 rfl rfl ?_
        refine g_iload_n (i := 1) (q := 21) dX6_swap_20 rfl rfl rfl ?_
        refine g_ildv (q := 22) (z := S.2.1 14 n) dX6_swap_21 rfl ⟨by decide, rfl, rfl⟩ (by omega) (by omega) rfl ?_
        refine g_istore_n (i := 3) (q := 23) dX6_swap_22 rfl rfl (by decide) ?_
        refine g_aload_n (i := 0) (q := 24) dX6_swap_23 rfl rfl rfl ?_
        refine g_getr (q := 27) dX6_swap_24 rfl fk_X6_23 rfl rfl ?_
        refine g_getr (q := 30) dX6_swap_27 rfl fk_X6_141 rfl rfl ?_
        refine g_iload_n (i := 1) (q := 31) dX6_swap_30 rfl rfl rfl ?_
        refine g_iload_n (i := 2) (q := 32) dX6_swap_31 rfl rfl rfl ?_
        refine g_iast (q := 33) dX6_swap_32 rfl ⟨by decide, rfl, rfl⟩ (by omega) (by omega) ?_
        refine g_aload_n (i := 0) (q := 34) dX6_swap_33 rfl rfl rfl ?_
        refine g_getr (q := 37) dX6_swap_34 rfl fk_X6_23 rfl rfl ?_
        refine g_getr (q := 40) dX6_swap_37 rfl fk_X6_144 rfl rfl ?_
        refine g_iload_n (i := 1) (q := 41) dX6_swap_40 rfl rfl rfl ?_
        refine g_aload_n (i := 0) (q := 42) dX6_swap_41 rfl rfl rfl ?_
        refine g_getv (q := 45) (z := S.1 0) dX6_swap_42 rfl fk_X6_55 rfl rfl rfl ?_
        refine g_bipush (q := 47) dX6_swap_45 rfl ⟨by decide, by decide⟩ (by decide) ?_
        refine g_iadd (q := 48) dX6_swap_47 rfl (by constructor <;> omega) ?_
        refine g_iast (q := 49) dX6_swap_48 rfl ⟨by decide, rfl, rfl⟩ (by omega) (by omega) ?_
        refine g_iload_n (i := 3) (q := 50) dX6_swap_49 rfl rfl rfl ?_
        exact g_ret dX6_swap_50 rfl (by decide) (by unfold o_swap; (repeat (first | rw [if_pos (by omega)] | rw [if_neg (by omega)])); exact ⟨rfl, rfl⟩)
      · exact g_exV (as := [zI n]) dX6_swap_10 ck_X6_126 rfl rfl rfl (Nat.le_of_ble_eq_true rfl) (by decide) (by decide) rfl (s_X6_requireInUse_ex (by omega) c10) (by unfold o_swap; (repeat (first | rw [if_pos (by omega)] | rw [if_neg (by omega)])); exact ⟨rfl, rfl⟩)
    · exact g_exS (as := [zI t]) dX6_swap_5 ck_X6_103 rfl rfl (Nat.le_of_ble_eq_true rfl) (by decide) (by decide) rfl (s_X6_requireSecret_ex c5) (by unfold o_swap; (repeat (first | rw [if_pos (by omega)] | rw [if_neg (by omega)])); exact ⟨rfl, rfl⟩)
  · exact g_exS (as := [zI n]) dX6_swap_1 ck_X6_99 rfl rfl (Nat.le_of_ble_eq_true rfl) (by decide) (by decide) rfl (s_X6_requireNumber_ex c1) (by unfold o_swap; (repeat (first | rw [if_pos (by omega)] | rw [if_neg (by omega)])); exact ⟨rfl, rfl⟩)
def o_emergency (S : zS) (n : Int) : zO := if ¬ (0 ≤ n ∧ n < 200) then (.error xI, S) else if S.2.1 13 n = -1 then (.error xS, S) else (zI? (S.1 0 + 30), z_sA S 17 n (S.1 0 + 30))
theorem c_emergency {S : zS} {n : Int} (hnow : 0 ≤ S.1 0 ∧ S.1 0 ≤ 9999) : z_Out mX6_emergency [zR 0, zI n] S (o_emergency S n) := by
  refine z_enter (by decide +kernel) rfl (z_n1 trivial (z_n1 trivial z_n0)) (Nat.le_of_ble_eq_true rfl) ?_
  refine g_iload_n (i := 1) (q := 1) dX6_emergency_0 rfl rfl rfl ?_
  by_cases c1 : 0 ≤ n ∧ n < 200
  · skip
    refine g_fnS (as := [zI n]) (q := 4) (u' := 1) dX6_emergency_1 rfl ck_X6_99 rfl rfl (Nat.le_of_ble_eq_true rfl) (by decide) rfl (by decide) (s_X6_requireNumber_ok c1) rfl ?_
    refine g_aload_n (i := 0) (q := 5) dX6_emergency_4 rfl rfl rfl ?_
    refine g_iload_n (i := 1) (q := 6) dX6_emergency_5 rfl rfl rfl ?_
    by_cases c6 : ¬ (S).2.1 13 n = -1
    · skip
      refine g_fnV (as := [zI n]) (q := 9) (u' := 2) dX6_emergency_6 rfl ck_X6_126 rfl rfl rfl (Nat.le_of_ble_eq_true rfl) (by decide) rfl (by decide) (s_X6_requireInUse_ok (by omega) c6) rfl ?_
      refine g_aload_n (i := 0) (q := 10) dX6_emergency_9 rfl rfl rfl ?_
      refine g_getr (q := 13) dX6_emergency_10 rfl fk_X6_23 rfl rfl ?_
      refine g_getr (q := 16) dX6_emergency_13 rfl fk_X6_147 rfl rfl ?_
      refine g_iload_n (i := 1) (q := 17) dX6_emergency_16 rfl rfl rfl ?_
      refine g_aload_n (i := 0) (q := 18) dX6_emergency_17 rfl rfl rfl ?_
      refine g_getv (q := 21) (z := S.1 0) dX6_emergency_18 rfl fk_X6_55 rfl rfl rfl ?_
      refine g_bipush (q := 23) dX6_emergency_21 rfl ⟨by decide, by decide⟩ (by decide) ?_
      refine g_iadd (q := 24) dX6_emergency_23 rfl (by constructor <;> omega) ?_
      refine g_iast (q := 25) dX6_emergency_24 rfl ⟨by decide, rfl, rfl⟩ (by omega) (by omega) ?_
      refine g_aload_n (i := 0) (q := 26) dX6_emergency_25 rfl rfl rfl ?_
      refine g_getr (q := 29) dX6_emergency_26 rfl fk_X6_23 rfl rfl ?_
      refine g_getr (q := 32) dX6_emergency_29 rfl fk_X6_147 rfl rfl ?_
      refine g_iload_n (i := 1) (q := 33) dX6_emergency_32 rfl rfl rfl ?_
      refine g_ildv (q := 34) (z := (S.1 0) + 30) dX6_emergency_33 rfl ⟨by decide, rfl, rfl⟩ (by omega) (by omega) za_eq ?_
      exact g_ret dX6_emergency_34 rfl (by decide) (by unfold o_emergency; (repeat (first | rw [if_pos (by omega)] | rw [if_neg (by omega)])); exact ⟨rfl, rfl⟩)
    · exact g_exV (as := [zI n]) dX6_emergency_6 ck_X6_126 rfl rfl rfl (Nat.le_of_ble_eq_true rfl) (by decide) (by decide) rfl (s_X6_requireInUse_ex (by omega) c6) (by unfold o_emergency; (repeat (first | rw [if_pos (by omega)] | rw [if_neg (by omega)])); exact ⟨rfl, rfl⟩)
  · exact g_exS (as := [zI n]) dX6_emergency_1 ck_X6_99 rfl rfl (Nat.le_of_ble_eq_true rfl) (by decide) (by decide) rfl (s_X6_requireNumber_ex c1) (by unfold o_emergency; (repeat (first | rw [if_pos (by omega)] | rw [if_neg (by omega)])); exact ⟨rfl, rfl⟩)
/-- all blocks, as a firm ends -/
def x_fold (g : zS → Nat → zS) : Nat → Nat → zS → zS
  | _, 0, S => S
  | i, k + 1, S => x_fold g (i + 1) k (g S i)
theorem x_fold_s {g : zS → Nat → zS} {S : zS} {i k : Nat} : x_fold g i (k + 1) S = x_fold g (i + 1) k (g S i) := rfl
def x_foldn (g : zS → Nat → zS) (w : zS → Nat → Int) : Nat → Nat → zS → Int
  | _, 0, _ => 0
  | i, k + 1, S => w S i + x_foldn g w (i + 1) k (g S i)
theorem x_foldn_s {g : zS → Nat → zS} {w : zS → Nat → Int} {S : zS} {i k : Nat} : x_foldn g w i (k + 1) S = w S i + x_foldn g w (i + 1) k (g S i) := rfl
def x_ebl (S : zS) (f h : Int) (i k : Nat) : zS := x_fold (fun T b => x_ib T f h b) i k S
def x_ebn (S : zS) (f h : Int) (i k : Nat) : Int := x_foldn (fun T b => x_ib T f h b) (fun T b => x_ibn T f h b) i k S
theorem x_ebl_0 {S : zS} {f h : Int} {i : Nat} : x_ebl S f h i 0 = S := by unfold x_ebl; rw [x_fold]
theorem x_ebl_s {S : zS} {f h : Int} {i k : Nat} : x_ebl S f h i (k + 1) = x_ebl (x_ib S f h i) f h (i + 1) k := by unfold x_ebl; rw [x_fold_s]
theorem x_ebn_0 {S : zS} {f h : Int} {i : Nat} : x_ebn S f h i 0 = 0 := by unfold x_ebn; rw [x_foldn]
theorem x_ebn_s {S : zS} {f h : Int} {i k : Nat} : x_ebn S f h i (k + 1) = x_ibn S f h i + x_ebn (x_ib S f h i) f h (i + 1) k := by unfold x_ebn; rw [x_foldn_s]
theorem x_ebl_mono {f h : Int} (k : Nat) : ∀ (i : Nat) (S : zS), S.1 2 ≤ (x_ebl S f h i k).1 2 := by
  induction k with
  | zero => intro i S; rw [x_ebl_0]; exact Int.le_refl _
  | succ k ih => intro i S; rw [x_ebl_s]; exact Int.le_trans x_ib_mono (ih (i + 1) _)
theorem x_ibl_fr {f h hb : Int} : ∀ (k i : Nat) (S : zS), (∀ q, q ≠ 2 → (x_ibl S f h hb i k).1 q = S.1 q) ∧ (∀ q j, q ≠ 13 → q ≠ 18 → q ≠ 25 → q ≠ 26 → q ≠ 27 → (x_ibl S f h hb i k).2.1 q j = S.2.1 q j) ∧ (x_ibl S f h hb i k).2.2 = S.2.2
  | 0, _, _ => ⟨fun _ _ => rfl, fun _ _ _ _ _ _ _ => rfl, rfl⟩
  | k + 1, i, S => by
    obtain ⟨h1, h2, h3⟩ := x_ibl_fr (f := f) (h := h) (hb := hb) k (i + 1) (x_ib1 S i f h hb)
    have g : (∀ q, q ≠ 2 → (x_ib1 S i f h hb).1 q = S.1 q) ∧ (∀ q j, q ≠ 13 → q ≠ 18 → q ≠ 25 → q ≠ 26 → q ≠ 27 → (x_ib1 S i f h hb).2.1 q j = S.2.1 q j) ∧ (x_ib1 S i f h hb).2.2 = S.2.2 := by
      have g1 : ∀ (T : zS) (n sb : Int), (∀ q, q ≠ 2 → (x_ah T n h sb hb).1 q = T.1 q) ∧ (∀ q j, q ≠ 25 → q ≠ 26 → q ≠ 27 → (x_ah T n h sb hb).2.1 q j = T.2.1 q j) ∧ (x_ah T n h sb hb).2.2 = T.2.2 := by
        intro T n sb
        have g2 : ∀ (m p : Int), (∀ q, q ≠ 2 → (x_chg T m n p).1 q = T.1 q) ∧ (∀ q j, q ≠ 25 → q ≠ 26 → q ≠ 27 → (x_chg T m n p).2.1 q j = T.2.1 q j) ∧ (x_chg T m n p).2.2 = T.2.2 := by
          intro m p
          refine ⟨fun q hq => ?_, fun q j a b c => ?_, rfl⟩
          · unfold x_chg
            rw [zv_sS, if_neg hq]
            rfl
          · unfold x_chg
            rw [za_sS, za_ne c, za_ne b, za_ne a]
        unfold x_ah
        split
        · split
          · split
            · exact ⟨fun _ _ => rfl, fun _ _ _ _ _ => rfl, rfl⟩
            · exact g2 _ _
          · split
            · exact ⟨fun _ _ => rfl, fun _ _ _ _ _ => rfl, rfl⟩
            · exact g2 _ _
        · exact ⟨fun _ _ => rfl, fun _ _ _ _ _ => rfl, rfl⟩
      unfold x_ib1
      split
      · obtain ⟨a1, a2, a3⟩ := g1 (z_sA (z_sA S 13 i h) 18 i (-1)) i (S.2.1 13 i)
        exact ⟨fun q hq => a1 q hq, fun q j b1 b2 b3 b4 b5 => by rw [a2 q j b3 b4 b5, za_ne b2, za_ne b1], a3⟩
      · obtain ⟨a1, a2, a3⟩ := g1 S i (S.2.1 13 i)
        exact ⟨fun q hq => a1 q hq, fun q j b1 b2 b3 b4 b5 => a2 q j b3 b4 b5, a3⟩
    rw [x_ibl]
    exact ⟨fun q hq => by rw [h1 q hq, g.1 q hq], fun q j a b c d e => by rw [h2 q j a b c d e, g.2.1 q j a b c d e], by rw [h3, g.2.2]⟩
theorem x_ib_fr {S : zS} {f h : Int} {b : Nat} : (∀ q, q ≠ 2 → (x_ib S f h b).1 q = S.1 q) ∧ (∀ q j, q ≠ 8 → q ≠ 13 → q ≠ 18 → q ≠ 25 → q ≠ 26 → q ≠ 27 → (x_ib S f h b).2.1 q j = S.2.1 q j) ∧ (x_ib S f h b).2.2 = S.2.2 := by
  obtain ⟨h1, h2, h3⟩ := x_ibl_fr (f := f) (h := h) (hb := S.2.1 8 b) 10 (10 * b) (if S.2.1 8 b = f then z_sA S 8 b h else S)
  unfold x_ib
  refine ⟨fun q hq => ?_, fun q j a0 a b c d e => ?_, ?_⟩
  · rw [h1 q hq]
    split <;> rfl
  · rw [h2 q j a b c d e]
    split
    · exact za_ne a0
    · rfl
  · rw [h3]
    split <;> rfl
theorem x_ebl_fr {f h : Int} (k : Nat) : ∀ (i : Nat) (S : zS), (∀ q, q ≠ 2 → (x_ebl S f h i k).1 q = S.1 q) ∧ (∀ q j, q ≠ 8 → q ≠ 13 → q ≠ 18 → q ≠ 25 → q ≠ 26 → q ≠ 27 → (x_ebl S f h i k).2.1 q j = S.2.1 q j) ∧ (x_ebl S f h i k).2.2 = S.2.2 := by
  induction k with
  | zero => intro i S; rw [x_ebl_0]; exact ⟨fun _ _ => rfl, fun _ _ _ _ _ _ _ _ => rfl, rfl⟩
  | succ k ih =>
    intro i S
    obtain ⟨h1, h2, h3⟩ := ih (i + 1) (x_ib S f h i)
    obtain ⟨g1, g2, g3⟩ := x_ib_fr (S := S) (f := f) (h := h) (b := i)
    rw [x_ebl_s]
    exact ⟨fun q hq => by rw [h1 q hq, g1 q hq], fun q j z a b c d e => by rw [h2 q j z a b c d e, g2 q j z a b c d e], by rw [h3, g3]⟩
theorem x_ibn_rng {S : zS} {f h : Int} {b : Nat} : 0 ≤ x_ibn S f h b ∧ x_ibn S f h b ≤ 10 := x_ibc_rng 10 _ _
theorem l_X6_endFirm {Q : zQ} {f h : Int} {c : Nat} (h60 : c ≤ 60) : ∀ (k i : Nat) (S : zS) (d : Int), i + k = 20 → S.1 1 = c → 0 ≤ S.1 2 → (x_ebl S f h i k).1 2 ≤ 600 → 0 ≤ S.1 3 → S.1 3 < 572 → 0 ≤ d ∧ d ≤ 10 * i → Q (.ok (some (zI (d + x_ebn S f h i k)))) (x_cby (x_note (x_ebl S f h i k) 1 f h) f 0 c) → z_G mX6_endFirm (z_F mX6_endFirm Q) 2 72 [some (zR 0), some (zI f), some (zI h), some (zI d), some (zI (i : Int))] [] S := by
  intro k
  induction k with
  | zero =>
    intro i S d hi hc h0 h6 h3 h35 hd hQ
    rw [x_ebn_0, Int.add_zero, x_ebl_0] at hQ
    refine g_iload (q := 74) dX6_endFirm_72 rfl rfl ?_
    refine g_bipush (q := 76) dX6_endFirm_74 rfl ⟨by decide, by decide⟩ (by decide) ?_
    refine g_icmp_ge (t := 96) (q := 79) dX6_endFirm_76 (by decide) rfl (fun h76 => ?_) (fun h76 => (False.elim (by omega)))
    refine g_aload_n (i := 0) (q := 97) dX6_endFirm_96 rfl rfl rfl ?_
    refine g_getr (q := 100) dX6_endFirm_97 rfl fk_X6_44 rfl rfl ?_
    refine g_iload_n (i := 1) (q := 101) dX6_endFirm_100 rfl rfl rfl ?_
    refine g_iload_n (i := 2) (q := 102) dX6_endFirm_101 rfl rfl rfl ?_
    refine g_fnV (as := [zI f, zI h]) (q := 105) (u' := 2) dX6_endFirm_102 rfl ck_X6_164 rfl rfl rfl (Nat.le_of_ble_eq_true rfl) (by decide) rfl (by decide) (s_X3_firmEnds h3 h35) rfl ?_
    refine g_aload_n (i := 0) (q := 106) dX6_endFirm_105 rfl rfl rfl ?_
    refine g_getr (q := 109) dX6_endFirm_106 rfl fk_X6_30 rfl rfl ?_
    refine g_iload_n (i := 1) (q := 110) dX6_endFirm_109 rfl rfl rfl ?_
    refine g_fnV (as := [zI f]) (q := 113) (u' := 2) dX6_endFirm_110 rfl ck_X6_167 rfl rfl rfl (Nat.le_of_ble_eq_true rfl) (by decide) rfl (by decide) (s_X4_cancelBy (S := x_note S 1 f h) hc h60) rfl ?_
    refine g_iload_n (i := 3) (q := 114) dX6_endFirm_113 rfl rfl rfl ?_
    exact g_ret dX6_endFirm_114 rfl (by decide) hQ
  | succ k ih =>
    intro i S d hi hc h0 h6 h3 h35 hd hQ
    rw [x_ebn_s, x_ebl_s] at hQ
    rw [x_ebl_s] at h6
    have hm := x_ebl_mono (f := f) (h := h) k (i + 1) (x_ib S f h i)
    have hm2 := x_ib_mono (S := S) (f := f) (h := h) (b := i)
    have hr := x_ibn_rng (S := S) (f := f) (h := h) (b := i)
    obtain ⟨g1, g2, -⟩ := x_ib_fr (S := S) (f := f) (h := h) (b := i)
    have hnx := ih (i + 1) (x_ib S f h i) (d + x_ibn S f h i) (by omega) (by rw [g1 1 (by omega)]; exact hc) (by omega) h6 (by rw [g1 3 (by omega)]; exact h3) (by rw [g1 3 (by omega)]; exact h35) (by omega) (by rw [Int.add_assoc]; exact hQ)
    refine g_iload (q := 74) dX6_endFirm_72 rfl rfl ?_
    refine g_bipush (q := 76) dX6_endFirm_74 rfl ⟨by decide, by decide⟩ (by decide) ?_
    refine g_icmp_ge (t := 96) (q := 79) dX6_endFirm_76 (by decide) rfl (fun h76 => (False.elim (by omega))) (fun h76 => ?_)
    refine g_iload_n (i := 3) (q := 80) dX6_endFirm_79 rfl rfl rfl ?_
    refine g_aload_n (i := 0) (q := 81) dX6_endFirm_80 rfl rfl rfl ?_
    refine g_iload (q := 83) dX6_endFirm_81 rfl rfl ?_
    refine g_iload_n (i := 1) (q := 84) dX6_endFirm_83 rfl rfl rfl ?_
    refine g_iload_n (i := 2) (q := 85) dX6_endFirm_84 rfl rfl rfl ?_
    refine g_fnV (as := [zI (i : Int), zI f, zI h]) (q := 88) (u' := 2) dX6_endFirm_85 rfl ck_X6_160 rfl rfl rfl (Nat.le_of_ble_eq_true rfl) (by decide) rfl (by decide) (s_X6_inheritBlock (b := i) (by omega) h0 (by omega)) rfl ?_
    refine g_iadd (q := 89) dX6_endFirm_88 rfl (by constructor <;> omega) ?_
    refine g_istore_n (i := 3) (q := 90) dX6_endFirm_89 rfl rfl (by decide) ?_
    refine g_iinc (q := 93) (i := 4) (n := 1) dX6_endFirm_90 rfl rfl (by constructor <;> omega) ?_
    refine g_goto (q := 0) (t := 72) dX6_endFirm_93 (by decide) ?_
    exact hnx
def x_ef (S : zS) (c : Nat) (f h : Int) : zS := x_cby (x_note (x_ebl (z_sA S 9 f 1) f h 0 20) 1 f h) f 0 c
def o_endFirm (S : zS) (c : Nat) (f h : Int) : zO := if ¬ ((0 ≤ f ∧ f < 6) ∧ (0 ≤ h ∧ h < 6)) then (.error xI, S) else if f = h then (.error xA, S) else if ¬ S.2.1 9 f = 0 ∨ ¬ S.2.1 9 h = 0 then (.error xS, S) else (zI? (x_ebn (z_sA S 9 f 1) f h 0 20), x_ef S c f h)
theorem c_endFirm {S : zS} {f h : Int} {c : Nat} (hc : S.1 1 = c) (h60 : c ≤ 60) (h2 : 0 ≤ S.1 2) (h6 : (x_ebl (z_sA S 9 f 1) f h 0 20).1 2 ≤ 600) (h3 : 0 ≤ S.1 3 ∧ S.1 3 < 572) : z_Out mX6_endFirm [zR 0, zI f, zI h] S (o_endFirm S c f h) := by
  refine z_enter (by decide +kernel) rfl (z_n1 trivial (z_n1 trivial (z_n1 trivial z_n0))) (Nat.le_of_ble_eq_true rfl) ?_
  refine g_iload_n (i := 1) (q := 1) dX6_endFirm_0 rfl rfl rfl ?_
  by_cases c1 : 0 ≤ f ∧ f < 6
  · skip
    refine g_fnS (as := [zI f]) (q := 4) (u' := 1) dX6_endFirm_1 rfl ck_X6_150 rfl rfl (Nat.le_of_ble_eq_true rfl) (by decide) rfl (by decide) (s_X6_requireFirm_ok c1) rfl ?_
    refine g_iload_n (i := 2) (q := 5) dX6_endFirm_4 rfl rfl rfl ?_
    by_cases c5 : 0 ≤ h ∧ h < 6
    · skip
      refine g_fnS (as := [zI h]) (q := 8) (u' := 2) dX6_endFirm_5 rfl ck_X6_150 rfl rfl (Nat.le_of_ble_eq_true rfl) (by decide) rfl (by decide) (s_X6_requireFirm_ok c5) rfl ?_
      refine g_iload_n (i := 1) (q := 9) dX6_endFirm_8 rfl rfl rfl ?_
      refine g_iload_n (i := 2) (q := 10) dX6_endFirm_9 rfl rfl rfl ?_
      refine g_icmp_ne (t := 23) (q := 13) dX6_endFirm_10 (by decide) rfl (fun h10 => ?_) (fun h10 => ?_)
      · refine g_aload_n (i := 0) (q := 24) dX6_endFirm_23 rfl rfl rfl ?_
        refine g_getr (q := 27) dX6_endFirm_24 rfl fk_X6_16 rfl rfl ?_
        refine g_getr (q := 30) dX6_endFirm_27 rfl fk_X6_79 rfl rfl ?_
        refine g_iload_n (i := 1) (q := 31) dX6_endFirm_30 rfl rfl rfl ?_
        refine g_zldv (q := 32) (z := S.2.1 9 f) dX6_endFirm_31 rfl ⟨by decide, rfl, rfl⟩ (by omega) (by omega) rfl ?_
        refine g_if_ne (t := 47) (q := 35) dX6_endFirm_32 (by decide) rfl (fun h32 => ?_) (fun h32 => ?_)
        · exact g_throw (text := "one of the firms is gone") rfl rfl z_tk_S (by decide +kernel) dX6_endFirm_47 dX6_endFirm_50 dX6_endFirm_51 dX6_endFirm_53 dX6_endFirm_56 (by decide) (by decide) (by decide) (by unfold o_endFirm; (repeat (first | rw [if_pos (by omega)] | rw [if_neg (by omega)])); exact ⟨rfl, rfl⟩)
        · refine g_aload_n (i := 0) (q := 36) dX6_endFirm_35 rfl rfl rfl ?_
          refine g_getr (q := 39) dX6_endFirm_36 rfl fk_X6_16 rfl rfl ?_
          refine g_getr (q := 42) dX6_endFirm_39 rfl fk_X6_79 rfl rfl ?_
          refine g_iload_n (i := 2) (q := 43) dX6_endFirm_42 rfl rfl rfl ?_
          refine g_zldv (q := 44) (z := S.2.1 9 h) dX6_endFirm_43 rfl ⟨by decide, rfl, rfl⟩ (by omega) (by omega) rfl ?_
          refine g_if_eq (t := 57) (q := 47) dX6_endFirm_44 (by decide) rfl (fun h44 => ?_) (fun h44 => ?_)
          · refine g_aload_n (i := 0) (q := 58) dX6_endFirm_57 rfl rfl rfl ?_
            refine g_getr (q := 61) dX6_endFirm_58 rfl fk_X6_16 rfl rfl ?_
            refine g_getr (q := 64) dX6_endFirm_61 rfl fk_X6_79 rfl rfl ?_
            refine g_iload_n (i := 1) (q := 65) dX6_endFirm_64 rfl rfl rfl ?_
            refine g_iconst (q := 66) dX6_endFirm_65 rfl ⟨by decide, by decide⟩ ?_
            refine g_zast (q := 67) dX6_endFirm_66 rfl ⟨by decide, rfl, rfl⟩ (by omega) (by omega) (by omega) ?_
            refine g_iconst (q := 68) dX6_endFirm_67 rfl ⟨by decide, by decide⟩ ?_
            refine g_istore_n (i := 3) (q := 69) dX6_endFirm_68 rfl rfl (by decide) ?_
            refine g_iconst (q := 70) dX6_endFirm_69 rfl ⟨by decide, by decide⟩ ?_
            refine g_istore (q := 72) dX6_endFirm_70 rfl (by decide) ?_
            exact l_X6_endFirm h60 20 0 (z_sA S 9 f 1) 0 (by omega) hc h2 h6 h3.1 h3.2 (by omega) (by unfold o_endFirm; (repeat (first | rw [if_pos (by omega)] | rw [if_neg (by omega)])); rw [Int.zero_add]; exact ⟨rfl, rfl⟩)
          · exact g_throw (text := "one of the firms is gone") rfl rfl z_tk_S (by decide +kernel) dX6_endFirm_47 dX6_endFirm_50 dX6_endFirm_51 dX6_endFirm_53 dX6_endFirm_56 (by decide) (by decide) (by decide) (by unfold o_endFirm; (repeat (first | rw [if_pos (by omega)] | rw [if_neg (by omega)])); exact ⟨rfl, rfl⟩)
      · exact g_throw (text := "a firm is not its own heir") rfl rfl z_tk_A (by decide +kernel) dX6_endFirm_13 dX6_endFirm_16 dX6_endFirm_17 dX6_endFirm_19 dX6_endFirm_22 (by decide) (by decide) (by decide) (by unfold o_endFirm; (repeat (first | rw [if_pos (by omega)] | rw [if_neg (by omega)])); exact ⟨rfl, rfl⟩)
    · exact g_exS (as := [zI h]) dX6_endFirm_5 ck_X6_150 rfl rfl (Nat.le_of_ble_eq_true rfl) (by decide) (by decide) rfl (s_X6_requireFirm_ex c5) (by unfold o_endFirm; (repeat (first | rw [if_pos (by omega)] | rw [if_neg (by omega)])); exact ⟨rfl, rfl⟩)
  · exact g_exS (as := [zI f]) dX6_endFirm_1 ck_X6_150 rfl rfl (Nat.le_of_ble_eq_true rfl) (by decide) (by decide) rfl (s_X6_requireFirm_ex c1) (by unfold o_endFirm; (repeat (first | rw [if_pos (by omega)] | rw [if_neg (by omega)])); exact ⟨rfl, rfl⟩)
def o_order (S : zS) (c : Nat) (f n t m : Int) : zO := if ¬ ((0 ≤ f ∧ f < 6) ∧ (0 ≤ n ∧ n < 200)) then (.error xI, S) else if ¬ (0 ≤ t ∧ t < 100) ∨ m ≤ S.1 0 ∨ S.1 0 + 500 < m then (.error xA, S) else if ¬ S.2.1 9 f = 0 ∨ 60 ≤ S.1 1 then (.error xS, S) else (zI? (S.1 1), x_oa S f n (S.2.1 13 n) m (x_rr S c f n t m))
theorem c_order {S : zS} {f n t m : Int} {c : Nat} (hc : S.1 1 = c) (h60 : c ≤ 60) (hnow : 0 ≤ S.1 0 ∧ S.1 0 ≤ 9999) : z_Out mX6_order [zR 0, zI f, zI n, zI t, zI m] S (o_order S c f n t m) := by
  refine z_enter (by decide +kernel) rfl (z_n1 trivial (z_n1 trivial (z_n1 trivial (z_n1 trivial (z_n1 trivial z_n0))))) (Nat.le_of_ble_eq_true rfl) ?_
  refine g_iload_n (i := 1) (q := 1) dX6_order_0 rfl rfl rfl ?_
  by_cases c1 : 0 ≤ f ∧ f < 6
  · skip
    refine g_fnS (as := [zI f]) (q := 4) (u' := 1) dX6_order_1 rfl ck_X6_150 rfl rfl (Nat.le_of_ble_eq_true rfl) (by decide) rfl (by decide) (s_X6_requireFirm_ok c1) rfl ?_
    refine g_iload_n (i := 2) (q := 5) dX6_order_4 rfl rfl rfl ?_
    by_cases c5 : 0 ≤ n ∧ n < 200
    · skip
      refine g_fnS (as := [zI n]) (q := 8) (u' := 2) dX6_order_5 rfl ck_X6_99 rfl rfl (Nat.le_of_ble_eq_true rfl) (by decide) rfl (by decide) (s_X6_requireNumber_ok c5) rfl ?_
      refine g_iload_n (i := 3) (q := 9) dX6_order_8 rfl rfl rfl ?_
      by_cases c9 : 0 ≤ t ∧ t < 100
      · skip
        refine g_fnS (as := [zI t]) (q := 12) (u' := 3) dX6_order_9 rfl ck_X6_103 rfl rfl (Nat.le_of_ble_eq_true rfl) (by decide) rfl (by decide) (s_X6_requireSecret_ok c9) rfl ?_
        refine g_iload (q := 14) dX6_order_12 rfl rfl ?_
        refine g_aload_n (i := 0) (q := 15) dX6_order_14 rfl rfl rfl ?_
        refine g_getv (q := 18) (z := S.1 0) dX6_order_15 rfl fk_X6_55 rfl rfl rfl ?_
        refine g_icmp_le (t := 34) (q := 21) dX6_order_18 (by decide) rfl (fun h18 => ?_) (fun h18 => ?_)
        · exact g_throw (text := "the minute is out of range") rfl rfl z_tk_A (by decide +kernel) dX6_order_34 dX6_order_37 dX6_order_38 dX6_order_40 dX6_order_43 (by decide) (by decide) (by decide) (by unfold o_order; (repeat (first | rw [if_pos (by omega)] | rw [if_neg (by omega)])); exact ⟨rfl, rfl⟩)
        · refine g_iload (q := 23) dX6_order_21 rfl rfl ?_
          refine g_aload_n (i := 0) (q := 24) dX6_order_23 rfl rfl rfl ?_
          refine g_getv (q := 27) (z := S.1 0) dX6_order_24 rfl fk_X6_55 rfl rfl rfl ?_
          refine g_sipush (q := 30) dX6_order_27 rfl ⟨by decide, by decide⟩ (by decide) ?_
          refine g_iadd (q := 31) dX6_order_30 rfl (by constructor <;> omega) ?_
          refine g_icmp_le (t := 44) (q := 34) dX6_order_31 (by decide) rfl (fun h31 => ?_) (fun h31 => ?_)
          · refine g_aload_n (i := 0) (q := 45) dX6_order_44 rfl rfl rfl ?_
            refine g_getr (q := 48) dX6_order_45 rfl fk_X6_16 rfl rfl ?_
            refine g_getr (q := 51) dX6_order_48 rfl fk_X6_79 rfl rfl ?_
            refine g_iload_n (i := 1) (q := 52) dX6_order_51 rfl rfl rfl ?_
            refine g_zldv (q := 53) (z := S.2.1 9 f) dX6_order_52 rfl ⟨by decide, rfl, rfl⟩ (by omega) (by omega) rfl ?_
            refine g_if_ne (t := 68) (q := 56) dX6_order_53 (by decide) rfl (fun h53 => ?_) (fun h53 => ?_)
            · exact g_throw (text := "the firm is gone, or there are too many orders") rfl rfl z_tk_S (by decide +kernel) dX6_order_68 dX6_order_71 dX6_order_72 dX6_order_74 dX6_order_77 (by decide) (by decide) (by decide) (by unfold o_order; (repeat (first | rw [if_pos (by omega)] | rw [if_neg (by omega)])); exact ⟨rfl, rfl⟩)
            · refine g_aload_n (i := 0) (q := 57) dX6_order_56 rfl rfl rfl ?_
              refine g_getr (q := 60) dX6_order_57 rfl fk_X6_30 rfl rfl ?_
              refine g_getv (q := 63) (z := S.1 1) dX6_order_60 rfl fk_X6_172 rfl rfl rfl ?_
              refine g_bipush (q := 65) dX6_order_63 rfl ⟨by decide, by decide⟩ (by decide) ?_
              refine g_icmp_lt (t := 78) (q := 68) dX6_order_65 (by decide) rfl (fun h65 => ?_) (fun h65 => ?_)
              · refine g_aload_n (i := 0) (q := 79) dX6_order_78 rfl rfl rfl ?_
                refine g_iload_n (i := 1) (q := 80) dX6_order_79 rfl rfl rfl ?_
                refine g_iload_n (i := 2) (q := 81) dX6_order_80 rfl rfl rfl ?_
                refine g_iload_n (i := 3) (q := 82) dX6_order_81 rfl rfl rfl ?_
                refine g_iload (q := 84) dX6_order_82 rfl rfl ?_
                refine g_fnV (as := [zI f, zI n, zI t, zI m]) (q := 87) (u' := 3) dX6_order_84 rfl ck_X6_177 rfl rfl rfl (Nat.le_of_ble_eq_true rfl) (by decide) rfl (by decide) (s_X6_reasonToReject hc h60 (by omega) (by omega)) rfl ?_
                refine g_istore (q := 89) dX6_order_87 rfl (by decide) ?_
                refine g_aload_n (i := 0) (q := 90) dX6_order_89 rfl rfl rfl ?_
                refine g_getr (q := 93) dX6_order_90 rfl fk_X6_30 rfl rfl ?_
                refine g_iload_n (i := 1) (q := 94) dX6_order_93 rfl rfl rfl ?_
                refine g_iload_n (i := 2) (q := 95) dX6_order_94 rfl rfl rfl ?_
                refine g_aload_n (i := 0) (q := 96) dX6_order_95 rfl rfl rfl ?_
                refine g_getr (q := 99) dX6_order_96 rfl fk_X6_23 rfl rfl ?_
                refine g_getr (q := 102) dX6_order_99 rfl fk_X6_129 rfl rfl ?_
                refine g_iload_n (i := 2) (q := 103) dX6_order_102 rfl rfl rfl ?_
                refine g_ildv (q := 104) (z := S.2.1 13 n) dX6_order_103 rfl ⟨by decide, rfl, rfl⟩ (by omega) (by omega) rfl ?_
                refine g_iload (q := 106) dX6_order_104 rfl rfl ?_
                refine g_iload (q := 108) dX6_order_106 rfl rfl ?_
                refine g_fnV (as := [zI f, zI n, zI (S.2.1 13 n), zI m, zI (x_rr S c f n t m)]) (q := 111) (u' := 3) dX6_order_108 rfl ck_X6_181 rfl rfl rfl (Nat.le_of_ble_eq_true rfl) (by decide) rfl (by decide) (s_X4_add (by omega) (by omega)) rfl ?_
                exact g_ret dX6_order_111 rfl (by decide) (by unfold o_order; (repeat (first | rw [if_pos (by omega)] | rw [if_neg (by omega)])); exact ⟨rfl, rfl⟩)
              · exact g_throw (text := "the firm is gone, or there are too many orders") rfl rfl z_tk_S (by decide +kernel) dX6_order_68 dX6_order_71 dX6_order_72 dX6_order_74 dX6_order_77 (by decide) (by decide) (by decide) (by unfold o_order; (repeat (first | rw [if_pos (by omega)] | rw [if_neg (by omega)])); exact ⟨rfl, rfl⟩)
          · exact g_throw (text := "the minute is out of range") rfl rfl z_tk_A (by decide +kernel) dX6_order_34 dX6_order_37 dX6_order_38 dX6_order_40 dX6_order_43 (by decide) (by decide) (by decide) (by unfold o_order; (repeat (first | rw [if_pos (by omega)] | rw [if_neg (by omega)])); exact ⟨rfl, rfl⟩)
      · exact g_exS (as := [zI t]) dX6_order_9 ck_X6_103 rfl rfl (Nat.le_of_ble_eq_true rfl) (by decide) (by decide) rfl (s_X6_requireSecret_ex c9) (by unfold o_order; (repeat (first | rw [if_pos (by omega)] | rw [if_neg (by omega)])); exact ⟨rfl, rfl⟩)
    · exact g_exS (as := [zI n]) dX6_order_5 ck_X6_99 rfl rfl (Nat.le_of_ble_eq_true rfl) (by decide) (by decide) rfl (s_X6_requireNumber_ex c5) (by unfold o_order; (repeat (first | rw [if_pos (by omega)] | rw [if_neg (by omega)])); exact ⟨rfl, rfl⟩)
  · exact g_exS (as := [zI f]) dX6_order_1 ck_X6_150 rfl rfl (Nat.le_of_ble_eq_true rfl) (by decide) (by decide) rfl (s_X6_requireFirm_ex c1) (by unfold o_order; (repeat (first | rw [if_pos (by omega)] | rw [if_neg (by omega)])); exact ⟨rfl, rfl⟩)
def o_cancel (S : zS) (c : Nat) (o : Int) : zO := if ¬ (0 ≤ o ∧ o < S.1 1) then (.error xI, S) else if ¬ S.2.1 19 o = 1 ∨ S.2.1 24 o - S.1 0 < 10 then (.error xS, S) else (zI? (x_cw (z_sA S 19 o 3) c), z_sA S 19 o 3)
theorem c_cancel {S : zS} {o : Int} {c : Nat} (hc : S.1 1 = c) (h60 : c ≤ 60) (hnow : 0 ≤ S.1 0 ∧ S.1 0 ≤ 9999) (hd : ∀ o : Int, 0 ≤ o → o < c → 0 ≤ S.2.1 24 o ∧ S.2.1 24 o ≤ 20000) : z_Out mX6_cancel [zR 0, zI o] S (o_cancel S c o) := by
  refine z_enter (by decide +kernel) rfl (z_n1 trivial (z_n1 trivial z_n0)) (Nat.le_of_ble_eq_true rfl) ?_
  refine g_aload_n (i := 0) (q := 1) dX6_cancel_0 rfl rfl rfl ?_
  refine g_iload_n (i := 1) (q := 2) dX6_cancel_1 rfl rfl rfl ?_
  by_cases c2 : 0 ≤ o ∧ o < (S).1 1
  · skip
    refine g_fnV (as := [zI o]) (q := 5) (u' := 1) dX6_cancel_2 rfl ck_X6_184 rfl rfl rfl (Nat.le_of_ble_eq_true rfl) (by decide) rfl (by decide) (s_X6_requireOrder_ok c2) rfl ?_
    refine g_aload_n (i := 0) (q := 6) dX6_cancel_5 rfl rfl rfl ?_
    refine g_getr (q := 9) dX6_cancel_6 rfl fk_X6_30 rfl rfl ?_
    refine g_getr (q := 12) dX6_cancel_9 rfl fk_X6_187 rfl rfl ?_
    refine g_iload_n (i := 1) (q := 13) dX6_cancel_12 rfl rfl rfl ?_
    refine g_ildv (q := 14) (z := S.2.1 19 o) dX6_cancel_13 rfl ⟨by decide, rfl, rfl⟩ (by omega) (by omega) rfl ?_
    refine g_iconst (q := 15) dX6_cancel_14 rfl ⟨by decide, by decide⟩ ?_
    refine g_icmp_ne (t := 37) (q := 18) dX6_cancel_15 (by decide) rfl (fun h15 => ?_) (fun h15 => ?_)
    · exact g_throw (text := "the order is not waiting, or comes too soon") rfl rfl z_tk_S (by decide +kernel) dX6_cancel_37 dX6_cancel_40 dX6_cancel_41 dX6_cancel_43 dX6_cancel_46 (by decide) (by decide) (by decide) (by unfold o_cancel; (repeat (first | rw [if_pos (by omega)] | rw [if_neg (by omega)])); exact ⟨rfl, rfl⟩)
    · have hdo := hd o (by omega) (by omega)
      refine g_aload_n (i := 0) (q := 19) dX6_cancel_18 rfl rfl rfl ?_
      refine g_getr (q := 22) dX6_cancel_19 rfl fk_X6_30 rfl rfl ?_
      refine g_getr (q := 25) dX6_cancel_22 rfl fk_X6_190 rfl rfl ?_
      refine g_iload_n (i := 1) (q := 26) dX6_cancel_25 rfl rfl rfl ?_
      refine g_ildv (q := 27) (z := S.2.1 24 o) dX6_cancel_26 rfl ⟨by decide, rfl, rfl⟩ (by omega) (by omega) rfl ?_
      refine g_aload_n (i := 0) (q := 28) dX6_cancel_27 rfl rfl rfl ?_
      refine g_getv (q := 31) (z := S.1 0) dX6_cancel_28 rfl fk_X6_55 rfl rfl rfl ?_
      refine g_isub (q := 32) dX6_cancel_31 rfl (by constructor <;> omega) ?_
      refine g_bipush (q := 34) dX6_cancel_32 rfl ⟨by decide, by decide⟩ (by decide) ?_
      refine g_icmp_ge (t := 47) (q := 37) dX6_cancel_34 (by decide) rfl (fun h34 => ?_) (fun h34 => ?_)
      · refine g_aload_n (i := 0) (q := 48) dX6_cancel_47 rfl rfl rfl ?_
        refine g_getr (q := 51) dX6_cancel_48 rfl fk_X6_30 rfl rfl ?_
        refine g_getr (q := 54) dX6_cancel_51 rfl fk_X6_187 rfl rfl ?_
        refine g_iload_n (i := 1) (q := 55) dX6_cancel_54 rfl rfl rfl ?_
        refine g_iconst (q := 56) dX6_cancel_55 rfl ⟨by decide, by decide⟩ ?_
        refine g_iast (q := 57) dX6_cancel_56 rfl ⟨by decide, rfl, rfl⟩ (by omega) (by omega) ?_
        refine g_aload_n (i := 0) (q := 58) dX6_cancel_57 rfl rfl rfl ?_
        refine g_getr (q := 61) dX6_cancel_58 rfl fk_X6_30 rfl rfl ?_
        refine g_fnV (as := []) (q := 64) (u' := 1) dX6_cancel_61 rfl ck_X6_195 rfl rfl rfl (Nat.le_of_ble_eq_true rfl) (by decide) rfl (by decide) (s_X4_countWaiting (S := z_sA S 19 o 3) hc h60) rfl ?_
        exact g_ret dX6_cancel_64 rfl (by decide) (by unfold o_cancel; (repeat (first | rw [if_pos (by omega)] | rw [if_neg (by omega)])); exact ⟨rfl, rfl⟩)
      · exact g_throw (text := "the order is not waiting, or comes too soon") rfl rfl z_tk_S (by decide +kernel) dX6_cancel_37 dX6_cancel_40 dX6_cancel_41 dX6_cancel_43 dX6_cancel_46 (by decide) (by decide) (by decide) (by unfold o_cancel; (repeat (first | rw [if_pos (by omega)] | rw [if_neg (by omega)])); exact ⟨rfl, rfl⟩)
  · exact g_exV (as := [zI o]) dX6_cancel_2 ck_X6_184 rfl rfl rfl (Nat.le_of_ble_eq_true rfl) (by decide) (by decide) rfl (s_X6_requireOrder_ex c2) (by unfold o_cancel; (repeat (first | rw [if_pos (by omega)] | rw [if_neg (by omega)])); exact ⟨rfl, rfl⟩)
end
section
/-! ===== the class's public calls, second part ===== -/
def x_rv (S : zS) (o : Int) : zS := x_pay (x_mv (z_sA S 19 o 4) (S.2.1 21 o) (S.2.1 23 o)) (S.2.1 23 o) (S.2.1 22 o) 5
def o_reverse (S : zS) (o : Int) : zO := if ¬ (0 ≤ o ∧ o < S.1 1) then (.error xI, S) else if ¬ (S.2.1 19 o = 2 ∧ S.1 0 - S.2.1 24 o ≤ 60 ∧ ¬ S.2.1 13 (S.2.1 21 o) = -1 ∧ S.2.1 9 (S.2.1 23 o) = 0 ∧ S.2.1 18 (S.2.1 21 o) = o) then (.error xS, S) else (zI? (S.2.1 23 o), x_rv S o)
theorem c_reverse {S : zS} {o : Int} (h60 : S.1 1 ≤ 60) (hnow : 0 ≤ S.1 0 ∧ S.1 0 ≤ 9999) (h2 : 0 ≤ S.1 2 ∧ S.1 2 < 600) (h3 : 0 ≤ S.1 3 ∧ S.1 3 < 572) (hd : ∀ o : Int, 0 ≤ o → o < S.1 1 → (0 ≤ S.2.1 21 o ∧ S.2.1 21 o < 200) ∧ (0 ≤ S.2.1 22 o ∧ S.2.1 22 o < 6) ∧ (0 ≤ S.2.1 24 o ∧ S.2.1 24 o ≤ 20000) ∧ (S.2.1 19 o = 2 → 0 ≤ S.2.1 23 o ∧ S.2.1 23 o < 6)) : z_Out mX6_reverse [zR 0, zI o] S (o_reverse S o) := by
  refine z_enter (by decide +kernel) rfl (z_n1 trivial (z_n1 trivial z_n0)) (Nat.le_of_ble_eq_true rfl) ?_
  by_cases ho : 0 ≤ o ∧ o < S.1 1
  · obtain ⟨d1, d2, d3, d4⟩ := hd o ho.1 ho.2
    by_cases hr : S.2.1 19 o = 2 ∧ S.1 0 - S.2.1 24 o ≤ 60 ∧ ¬ S.2.1 13 (S.2.1 21 o) = -1 ∧ S.2.1 9 (S.2.1 23 o) = 0 ∧ S.2.1 18 (S.2.1 21 o) = o
    · have d5 := d4 hr.1
      refine g_aload_n (i := 0) (q := 1) dX6_reverse_0 rfl rfl rfl ?_
      refine g_iload_n (i := 1) (q := 2) dX6_reverse_1 rfl rfl rfl ?_
      refine g_fnV (as := [zI o]) (q := 5) (u' := 1) dX6_reverse_2 rfl ck_X6_184 rfl rfl rfl (Nat.le_of_ble_eq_true rfl) (by decide) rfl (by decide) (s_X6_requireOrder_ok ho) rfl ?_
      refine g_aload_n (i := 0) (q := 6) dX6_reverse_5 rfl rfl rfl ?_
      refine g_iload_n (i := 1) (q := 7) dX6_reverse_6 rfl rfl rfl ?_
      refine g_fnV (as := [zI o]) (q := 10) (u' := 1) dX6_reverse_7 rfl ck_X6_199 rfl rfl rfl (Nat.le_of_ble_eq_true rfl) (by decide) rfl (by decide) (s_X6_canReverse_t (by omega) hnow d1 d5 (by omega) hr) rfl ?_
      refine g_if_ne (t := 23) (q := 13) dX6_reverse_10 (by decide) rfl (fun h10 => ?_) (fun h10 => (False.elim (by omega)))
      refine g_aload_n (i := 0) (q := 24) dX6_reverse_23 rfl rfl rfl ?_
      refine g_getr (q := 27) dX6_reverse_24 rfl fk_X6_30 rfl rfl ?_
      refine g_getr (q := 30) dX6_reverse_27 rfl fk_X6_204 rfl rfl ?_
      refine g_iload_n (i := 1) (q := 31) dX6_reverse_30 rfl rfl rfl ?_
      refine g_ildv (q := 32) (z := S.2.1 23 o) dX6_reverse_31 rfl ⟨by decide, rfl, rfl⟩ (by omega) (by omega) rfl ?_
      refine g_istore_n (i := 2) (q := 33) dX6_reverse_32 rfl rfl (by decide) ?_
      refine g_aload_n (i := 0) (q := 34) dX6_reverse_33 rfl rfl rfl ?_
      refine g_getr (q := 37) dX6_reverse_34 rfl fk_X6_30 rfl rfl ?_
      refine g_getr (q := 40) dX6_reverse_37 rfl fk_X6_187 rfl rfl ?_
      refine g_iload_n (i := 1) (q := 41) dX6_reverse_40 rfl rfl rfl ?_
      refine g_iconst (q := 42) dX6_reverse_41 rfl ⟨by decide, by decide⟩ ?_
      refine g_iast (q := 43) dX6_reverse_42 rfl ⟨by decide, rfl, rfl⟩ (by omega) (by omega) ?_
      refine g_aload_n (i := 0) (q := 44) dX6_reverse_43 rfl rfl rfl ?_
      refine g_aload_n (i := 0) (q := 45) dX6_reverse_44 rfl rfl rfl ?_
      refine g_getr (q := 48) dX6_reverse_45 rfl fk_X6_30 rfl rfl ?_
      refine g_getr (q := 51) dX6_reverse_48 rfl fk_X6_207 rfl rfl ?_
      refine g_iload_n (i := 1) (q := 52) dX6_reverse_51 rfl rfl rfl ?_
      refine g_ildv (q := 53) (z := S.2.1 21 o) dX6_reverse_52 rfl ⟨by decide, rfl, rfl⟩ (by omega) (by omega) rfl ?_
      refine g_iload_n (i := 2) (q := 54) dX6_reverse_53 rfl rfl rfl ?_
      refine g_fnV (as := [zI (S.2.1 21 o), zI (S.2.1 23 o)]) (q := 57) (u' := 1) dX6_reverse_54 rfl ck_X6_210 rfl rfl rfl (Nat.le_of_ble_eq_true rfl) (by decide) rfl (by decide) (s_X6_moveTo (S := z_sA S 19 o 4) d1 h2 h3) rfl ?_
      refine g_aload_n (i := 0) (q := 58) dX6_reverse_57 rfl rfl rfl ?_
      refine g_getr (q := 61) dX6_reverse_58 rfl fk_X6_16 rfl rfl ?_
      refine g_iload_n (i := 2) (q := 62) dX6_reverse_61 rfl rfl rfl ?_
      refine g_aload_n (i := 0) (q := 63) dX6_reverse_62 rfl rfl rfl ?_
      refine g_getr (q := 66) dX6_reverse_63 rfl fk_X6_30 rfl rfl ?_
      refine g_getr (q := 69) dX6_reverse_66 rfl fk_X6_213 rfl rfl ?_
      refine g_iload_n (i := 1) (q := 70) dX6_reverse_69 rfl rfl rfl ?_
      refine g_ildv (q := 71) (z := (x_mv (z_sA S 19 o 4) (S.2.1 21 o) (S.2.1 23 o)).2.1 22 o) dX6_reverse_70 rfl ⟨by decide, rfl, rfl⟩ (by omega) (by omega) rfl ?_
      refine g_iconst (q := 72) dX6_reverse_71 rfl ⟨by decide, by decide⟩ ?_
      refine g_fnV (as := [zI (S.2.1 23 o), zI ((x_mv (z_sA S 19 o 4) (S.2.1 21 o) (S.2.1 23 o)).2.1 22 o), zI 5]) (q := 75) (u' := 1) dX6_reverse_72 rfl ck_X6_216 rfl rfl rfl (Nat.le_of_ble_eq_true rfl) (by decide) rfl (by decide) (s_X2_pay d5 d2) rfl ?_
      refine g_iload_n (i := 2) (q := 76) dX6_reverse_75 rfl rfl rfl ?_
      exact g_ret dX6_reverse_76 rfl (by decide) (by unfold o_reverse; rw [if_neg (by omega), if_neg (fun q => q hr)]; exact ⟨rfl, rfl⟩)
    · skip
      refine g_aload_n (i := 0) (q := 1) dX6_reverse_0 rfl rfl rfl ?_
      refine g_iload_n (i := 1) (q := 2) dX6_reverse_1 rfl rfl rfl ?_
      refine g_fnV (as := [zI o]) (q := 5) (u' := 1) dX6_reverse_2 rfl ck_X6_184 rfl rfl rfl (Nat.le_of_ble_eq_true rfl) (by decide) rfl (by decide) (s_X6_requireOrder_ok ho) rfl ?_
      refine g_aload_n (i := 0) (q := 6) dX6_reverse_5 rfl rfl rfl ?_
      refine g_iload_n (i := 1) (q := 7) dX6_reverse_6 rfl rfl rfl ?_
      refine g_fnV (as := [zI o]) (q := 10) (u' := 1) dX6_reverse_7 rfl ck_X6_199 rfl rfl rfl (Nat.le_of_ble_eq_true rfl) (by decide) rfl (by decide) (s_X6_canReverse_f (by omega) hnow d1 d4 (by omega) hr) rfl ?_
      refine g_if_ne (t := 23) (q := 13) dX6_reverse_10 (by decide) rfl (fun h10 => (False.elim (by omega))) (fun h10 => ?_)
      exact g_throw (text := "the order cannot be turned back") rfl rfl z_tk_S (by decide +kernel) dX6_reverse_13 dX6_reverse_16 dX6_reverse_17 dX6_reverse_19 dX6_reverse_22 (by decide) (by decide) (by decide) (by unfold o_reverse; rw [if_neg (by omega), if_pos hr]; exact ⟨rfl, rfl⟩)
  · skip
    refine g_aload_n (i := 0) (q := 1) dX6_reverse_0 rfl rfl rfl ?_
    refine g_iload_n (i := 1) (q := 2) dX6_reverse_1 rfl rfl rfl ?_
    exact g_exV (as := [zI o]) dX6_reverse_2 ck_X6_184 rfl rfl rfl (Nat.le_of_ble_eq_true rfl) (by decide) (by decide) rfl (s_X6_requireOrder_ex ho) (by unfold o_reverse; (repeat (first | rw [if_pos (by omega)] | rw [if_neg (by omega)])); exact ⟨rfl, rfl⟩)
def o_pass (S : zS) (c : Nat) (m : Int) : zO := if ¬ (1 ≤ m ∧ m ≤ 100) then (.error xA, S) else if 9999 < S.1 0 + m then (.error xS, S) else (zI? (x_psn S c m.toNat), x_ps S c m.toNat)
theorem c_pass {S : zS} {c : Nat} {m : Int} (P : xP S c) (h2 : 1 ≤ m → m ≤ 100 → S.1 0 + m ≤ 9999 → (x_ps S c m.toNat).1 2 ≤ 600 ∧ (x_ps S c m.toNat).1 3 ≤ 572) : z_Out mX6_pass [zR 0, zI m] S (o_pass S c m) := by
  have hnow := P.2.2.1
  refine z_enter (by decide +kernel) rfl (z_n1 trivial (z_n1 trivial z_n0)) (Nat.le_of_ble_eq_true rfl) ?_
  by_cases hm : 1 ≤ m ∧ m ≤ 100
  · obtain ⟨k, rfl⟩ : ∃ k : Nat, m = k := ⟨m.toNat, by omega⟩
    by_cases hn : S.1 0 + (k : Int) ≤ 9999
    · have hh := h2 hm.1 hm.2 hn
      rw [Int.toNat_natCast] at hh
      refine g_iload_n (i := 1) (q := 1) dX6_pass_0 rfl rfl rfl ?_
      refine g_iconst (q := 2) dX6_pass_1 rfl ⟨by decide, by decide⟩ ?_
      refine g_icmp_lt (t := 11) (q := 5) dX6_pass_2 (by decide) rfl (fun h2 => (False.elim (by omega))) (fun h2 => ?_)
      refine g_iload_n (i := 1) (q := 6) dX6_pass_5 rfl rfl rfl ?_
      refine g_bipush (q := 8) dX6_pass_6 rfl ⟨by decide, by decide⟩ (by decide) ?_
      refine g_icmp_le (t := 21) (q := 11) dX6_pass_8 (by decide) rfl (fun h8 => ?_) (fun h8 => (False.elim (by omega)))
      refine g_aload_n (i := 0) (q := 22) dX6_pass_21 rfl rfl rfl ?_
      refine g_getv (q := 25) (z := S.1 0) dX6_pass_22 rfl fk_X6_55 rfl rfl rfl ?_
      refine g_iload_n (i := 1) (q := 26) dX6_pass_25 rfl rfl rfl ?_
      refine g_iadd (q := 27) dX6_pass_26 rfl (by constructor <;> omega) ?_
      refine g_sipush (q := 30) dX6_pass_27 rfl ⟨by decide, by decide⟩ (by decide) ?_
      refine g_icmp_le (t := 43) (q := 33) dX6_pass_30 (by decide) rfl (fun h30 => ?_) (fun h30 => (False.elim (by omega)))
      refine g_iconst (q := 44) dX6_pass_43 rfl ⟨by decide, by decide⟩ ?_
      refine g_istore_n (i := 2) (q := 45) dX6_pass_44 rfl rfl (by decide) ?_
      refine g_iconst (q := 46) dX6_pass_45 rfl ⟨by decide, by decide⟩ ?_
      refine g_istore_n (i := 3) (q := 47) dX6_pass_46 rfl rfl (by decide) ?_
      exact l_X6_pass (by omega) k 0 S 0 (by omega) P hn hh.1 hh.2 (by omega) (by unfold o_pass; rw [if_neg (by omega), if_neg (by omega), Int.toNat_natCast, Int.zero_add]; exact ⟨rfl, rfl⟩)
    · skip
      refine g_iload_n (i := 1) (q := 1) dX6_pass_0 rfl rfl rfl ?_
      refine g_iconst (q := 2) dX6_pass_1 rfl ⟨by decide, by decide⟩ ?_
      refine g_icmp_lt (t := 11) (q := 5) dX6_pass_2 (by decide) rfl (fun h2 => (False.elim (by omega))) (fun h2 => ?_)
      refine g_iload_n (i := 1) (q := 6) dX6_pass_5 rfl rfl rfl ?_
      refine g_bipush (q := 8) dX6_pass_6 rfl ⟨by decide, by decide⟩ (by decide) ?_
      refine g_icmp_le (t := 21) (q := 11) dX6_pass_8 (by decide) rfl (fun h8 => ?_) (fun h8 => (False.elim (by omega)))
      refine g_aload_n (i := 0) (q := 22) dX6_pass_21 rfl rfl rfl ?_
      refine g_getv (q := 25) (z := S.1 0) dX6_pass_22 rfl fk_X6_55 rfl rfl rfl ?_
      refine g_iload_n (i := 1) (q := 26) dX6_pass_25 rfl rfl rfl ?_
      refine g_iadd (q := 27) dX6_pass_26 rfl (by constructor <;> omega) ?_
      refine g_sipush (q := 30) dX6_pass_27 rfl ⟨by decide, by decide⟩ (by decide) ?_
      refine g_icmp_le (t := 43) (q := 33) dX6_pass_30 (by decide) rfl (fun h30 => (False.elim (by omega))) (fun h30 => ?_)
      exact g_throw (text := "the minute would be too late") rfl rfl z_tk_S (by decide +kernel) dX6_pass_33 dX6_pass_36 dX6_pass_37 dX6_pass_39 dX6_pass_42 (by decide) (by decide) (by decide) (by unfold o_pass; (repeat (first | rw [if_pos (by omega)] | rw [if_neg (by omega)])); exact ⟨rfl, rfl⟩)
  · skip
    refine g_iload_n (i := 1) (q := 1) dX6_pass_0 rfl rfl rfl ?_
    refine g_iconst (q := 2) dX6_pass_1 rfl ⟨by decide, by decide⟩ ?_
    refine g_icmp_lt (t := 11) (q := 5) dX6_pass_2 (by decide) rfl (fun h2 => ?_) (fun h2 => ?_)
    · exact g_throw (text := "minutes is out of range") rfl rfl z_tk_A (by decide +kernel) dX6_pass_11 dX6_pass_14 dX6_pass_15 dX6_pass_17 dX6_pass_20 (by decide) (by decide) (by decide) (by unfold o_pass; (repeat (first | rw [if_pos (by omega)] | rw [if_neg (by omega)])); exact ⟨rfl, rfl⟩)
    · refine g_iload_n (i := 1) (q := 6) dX6_pass_5 rfl rfl rfl ?_
      refine g_bipush (q := 8) dX6_pass_6 rfl ⟨by decide, by decide⟩ (by decide) ?_
      refine g_icmp_le (t := 21) (q := 11) dX6_pass_8 (by decide) rfl (fun h8 => ?_) (fun h8 => ?_)
      · exfalso
        omega
      · exact g_throw (text := "minutes is out of range") rfl rfl z_tk_A (by decide +kernel) dX6_pass_11 dX6_pass_14 dX6_pass_15 dX6_pass_17 dX6_pass_20 (by decide) (by decide) (by decide) (by unfold o_pass; (repeat (first | rw [if_pos (by omega)] | rw [if_neg (by omega)])); exact ⟨rfl, rfl⟩)
def o_setLag (S : zS) (f g : Int) : zO := if ¬ (0 ≤ f ∧ f < 6) then (.error xI, S) else if ¬ (0 ≤ g ∧ g ≤ 50) then (.error xA, S) else (zI? (S.2.1 11 f), z_sA S 11 f g)
theorem c_setLag {S : zS} {f g : Int} : z_Out mX6_setLag [zR 0, zI f, zI g] S (o_setLag S f g) := by
  refine z_enter (by decide +kernel) rfl (z_n1 trivial (z_n1 trivial (z_n1 trivial z_n0))) (Nat.le_of_ble_eq_true rfl) ?_
  refine g_iload_n (i := 1) (q := 1) dX6_setLag_0 rfl rfl rfl ?_
  by_cases c1 : 0 ≤ f ∧ f < 6
  · skip
    refine g_fnS (as := [zI f]) (q := 4) (u' := 1) dX6_setLag_1 rfl ck_X6_150 rfl rfl (Nat.le_of_ble_eq_true rfl) (by decide) rfl (by decide) (s_X6_requireFirm_ok c1) rfl ?_
    refine g_iload_n (i := 2) (q := 5) dX6_setLag_4 rfl rfl rfl ?_
    refine g_if_lt (t := 14) (q := 8) dX6_setLag_5 (by decide) rfl (fun h5 => ?_) (fun h5 => ?_)
    · exact g_throw (text := "lag is out of range") rfl rfl z_tk_A (by decide +kernel) dX6_setLag_14 dX6_setLag_17 dX6_setLag_18 dX6_setLag_20 dX6_setLag_23 (by decide) (by decide) (by decide) (by unfold o_setLag; (repeat (first | rw [if_pos (by omega)] | rw [if_neg (by omega)])); exact ⟨rfl, rfl⟩)
    · refine g_iload_n (i := 2) (q := 9) dX6_setLag_8 rfl rfl rfl ?_
      refine g_bipush (q := 11) dX6_setLag_9 rfl ⟨by decide, by decide⟩ (by decide) ?_
      refine g_icmp_le (t := 24) (q := 14) dX6_setLag_11 (by decide) rfl (fun h11 => ?_) (fun h11 => ?_)
      · refine g_aload_n (i := 0) (q := 25) dX6_setLag_24 rfl rfl rfl ?_
        refine g_getr (q := 28) dX6_setLag_25 rfl fk_X6_16 rfl rfl ?_
        refine g_getr (q := 31) dX6_setLag_28 rfl fk_X6_231 rfl rfl ?_
        refine g_iload_n (i := 1) (q := 32) dX6_setLag_31 rfl rfl rfl ?_
        refine g_ildv (q := 33) (z := S.2.1 11 f) dX6_setLag_32 rfl ⟨by decide, rfl, rfl⟩ (by omega) (by omega) rfl ?_
        refine g_istore_n (i := 3) (q := 34) dX6_setLag_33 rfl rfl (by decide) ?_
        refine g_aload_n (i := 0) (q := 35) dX6_setLag_34 rfl rfl rfl ?_
        refine g_getr (q := 38) dX6_setLag_35 rfl fk_X6_16 rfl rfl ?_
        refine g_getr (q := 41) dX6_setLag_38 rfl fk_X6_231 rfl rfl ?_
        refine g_iload_n (i := 1) (q := 42) dX6_setLag_41 rfl rfl rfl ?_
        refine g_iload_n (i := 2) (q := 43) dX6_setLag_42 rfl rfl rfl ?_
        refine g_iast (q := 44) dX6_setLag_43 rfl ⟨by decide, rfl, rfl⟩ (by omega) (by omega) ?_
        refine g_iload_n (i := 3) (q := 45) dX6_setLag_44 rfl rfl rfl ?_
        exact g_ret dX6_setLag_45 rfl (by decide) (by unfold o_setLag; (repeat (first | rw [if_pos (by omega)] | rw [if_neg (by omega)])); exact ⟨rfl, rfl⟩)
      · exact g_throw (text := "lag is out of range") rfl rfl z_tk_A (by decide +kernel) dX6_setLag_14 dX6_setLag_17 dX6_setLag_18 dX6_setLag_20 dX6_setLag_23 (by decide) (by decide) (by decide) (by unfold o_setLag; (repeat (first | rw [if_pos (by omega)] | rw [if_neg (by omega)])); exact ⟨rfl, rfl⟩)
  · exact g_exS (as := [zI f]) dX6_setLag_1 ck_X6_150 rfl rfl (Nat.le_of_ble_eq_true rfl) (by decide) (by decide) rfl (s_X6_requireFirm_ex c1) (by unfold o_setLag; (repeat (first | rw [if_pos (by omega)] | rw [if_neg (by omega)])); exact ⟨rfl, rfl⟩)
def o_setDown (S : zS) (f g : Int) : zO := if ¬ (0 ≤ f ∧ f < 6) then (.error xI, S) else (zI? (S.2.1 10 f), z_sA S 10 f g)
theorem c_setDown {S : zS} {f g : Int} (hg : g = 0 ∨ g = 1) (hd : ∀ f : Int, 0 ≤ f → f < 6 → S.2.1 10 f = 0 ∨ S.2.1 10 f = 1) : z_Out mX6_setDown [zR 0, zI f, zI g] S (o_setDown S f g) := by
  refine z_enter (by decide +kernel) rfl (z_n1 trivial (z_n1 trivial (z_n1 trivial z_n0))) (Nat.le_of_ble_eq_true rfl) ?_
  refine g_iload_n (i := 1) (q := 1) dX6_setDown_0 rfl rfl rfl ?_
  by_cases c1 : 0 ≤ f ∧ f < 6
  · skip
    refine g_fnS (as := [zI f]) (q := 4) (u' := 1) dX6_setDown_1 rfl ck_X6_150 rfl rfl (Nat.le_of_ble_eq_true rfl) (by decide) rfl (by decide) (s_X6_requireFirm_ok c1) rfl ?_
    refine g_aload_n (i := 0) (q := 5) dX6_setDown_4 rfl rfl rfl ?_
    refine g_getr (q := 8) dX6_setDown_5 rfl fk_X6_16 rfl rfl ?_
    refine g_getr (q := 11) dX6_setDown_8 rfl fk_X6_234 rfl rfl ?_
    refine g_iload_n (i := 1) (q := 12) dX6_setDown_11 rfl rfl rfl ?_
    refine g_zldv (q := 13) (z := S.2.1 10 f) dX6_setDown_12 rfl ⟨by decide, rfl, rfl⟩ (by omega) (by omega) rfl ?_
    refine g_istore_n (i := 3) (q := 14) dX6_setDown_13 rfl rfl (by decide) ?_
    refine g_aload_n (i := 0) (q := 15) dX6_setDown_14 rfl rfl rfl ?_
    refine g_getr (q := 18) dX6_setDown_15 rfl fk_X6_16 rfl rfl ?_
    refine g_getr (q := 21) dX6_setDown_18 rfl fk_X6_234 rfl rfl ?_
    refine g_iload_n (i := 1) (q := 22) dX6_setDown_21 rfl rfl rfl ?_
    refine g_iload_n (i := 2) (q := 23) dX6_setDown_22 rfl rfl rfl ?_
    refine g_zast (q := 24) dX6_setDown_23 rfl ⟨by decide, rfl, rfl⟩ (by omega) (by omega) (by omega) ?_
    refine g_iload_n (i := 3) (q := 25) dX6_setDown_24 rfl rfl rfl ?_
    exact g_retz dX6_setDown_25 rfl (hd f (by omega) (by omega)) (by decide) (by unfold o_setDown; (repeat (first | rw [if_pos (by omega)] | rw [if_neg (by omega)])); exact ⟨rfl, rfl⟩)
  · exact g_exS (as := [zI f]) dX6_setDown_1 ck_X6_150 rfl rfl (Nat.le_of_ble_eq_true rfl) (by decide) (by decide) rfl (s_X6_requireFirm_ex c1) (by unfold o_setDown; (repeat (first | rw [if_pos (by omega)] | rw [if_neg (by omega)])); exact ⟨rfl, rfl⟩)
def o_correct (S : zS) (c2 : Nat) (f : Int) : zO := if ¬ (0 ≤ f ∧ f < 6) then (.error xI, S) else (zI? (S.1 2 - S.2.1 28 f), x_la S f (S.2.1 28 f).toNat (c2 - (S.2.1 28 f).toNat))
theorem c_correct {S : zS} {f : Int} {c2 : Nat} (hc2 : S.1 2 = c2) (h6 : c2 ≤ 600) (hk : ∀ f : Int, 0 ≤ f → f < 6 → 0 ≤ S.2.1 28 f ∧ S.2.1 28 f ≤ S.1 2) (hJ : ∀ j : Int, 0 ≤ j → j < S.1 2 → 0 ≤ S.2.1 26 j ∧ S.2.1 26 j < 200) : z_Out mX6_correct [zR 0, zI f] S (o_correct S c2 f) := by
  refine z_enter (by decide +kernel) rfl (z_n1 trivial (z_n1 trivial z_n0)) (Nat.le_of_ble_eq_true rfl) ?_
  refine g_iload_n (i := 1) (q := 1) dX6_correct_0 rfl rfl rfl ?_
  by_cases c1 : 0 ≤ f ∧ f < 6
  · skip
    refine g_fnS (as := [zI f]) (q := 4) (u' := 1) dX6_correct_1 rfl ck_X6_150 rfl rfl (Nat.le_of_ble_eq_true rfl) (by decide) rfl (by decide) (s_X6_requireFirm_ok c1) rfl ?_
    have hkf := hk f (by omega) (by omega)
    refine g_aload_n (i := 0) (q := 5) dX6_correct_4 rfl rfl rfl ?_
    refine g_getr (q := 8) dX6_correct_5 rfl fk_X6_37 rfl rfl ?_
    refine g_iload_n (i := 1) (q := 9) dX6_correct_8 rfl rfl rfl ?_
    refine g_fnV (as := [zI f]) (q := 12) (u' := 1) dX6_correct_9 rfl ck_X6_237 rfl rfl rfl (Nat.le_of_ble_eq_true rfl) (by decide) rfl (by decide) (s_X0_countUnknown (by omega) (by omega) (by omega) (by omega) (by omega)) rfl ?_
    refine g_istore_n (i := 2) (q := 13) dX6_correct_12 rfl rfl (by decide) ?_
    refine g_aload_n (i := 0) (q := 14) dX6_correct_13 rfl rfl rfl ?_
    refine g_getr (q := 17) dX6_correct_14 rfl fk_X6_37 rfl rfl ?_
    refine g_iload_n (i := 1) (q := 18) dX6_correct_17 rfl rfl rfl ?_
    refine g_fnV (as := [zI f]) (q := 21) (u' := 1) dX6_correct_18 rfl ck_X6_240 rfl rfl rfl (Nat.le_of_ble_eq_true rfl) (by decide) rfl (by decide) (s_X0_learnAll (a := (S.2.1 28 f).toNat) (by omega) hc2 h6 (by omega) (by omega) (fun j hj => hJ j (by omega) (by omega))) rfl ?_
    refine g_iload_n (i := 2) (q := 22) dX6_correct_21 rfl rfl rfl ?_
    exact g_ret dX6_correct_22 rfl (by decide) (by unfold o_correct; (repeat (first | rw [if_pos (by omega)] | rw [if_neg (by omega)])); exact ⟨rfl, rfl⟩)
  · exact g_exS (as := [zI f]) dX6_correct_1 ck_X6_150 rfl rfl (Nat.le_of_ble_eq_true rfl) (by decide) (by decide) rfl (s_X6_requireFirm_ex c1) (by unfold o_correct; (repeat (first | rw [if_pos (by omega)] | rw [if_neg (by omega)])); exact ⟨rfl, rfl⟩)
def o_server (S : zS) (n : Int) : zO := if ¬ (0 ≤ n ∧ n < 200) then (.error xI, S) else (zI? (S.2.1 13 n), S)
theorem c_server {S : zS} {n : Int} : z_Out mX6_server [zR 0, zI n] S (o_server S n) := by
  refine z_enter (by decide +kernel) rfl (z_n1 trivial (z_n1 trivial z_n0)) (Nat.le_of_ble_eq_true rfl) ?_
  refine g_iload_n (i := 1) (q := 1) dX6_server_0 rfl rfl rfl ?_
  by_cases c1 : 0 ≤ n ∧ n < 200
  · skip
    refine g_fnS (as := [zI n]) (q := 4) (u' := 1) dX6_server_1 rfl ck_X6_99 rfl rfl (Nat.le_of_ble_eq_true rfl) (by decide) rfl (by decide) (s_X6_requireNumber_ok c1) rfl ?_
    refine g_aload_n (i := 0) (q := 5) dX6_server_4 rfl rfl rfl ?_
    refine g_getr (q := 8) dX6_server_5 rfl fk_X6_23 rfl rfl ?_
    refine g_getr (q := 11) dX6_server_8 rfl fk_X6_129 rfl rfl ?_
    refine g_iload_n (i := 1) (q := 12) dX6_server_11 rfl rfl rfl ?_
    refine g_ildv (q := 13) (z := S.2.1 13 n) dX6_server_12 rfl ⟨by decide, rfl, rfl⟩ (by omega) (by omega) rfl ?_
    exact g_ret dX6_server_13 rfl (by decide) (by unfold o_server; (repeat (first | rw [if_pos (by omega)] | rw [if_neg (by omega)])); exact ⟨rfl, rfl⟩)
  · exact g_exS (as := [zI n]) dX6_server_1 ck_X6_99 rfl rfl (Nat.le_of_ble_eq_true rfl) (by decide) (by decide) rfl (s_X6_requireNumber_ex c1) (by unfold o_server; (repeat (first | rw [if_pos (by omega)] | rw [if_neg (by omega)])); exact ⟨rfl, rfl⟩)
def o_serverAnew (S : zS) (c3 : Nat) (n : Int) : zO := if ¬ (0 ≤ n ∧ n < 200) then (.error xI, S) else (zI? (x_rep S n 0 c3 (-1)), S)
theorem c_serverAnew {S : zS} {n : Int} {c3 : Nat} (hc3 : S.1 3 = c3) (h572 : c3 ≤ 572) : z_Out mX6_serverAnew [zR 0, zI n] S (o_serverAnew S c3 n) := by
  refine z_enter (by decide +kernel) rfl (z_n1 trivial (z_n1 trivial z_n0)) (Nat.le_of_ble_eq_true rfl) ?_
  refine g_iload_n (i := 1) (q := 1) dX6_serverAnew_0 rfl rfl rfl ?_
  by_cases c1 : 0 ≤ n ∧ n < 200
  · skip
    refine g_fnS (as := [zI n]) (q := 4) (u' := 1) dX6_serverAnew_1 rfl ck_X6_99 rfl rfl (Nat.le_of_ble_eq_true rfl) (by decide) rfl (by decide) (s_X6_requireNumber_ok c1) rfl ?_
    refine g_aload_n (i := 0) (q := 5) dX6_serverAnew_4 rfl rfl rfl ?_
    refine g_getr (q := 8) dX6_serverAnew_5 rfl fk_X6_44 rfl rfl ?_
    refine g_iload_n (i := 1) (q := 9) dX6_serverAnew_8 rfl rfl rfl ?_
    refine g_fnV (as := [zI n]) (q := 12) (u' := 1) dX6_serverAnew_9 rfl ck_X6_243 rfl rfl rfl (Nat.le_of_ble_eq_true rfl) (by decide) rfl (by decide) (s_X3_replay hc3 h572) rfl ?_
    exact g_ret dX6_serverAnew_12 rfl (by decide) (by unfold o_serverAnew; (repeat (first | rw [if_pos (by omega)] | rw [if_neg (by omega)])); exact ⟨rfl, rfl⟩)
  · exact g_exS (as := [zI n]) dX6_serverAnew_1 ck_X6_99 rfl rfl (Nat.le_of_ble_eq_true rfl) (by decide) (by decide) rfl (s_X6_requireNumber_ex c1) (by unfold o_serverAnew; (repeat (first | rw [if_pos (by omega)] | rw [if_neg (by omega)])); exact ⟨rfl, rfl⟩)
def z_b (p : Prop) [Decidable p] : Int := if p then 1 else 0
def o_number (S : zS) (c : Nat) (n w : Int) : zO := if ¬ (0 ≤ n ∧ n < 200) then (.error xI, S) else if ¬ (0 ≤ w ∧ w < 5) then (.error xA, S) else
  (zI? (if w = 0 then S.2.1 8 (n / 10) else if w = 1 then z_b (S.1 0 ≤ S.2.1 15 n) else if w = 2 then z_b (S.1 0 ≤ S.2.1 16 n) else if w = 3 then z_b (S.1 0 ≤ S.2.1 17 n) else z_on (x_wf S n c)), S)
theorem c_number {S : zS} {n w : Int} {c : Nat} (hc : S.1 1 = c) (h60 : c ≤ 60) : z_Out mX6_number [zR 0, zI n, zI w] S (o_number S c n w) := by
  refine z_enter (by decide +kernel) rfl (z_n1 trivial (z_n1 trivial (z_n1 trivial z_n0))) (Nat.le_of_ble_eq_true rfl) ?_
  by_cases hw : 0 ≤ w ∧ w < 5
  · have hw5 : w = 0 ∨ w = 1 ∨ w = 2 ∨ w = 3 ∨ w = 4 := by omega
    rcases hw5 with rfl | rfl | rfl | rfl | rfl
    · skip
      refine g_iload_n (i := 1) (q := 1) dX6_number_0 rfl rfl rfl ?_
      by_cases c1 : 0 ≤ n ∧ n < 200
      · skip
        refine g_fnS (as := [zI n]) (q := 4) (u' := 1) dX6_number_1 rfl ck_X6_99 rfl rfl (Nat.le_of_ble_eq_true rfl) (by decide) rfl (by decide) (s_X6_requireNumber_ok c1) rfl ?_
        refine g_iload_n (i := 2) (q := 5) dX6_number_4 rfl rfl rfl ?_
        refine g_iconst (q := 6) dX6_number_5 rfl ⟨by decide, by decide⟩ ?_
        refine g_fnS (as := [zI 0, zI 5]) (q := 9) (u' := 2) dX6_number_6 rfl ck_X6_246 rfl rfl (Nat.le_of_ble_eq_true rfl) (by decide) rfl (by decide) (s_X6_requireWhat_ok (by omega)) rfl ?_
        refine g_iload_n (i := 2) (q := 10) dX6_number_9 rfl rfl rfl ?_
        refine g_swIn (q := 0) (t := 40) dX6_number_10 (by decide) (by decide) rfl (by decide) ?_
        refine g_aload_n (i := 0) (q := 41) dX6_number_40 rfl rfl rfl ?_
        refine g_iload_n (i := 1) (q := 42) dX6_number_41 rfl rfl rfl ?_
        refine g_fnV (as := [zI n]) (q := 45) (u' := 2) dX6_number_42 rfl ck_X6_106 rfl rfl rfl (Nat.le_of_ble_eq_true rfl) (by decide) rfl (by decide) (s_X6_holderOf (by omega)) rfl ?_
        exact g_ret dX6_number_45 rfl (by decide) (by unfold o_number; (repeat (first | rw [if_pos (by omega)] | rw [if_neg (by omega)])); exact ⟨rfl, rfl⟩)
      · exact g_exS (as := [zI n]) dX6_number_1 ck_X6_99 rfl rfl (Nat.le_of_ble_eq_true rfl) (by decide) (by decide) rfl (s_X6_requireNumber_ex c1) (by unfold o_number; (repeat (first | rw [if_pos (by omega)] | rw [if_neg (by omega)])); exact ⟨rfl, rfl⟩)
    · skip
      refine g_iload_n (i := 1) (q := 1) dX6_number_0 rfl rfl rfl ?_
      by_cases c1 : 0 ≤ n ∧ n < 200
      · skip
        refine g_fnS (as := [zI n]) (q := 4) (u' := 1) dX6_number_1 rfl ck_X6_99 rfl rfl (Nat.le_of_ble_eq_true rfl) (by decide) rfl (by decide) (s_X6_requireNumber_ok c1) rfl ?_
        refine g_iload_n (i := 2) (q := 5) dX6_number_4 rfl rfl rfl ?_
        refine g_iconst (q := 6) dX6_number_5 rfl ⟨by decide, by decide⟩ ?_
        refine g_fnS (as := [zI 1, zI 5]) (q := 9) (u' := 2) dX6_number_6 rfl ck_X6_246 rfl rfl (Nat.le_of_ble_eq_true rfl) (by decide) rfl (by decide) (s_X6_requireWhat_ok (by omega)) rfl ?_
        refine g_iload_n (i := 2) (q := 10) dX6_number_9 rfl rfl rfl ?_
        refine g_swIn (q := 0) (t := 46) dX6_number_10 (by decide) (by decide) rfl (by decide) ?_
        refine g_aload_n (i := 0) (q := 47) dX6_number_46 rfl rfl rfl ?_
        refine g_getr (q := 50) dX6_number_47 rfl fk_X6_23 rfl rfl ?_
        refine g_iload_n (i := 1) (q := 51) dX6_number_50 rfl rfl rfl ?_
        refine g_aload_n (i := 0) (q := 52) dX6_number_51 rfl rfl rfl ?_
        refine g_getv (q := 55) (z := S.1 0) dX6_number_52 rfl fk_X6_55 rfl rfl rfl ?_
        by_cases c55 : S.1 0 ≤ (S).2.1 15 n
        · refine g_fnV (as := [zI n, zI (S.1 0)]) (q := 58) (u' := 2) dX6_number_55 rfl ck_X6_112 rfl rfl rfl (Nat.le_of_ble_eq_true rfl) (by decide) rfl (by decide) (s_X1_isInQuarantine_t (by omega) c55) rfl ?_
          refine g_fnS (as := [zI 1]) (q := 61) (u' := 2) dX6_number_58 rfl ck_X6_249 rfl rfl (Nat.le_of_ble_eq_true rfl) (by decide) rfl (by decide) (s_X6_asInt (by omega)) rfl ?_
          exact g_ret dX6_number_61 rfl (by decide) (by unfold o_number z_b; (repeat (first | rw [if_pos (by omega)] | rw [if_neg (by omega)])); exact ⟨rfl, rfl⟩)
        · refine g_fnV (as := [zI n, zI (S.1 0)]) (q := 58) (u' := 2) dX6_number_55 rfl ck_X6_112 rfl rfl rfl (Nat.le_of_ble_eq_true rfl) (by decide) rfl (by decide) (s_X1_isInQuarantine_f (by omega) c55) rfl ?_
          refine g_fnS (as := [zI 0]) (q := 61) (u' := 2) dX6_number_58 rfl ck_X6_249 rfl rfl (Nat.le_of_ble_eq_true rfl) (by decide) rfl (by decide) (s_X6_asInt (by omega)) rfl ?_
          exact g_ret dX6_number_61 rfl (by decide) (by unfold o_number z_b; (repeat (first | rw [if_pos (by omega)] | rw [if_neg (by omega)])); exact ⟨rfl, rfl⟩)
      · exact g_exS (as := [zI n]) dX6_number_1 ck_X6_99 rfl rfl (Nat.le_of_ble_eq_true rfl) (by decide) (by decide) rfl (s_X6_requireNumber_ex c1) (by unfold o_number z_b; (repeat (first | rw [if_pos (by omega)] | rw [if_neg (by omega)])); exact ⟨rfl, rfl⟩)
    · skip
      refine g_iload_n (i := 1) (q := 1) dX6_number_0 rfl rfl rfl ?_
      by_cases c1 : 0 ≤ n ∧ n < 200
      · skip
        refine g_fnS (as := [zI n]) (q := 4) (u' := 1) dX6_number_1 rfl ck_X6_99 rfl rfl (Nat.le_of_ble_eq_true rfl) (by decide) rfl (by decide) (s_X6_requireNumber_ok c1) rfl ?_
        refine g_iload_n (i := 2) (q := 5) dX6_number_4 rfl rfl rfl ?_
        refine g_iconst (q := 6) dX6_number_5 rfl ⟨by decide, by decide⟩ ?_
        refine g_fnS (as := [zI 2, zI 5]) (q := 9) (u' := 2) dX6_number_6 rfl ck_X6_246 rfl rfl (Nat.le_of_ble_eq_true rfl) (by decide) rfl (by decide) (s_X6_requireWhat_ok (by omega)) rfl ?_
        refine g_iload_n (i := 2) (q := 10) dX6_number_9 rfl rfl rfl ?_
        refine g_swIn (q := 0) (t := 62) dX6_number_10 (by decide) (by decide) rfl (by decide) ?_
        refine g_aload_n (i := 0) (q := 63) dX6_number_62 rfl rfl rfl ?_
        refine g_getr (q := 66) dX6_number_63 rfl fk_X6_23 rfl rfl ?_
        refine g_iload_n (i := 1) (q := 67) dX6_number_66 rfl rfl rfl ?_
        refine g_aload_n (i := 0) (q := 68) dX6_number_67 rfl rfl rfl ?_
        refine g_getv (q := 71) (z := S.1 0) dX6_number_68 rfl fk_X6_55 rfl rfl rfl ?_
        by_cases c71 : S.1 0 ≤ (S).2.1 16 n
        · refine g_fnV (as := [zI n, zI (S.1 0)]) (q := 74) (u' := 2) dX6_number_71 rfl ck_X6_253 rfl rfl rfl (Nat.le_of_ble_eq_true rfl) (by decide) rfl (by decide) (s_X1_isSilent_t (by omega) c71) rfl ?_
          refine g_fnS (as := [zI 1]) (q := 77) (u' := 2) dX6_number_74 rfl ck_X6_249 rfl rfl (Nat.le_of_ble_eq_true rfl) (by decide) rfl (by decide) (s_X6_asInt (by omega)) rfl ?_
          exact g_ret dX6_number_77 rfl (by decide) (by unfold o_number z_b; (repeat (first | rw [if_pos (by omega)] | rw [if_neg (by omega)])); exact ⟨rfl, rfl⟩)
        · refine g_fnV (as := [zI n, zI (S.1 0)]) (q := 74) (u' := 2) dX6_number_71 rfl ck_X6_253 rfl rfl rfl (Nat.le_of_ble_eq_true rfl) (by decide) rfl (by decide) (s_X1_isSilent_f (by omega) c71) rfl ?_
          refine g_fnS (as := [zI 0]) (q := 77) (u' := 2) dX6_number_74 rfl ck_X6_249 rfl rfl (Nat.le_of_ble_eq_true rfl) (by decide) rfl (by decide) (s_X6_asInt (by omega)) rfl ?_
          exact g_ret dX6_number_77 rfl (by decide) (by unfold o_number z_b; (repeat (first | rw [if_pos (by omega)] | rw [if_neg (by omega)])); exact ⟨rfl, rfl⟩)
      · exact g_exS (as := [zI n]) dX6_number_1 ck_X6_99 rfl rfl (Nat.le_of_ble_eq_true rfl) (by decide) (by decide) rfl (s_X6_requireNumber_ex c1) (by unfold o_number z_b; (repeat (first | rw [if_pos (by omega)] | rw [if_neg (by omega)])); exact ⟨rfl, rfl⟩)
    · skip
      refine g_iload_n (i := 1) (q := 1) dX6_number_0 rfl rfl rfl ?_
      by_cases c1 : 0 ≤ n ∧ n < 200
      · skip
        refine g_fnS (as := [zI n]) (q := 4) (u' := 1) dX6_number_1 rfl ck_X6_99 rfl rfl (Nat.le_of_ble_eq_true rfl) (by decide) rfl (by decide) (s_X6_requireNumber_ok c1) rfl ?_
        refine g_iload_n (i := 2) (q := 5) dX6_number_4 rfl rfl rfl ?_
        refine g_iconst (q := 6) dX6_number_5 rfl ⟨by decide, by decide⟩ ?_
        refine g_fnS (as := [zI 3, zI 5]) (q := 9) (u' := 2) dX6_number_6 rfl ck_X6_246 rfl rfl (Nat.le_of_ble_eq_true rfl) (by decide) rfl (by decide) (s_X6_requireWhat_ok (by omega)) rfl ?_
        refine g_iload_n (i := 2) (q := 10) dX6_number_9 rfl rfl rfl ?_
        refine g_swIn (q := 0) (t := 78) dX6_number_10 (by decide) (by decide) rfl (by decide) ?_
        refine g_aload_n (i := 0) (q := 79) dX6_number_78 rfl rfl rfl ?_
        refine g_getr (q := 82) dX6_number_79 rfl fk_X6_23 rfl rfl ?_
        refine g_iload_n (i := 1) (q := 83) dX6_number_82 rfl rfl rfl ?_
        refine g_aload_n (i := 0) (q := 84) dX6_number_83 rfl rfl rfl ?_
        refine g_getv (q := 87) (z := S.1 0) dX6_number_84 rfl fk_X6_55 rfl rfl rfl ?_
        by_cases c87 : S.1 0 ≤ (S).2.1 17 n
        · refine g_fnV (as := [zI n, zI (S.1 0)]) (q := 90) (u' := 2) dX6_number_87 rfl ck_X6_256 rfl rfl rfl (Nat.le_of_ble_eq_true rfl) (by decide) rfl (by decide) (s_X1_mayBeCalledBack_t (by omega) c87) rfl ?_
          refine g_fnS (as := [zI 1]) (q := 93) (u' := 2) dX6_number_90 rfl ck_X6_249 rfl rfl (Nat.le_of_ble_eq_true rfl) (by decide) rfl (by decide) (s_X6_asInt (by omega)) rfl ?_
          exact g_ret dX6_number_93 rfl (by decide) (by unfold o_number z_b; (repeat (first | rw [if_pos (by omega)] | rw [if_neg (by omega)])); exact ⟨rfl, rfl⟩)
        · refine g_fnV (as := [zI n, zI (S.1 0)]) (q := 90) (u' := 2) dX6_number_87 rfl ck_X6_256 rfl rfl rfl (Nat.le_of_ble_eq_true rfl) (by decide) rfl (by decide) (s_X1_mayBeCalledBack_f (by omega) c87) rfl ?_
          refine g_fnS (as := [zI 0]) (q := 93) (u' := 2) dX6_number_90 rfl ck_X6_249 rfl rfl (Nat.le_of_ble_eq_true rfl) (by decide) rfl (by decide) (s_X6_asInt (by omega)) rfl ?_
          exact g_ret dX6_number_93 rfl (by decide) (by unfold o_number z_b; (repeat (first | rw [if_pos (by omega)] | rw [if_neg (by omega)])); exact ⟨rfl, rfl⟩)
      · exact g_exS (as := [zI n]) dX6_number_1 ck_X6_99 rfl rfl (Nat.le_of_ble_eq_true rfl) (by decide) (by decide) rfl (s_X6_requireNumber_ex c1) (by unfold o_number z_b; (repeat (first | rw [if_pos (by omega)] | rw [if_neg (by omega)])); exact ⟨rfl, rfl⟩)
    · skip
      refine g_iload_n (i := 1) (q := 1) dX6_number_0 rfl rfl rfl ?_
      by_cases c1 : 0 ≤ n ∧ n < 200
      · skip
        refine g_fnS (as := [zI n]) (q := 4) (u' := 1) dX6_number_1 rfl ck_X6_99 rfl rfl (Nat.le_of_ble_eq_true rfl) (by decide) rfl (by decide) (s_X6_requireNumber_ok c1) rfl ?_
        refine g_iload_n (i := 2) (q := 5) dX6_number_4 rfl rfl rfl ?_
        refine g_iconst (q := 6) dX6_number_5 rfl ⟨by decide, by decide⟩ ?_
        refine g_fnS (as := [zI 4, zI 5]) (q := 9) (u' := 2) dX6_number_6 rfl ck_X6_246 rfl rfl (Nat.le_of_ble_eq_true rfl) (by decide) rfl (by decide) (s_X6_requireWhat_ok (by omega)) rfl ?_
        refine g_iload_n (i := 2) (q := 10) dX6_number_9 rfl rfl rfl ?_
        refine g_swOut (q := 0) (t := 94) dX6_number_10 (by decide) (by decide) ?_
        refine g_aload_n (i := 0) (q := 95) dX6_number_94 rfl rfl rfl ?_
        refine g_getr (q := 98) dX6_number_95 rfl fk_X6_30 rfl rfl ?_
        refine g_iload_n (i := 1) (q := 99) dX6_number_98 rfl rfl rfl ?_
        refine g_fnV (as := [zI n]) (q := 102) (u' := 2) dX6_number_99 rfl ck_X6_259 rfl rfl rfl (Nat.le_of_ble_eq_true rfl) (by decide) rfl (by decide) (s_X4_waitingFor hc h60) rfl ?_
        exact g_ret dX6_number_102 rfl (by decide) (by unfold o_number; (repeat (first | rw [if_pos (by omega)] | rw [if_neg (by omega)])); exact ⟨rfl, rfl⟩)
      · exact g_exS (as := [zI n]) dX6_number_1 ck_X6_99 rfl rfl (Nat.le_of_ble_eq_true rfl) (by decide) (by decide) rfl (s_X6_requireNumber_ex c1) (by unfold o_number; (repeat (first | rw [if_pos (by omega)] | rw [if_neg (by omega)])); exact ⟨rfl, rfl⟩)
  · skip
    refine g_iload_n (i := 1) (q := 1) dX6_number_0 rfl rfl rfl ?_
    by_cases c1 : 0 ≤ n ∧ n < 200
    · skip
      refine g_fnS (as := [zI n]) (q := 4) (u' := 1) dX6_number_1 rfl ck_X6_99 rfl rfl (Nat.le_of_ble_eq_true rfl) (by decide) rfl (by decide) (s_X6_requireNumber_ok c1) rfl ?_
      refine g_iload_n (i := 2) (q := 5) dX6_number_4 rfl rfl rfl ?_
      refine g_iconst (q := 6) dX6_number_5 rfl ⟨by decide, by decide⟩ ?_
      exact g_exS (as := [zI w, zI 5]) dX6_number_6 ck_X6_246 rfl rfl (Nat.le_of_ble_eq_true rfl) (by decide) (by decide) rfl (s_X6_requireWhat_ex hw) (by unfold o_number; (repeat (first | rw [if_pos (by omega)] | rw [if_neg (by omega)])); exact ⟨rfl, rfl⟩)
    · exact g_exS (as := [zI n]) dX6_number_1 ck_X6_99 rfl rfl (Nat.le_of_ble_eq_true rfl) (by decide) (by decide) rfl (s_X6_requireNumber_ex c1) (by unfold o_number; (repeat (first | rw [if_pos (by omega)] | rw [if_neg (by omega)])); exact ⟨rfl, rfl⟩)
def o_of (S : zS) (o w : Int) : zO := if ¬ (0 ≤ o ∧ o < S.1 1) then (.error xI, S) else if ¬ (0 ≤ w ∧ w < 6) then (.error xA, S) else
  (zI? (if w = 0 then S.2.1 19 o else if w = 1 then S.2.1 20 o else if w = 2 then S.2.1 21 o else if w = 3 then S.2.1 22 o else if w = 4 then S.2.1 23 o else S.2.1 24 o), S)
theorem c_of {S : zS} {o w : Int} (h60 : S.1 1 ≤ 60) : z_Out mX6_of [zR 0, zI o, zI w] S (o_of S o w) := by
  refine z_enter (by decide +kernel) rfl (z_n1 trivial (z_n1 trivial (z_n1 trivial z_n0))) (Nat.le_of_ble_eq_true rfl) ?_
  by_cases hw : 0 ≤ w ∧ w < 6
  · have hw5 : w = 0 ∨ w = 1 ∨ w = 2 ∨ w = 3 ∨ w = 4 ∨ w = 5 := by omega
    rcases hw5 with rfl | rfl | rfl | rfl | rfl | rfl
    · skip
      refine g_aload_n (i := 0) (q := 1) dX6_of_0 rfl rfl rfl ?_
      refine g_iload_n (i := 1) (q := 2) dX6_of_1 rfl rfl rfl ?_
      by_cases c2 : 0 ≤ o ∧ o < (S).1 1
      · skip
        refine g_fnV (as := [zI o]) (q := 5) (u' := 1) dX6_of_2 rfl ck_X6_184 rfl rfl rfl (Nat.le_of_ble_eq_true rfl) (by decide) rfl (by decide) (s_X6_requireOrder_ok c2) rfl ?_
        refine g_iload_n (i := 2) (q := 6) dX6_of_5 rfl rfl rfl ?_
        refine g_bipush (q := 8) dX6_of_6 rfl ⟨by decide, by decide⟩ (by decide) ?_
        refine g_fnS (as := [zI 0, zI 6]) (q := 11) (u' := 2) dX6_of_8 rfl ck_X6_246 rfl rfl (Nat.le_of_ble_eq_true rfl) (by decide) rfl (by decide) (s_X6_requireWhat_ok (by omega)) rfl ?_
        refine g_iload_n (i := 2) (q := 12) dX6_of_11 rfl rfl rfl ?_
        refine g_swIn (q := 0) (t := 48) dX6_of_12 (by decide) (by decide) rfl (by decide) ?_
        refine g_aload_n (i := 0) (q := 49) dX6_of_48 rfl rfl rfl ?_
        refine g_getr (q := 52) dX6_of_49 rfl fk_X6_30 rfl rfl ?_
        refine g_getr (q := 55) dX6_of_52 rfl fk_X6_187 rfl rfl ?_
        refine g_iload_n (i := 1) (q := 56) dX6_of_55 rfl rfl rfl ?_
        refine g_ildv (q := 57) (z := S.2.1 19 o) dX6_of_56 rfl ⟨by decide, rfl, rfl⟩ (by omega) (by omega) rfl ?_
        exact g_ret dX6_of_57 rfl (by decide) (by unfold o_of; (repeat (first | rw [if_pos (by omega)] | rw [if_neg (by omega)])); exact ⟨rfl, rfl⟩)
      · exact g_exV (as := [zI o]) dX6_of_2 ck_X6_184 rfl rfl rfl (Nat.le_of_ble_eq_true rfl) (by decide) (by decide) rfl (s_X6_requireOrder_ex c2) (by unfold o_of; (repeat (first | rw [if_pos (by omega)] | rw [if_neg (by omega)])); exact ⟨rfl, rfl⟩)
    · skip
      refine g_aload_n (i := 0) (q := 1) dX6_of_0 rfl rfl rfl ?_
      refine g_iload_n (i := 1) (q := 2) dX6_of_1 rfl rfl rfl ?_
      by_cases c2 : 0 ≤ o ∧ o < (S).1 1
      · skip
        refine g_fnV (as := [zI o]) (q := 5) (u' := 1) dX6_of_2 rfl ck_X6_184 rfl rfl rfl (Nat.le_of_ble_eq_true rfl) (by decide) rfl (by decide) (s_X6_requireOrder_ok c2) rfl ?_
        refine g_iload_n (i := 2) (q := 6) dX6_of_5 rfl rfl rfl ?_
        refine g_bipush (q := 8) dX6_of_6 rfl ⟨by decide, by decide⟩ (by decide) ?_
        refine g_fnS (as := [zI 1, zI 6]) (q := 11) (u' := 2) dX6_of_8 rfl ck_X6_246 rfl rfl (Nat.le_of_ble_eq_true rfl) (by decide) rfl (by decide) (s_X6_requireWhat_ok (by omega)) rfl ?_
        refine g_iload_n (i := 2) (q := 12) dX6_of_11 rfl rfl rfl ?_
        refine g_swIn (q := 0) (t := 58) dX6_of_12 (by decide) (by decide) rfl (by decide) ?_
        refine g_aload_n (i := 0) (q := 59) dX6_of_58 rfl rfl rfl ?_
        refine g_getr (q := 62) dX6_of_59 rfl fk_X6_30 rfl rfl ?_
        refine g_getr (q := 65) dX6_of_62 rfl fk_X6_262 rfl rfl ?_
        refine g_iload_n (i := 1) (q := 66) dX6_of_65 rfl rfl rfl ?_
        refine g_ildv (q := 67) (z := S.2.1 20 o) dX6_of_66 rfl ⟨by decide, rfl, rfl⟩ (by omega) (by omega) rfl ?_
        exact g_ret dX6_of_67 rfl (by decide) (by unfold o_of; (repeat (first | rw [if_pos (by omega)] | rw [if_neg (by omega)])); exact ⟨rfl, rfl⟩)
      · exact g_exV (as := [zI o]) dX6_of_2 ck_X6_184 rfl rfl rfl (Nat.le_of_ble_eq_true rfl) (by decide) (by decide) rfl (s_X6_requireOrder_ex c2) (by unfold o_of; (repeat (first | rw [if_pos (by omega)] | rw [if_neg (by omega)])); exact ⟨rfl, rfl⟩)
    · skip
      refine g_aload_n (i := 0) (q := 1) dX6_of_0 rfl rfl rfl ?_
      refine g_iload_n (i := 1) (q := 2) dX6_of_1 rfl rfl rfl ?_
      by_cases c2 : 0 ≤ o ∧ o < (S).1 1
      · skip
        refine g_fnV (as := [zI o]) (q := 5) (u' := 1) dX6_of_2 rfl ck_X6_184 rfl rfl rfl (Nat.le_of_ble_eq_true rfl) (by decide) rfl (by decide) (s_X6_requireOrder_ok c2) rfl ?_
        refine g_iload_n (i := 2) (q := 6) dX6_of_5 rfl rfl rfl ?_
        refine g_bipush (q := 8) dX6_of_6 rfl ⟨by decide, by decide⟩ (by decide) ?_
        refine g_fnS (as := [zI 2, zI 6]) (q := 11) (u' := 2) dX6_of_8 rfl ck_X6_246 rfl rfl (Nat.le_of_ble_eq_true rfl) (by decide) rfl (by decide) (s_X6_requireWhat_ok (by omega)) rfl ?_
        refine g_iload_n (i := 2) (q := 12) dX6_of_11 rfl rfl rfl ?_
        refine g_swIn (q := 0) (t := 68) dX6_of_12 (by decide) (by decide) rfl (by decide) ?_
        refine g_aload_n (i := 0) (q := 69) dX6_of_68 rfl rfl rfl ?_
        refine g_getr (q := 72) dX6_of_69 rfl fk_X6_30 rfl rfl ?_
        refine g_getr (q := 75) dX6_of_72 rfl fk_X6_207 rfl rfl ?_
        refine g_iload_n (i := 1) (q := 76) dX6_of_75 rfl rfl rfl ?_
        refine g_ildv (q := 77) (z := S.2.1 21 o) dX6_of_76 rfl ⟨by decide, rfl, rfl⟩ (by omega) (by omega) rfl ?_
        exact g_ret dX6_of_77 rfl (by decide) (by unfold o_of; (repeat (first | rw [if_pos (by omega)] | rw [if_neg (by omega)])); exact ⟨rfl, rfl⟩)
      · exact g_exV (as := [zI o]) dX6_of_2 ck_X6_184 rfl rfl rfl (Nat.le_of_ble_eq_true rfl) (by decide) (by decide) rfl (s_X6_requireOrder_ex c2) (by unfold o_of; (repeat (first | rw [if_pos (by omega)] | rw [if_neg (by omega)])); exact ⟨rfl, rfl⟩)
    · skip
      refine g_aload_n (i := 0) (q := 1) dX6_of_0 rfl rfl rfl ?_
      refine g_iload_n (i := 1) (q := 2) dX6_of_1 rfl rfl rfl ?_
      by_cases c2 : 0 ≤ o ∧ o < (S).1 1
      · skip
        refine g_fnV (as := [zI o]) (q := 5) (u' := 1) dX6_of_2 rfl ck_X6_184 rfl rfl rfl (Nat.le_of_ble_eq_true rfl) (by decide) rfl (by decide) (s_X6_requireOrder_ok c2) rfl ?_
        refine g_iload_n (i := 2) (q := 6) dX6_of_5 rfl rfl rfl ?_
        refine g_bipush (q := 8) dX6_of_6 rfl ⟨by decide, by decide⟩ (by decide) ?_
        refine g_fnS (as := [zI 3, zI 6]) (q := 11) (u' := 2) dX6_of_8 rfl ck_X6_246 rfl rfl (Nat.le_of_ble_eq_true rfl) (by decide) rfl (by decide) (s_X6_requireWhat_ok (by omega)) rfl ?_
        refine g_iload_n (i := 2) (q := 12) dX6_of_11 rfl rfl rfl ?_
        refine g_swIn (q := 0) (t := 78) dX6_of_12 (by decide) (by decide) rfl (by decide) ?_
        refine g_aload_n (i := 0) (q := 79) dX6_of_78 rfl rfl rfl ?_
        refine g_getr (q := 82) dX6_of_79 rfl fk_X6_30 rfl rfl ?_
        refine g_getr (q := 85) dX6_of_82 rfl fk_X6_213 rfl rfl ?_
        refine g_iload_n (i := 1) (q := 86) dX6_of_85 rfl rfl rfl ?_
        refine g_ildv (q := 87) (z := S.2.1 22 o) dX6_of_86 rfl ⟨by decide, rfl, rfl⟩ (by omega) (by omega) rfl ?_
        exact g_ret dX6_of_87 rfl (by decide) (by unfold o_of; (repeat (first | rw [if_pos (by omega)] | rw [if_neg (by omega)])); exact ⟨rfl, rfl⟩)
      · exact g_exV (as := [zI o]) dX6_of_2 ck_X6_184 rfl rfl rfl (Nat.le_of_ble_eq_true rfl) (by decide) (by decide) rfl (s_X6_requireOrder_ex c2) (by unfold o_of; (repeat (first | rw [if_pos (by omega)] | rw [if_neg (by omega)])); exact ⟨rfl, rfl⟩)
    · skip
      refine g_aload_n (i := 0) (q := 1) dX6_of_0 rfl rfl rfl ?_
      refine g_iload_n (i := 1) (q := 2) dX6_of_1 rfl rfl rfl ?_
      by_cases c2 : 0 ≤ o ∧ o < (S).1 1
      · skip
        refine g_fnV (as := [zI o]) (q := 5) (u' := 1) dX6_of_2 rfl ck_X6_184 rfl rfl rfl (Nat.le_of_ble_eq_true rfl) (by decide) rfl (by decide) (s_X6_requireOrder_ok c2) rfl ?_
        refine g_iload_n (i := 2) (q := 6) dX6_of_5 rfl rfl rfl ?_
        refine g_bipush (q := 8) dX6_of_6 rfl ⟨by decide, by decide⟩ (by decide) ?_
        refine g_fnS (as := [zI 4, zI 6]) (q := 11) (u' := 2) dX6_of_8 rfl ck_X6_246 rfl rfl (Nat.le_of_ble_eq_true rfl) (by decide) rfl (by decide) (s_X6_requireWhat_ok (by omega)) rfl ?_
        refine g_iload_n (i := 2) (q := 12) dX6_of_11 rfl rfl rfl ?_
        refine g_swIn (q := 0) (t := 88) dX6_of_12 (by decide) (by decide) rfl (by decide) ?_
        refine g_aload_n (i := 0) (q := 89) dX6_of_88 rfl rfl rfl ?_
        refine g_getr (q := 92) dX6_of_89 rfl fk_X6_30 rfl rfl ?_
        refine g_getr (q := 95) dX6_of_92 rfl fk_X6_204 rfl rfl ?_
        refine g_iload_n (i := 1) (q := 96) dX6_of_95 rfl rfl rfl ?_
        refine g_ildv (q := 97) (z := S.2.1 23 o) dX6_of_96 rfl ⟨by decide, rfl, rfl⟩ (by omega) (by omega) rfl ?_
        exact g_ret dX6_of_97 rfl (by decide) (by unfold o_of; (repeat (first | rw [if_pos (by omega)] | rw [if_neg (by omega)])); exact ⟨rfl, rfl⟩)
      · exact g_exV (as := [zI o]) dX6_of_2 ck_X6_184 rfl rfl rfl (Nat.le_of_ble_eq_true rfl) (by decide) (by decide) rfl (s_X6_requireOrder_ex c2) (by unfold o_of; (repeat (first | rw [if_pos (by omega)] | rw [if_neg (by omega)])); exact ⟨rfl, rfl⟩)
    · skip
      refine g_aload_n (i := 0) (q := 1) dX6_of_0 rfl rfl rfl ?_
      refine g_iload_n (i := 1) (q := 2) dX6_of_1 rfl rfl rfl ?_
      by_cases c2 : 0 ≤ o ∧ o < (S).1 1
      · skip
        refine g_fnV (as := [zI o]) (q := 5) (u' := 1) dX6_of_2 rfl ck_X6_184 rfl rfl rfl (Nat.le_of_ble_eq_true rfl) (by decide) rfl (by decide) (s_X6_requireOrder_ok c2) rfl ?_
        refine g_iload_n (i := 2) (q := 6) dX6_of_5 rfl rfl rfl ?_
        refine g_bipush (q := 8) dX6_of_6 rfl ⟨by decide, by decide⟩ (by decide) ?_
        refine g_fnS (as := [zI 5, zI 6]) (q := 11) (u' := 2) dX6_of_8 rfl ck_X6_246 rfl rfl (Nat.le_of_ble_eq_true rfl) (by decide) rfl (by decide) (s_X6_requireWhat_ok (by omega)) rfl ?_
        refine g_iload_n (i := 2) (q := 12) dX6_of_11 rfl rfl rfl ?_
        refine g_swOut (q := 0) (t := 98) dX6_of_12 (by decide) (by decide) ?_
        refine g_aload_n (i := 0) (q := 99) dX6_of_98 rfl rfl rfl ?_
        refine g_getr (q := 102) dX6_of_99 rfl fk_X6_30 rfl rfl ?_
        refine g_getr (q := 105) dX6_of_102 rfl fk_X6_190 rfl rfl ?_
        refine g_iload_n (i := 1) (q := 106) dX6_of_105 rfl rfl rfl ?_
        refine g_ildv (q := 107) (z := S.2.1 24 o) dX6_of_106 rfl ⟨by decide, rfl, rfl⟩ (by omega) (by omega) rfl ?_
        exact g_ret dX6_of_107 rfl (by decide) (by unfold o_of; (repeat (first | rw [if_pos (by omega)] | rw [if_neg (by omega)])); exact ⟨rfl, rfl⟩)
      · exact g_exV (as := [zI o]) dX6_of_2 ck_X6_184 rfl rfl rfl (Nat.le_of_ble_eq_true rfl) (by decide) (by decide) rfl (s_X6_requireOrder_ex c2) (by unfold o_of; (repeat (first | rw [if_pos (by omega)] | rw [if_neg (by omega)])); exact ⟨rfl, rfl⟩)
  · skip
    refine g_aload_n (i := 0) (q := 1) dX6_of_0 rfl rfl rfl ?_
    refine g_iload_n (i := 1) (q := 2) dX6_of_1 rfl rfl rfl ?_
    by_cases c2 : 0 ≤ o ∧ o < (S).1 1
    · skip
      refine g_fnV (as := [zI o]) (q := 5) (u' := 1) dX6_of_2 rfl ck_X6_184 rfl rfl rfl (Nat.le_of_ble_eq_true rfl) (by decide) rfl (by decide) (s_X6_requireOrder_ok c2) rfl ?_
      refine g_iload_n (i := 2) (q := 6) dX6_of_5 rfl rfl rfl ?_
      refine g_bipush (q := 8) dX6_of_6 rfl ⟨by decide, by decide⟩ (by decide) ?_
      exact g_exS (as := [zI w, zI 6]) dX6_of_8 ck_X6_246 rfl rfl (Nat.le_of_ble_eq_true rfl) (by decide) (by decide) rfl (s_X6_requireWhat_ex hw) (by unfold o_of; (repeat (first | rw [if_pos (by omega)] | rw [if_neg (by omega)])); exact ⟨rfl, rfl⟩)
    · exact g_exV (as := [zI o]) dX6_of_2 ck_X6_184 rfl rfl rfl (Nat.le_of_ble_eq_true rfl) (by decide) (by decide) rfl (s_X6_requireOrder_ex c2) (by unfold o_of; (repeat (first | rw [if_pos (by omega)] | rw [if_neg (by omega)])); exact ⟨rfl, rfl⟩)
def o_room (S : zS) (c : Nat) (m : Int) : zO := if ¬ (0 ≤ m ∧ m ≤ 10999) then (.error xA, S) else if ¬ m % 100 < 20 ∨ m ≤ S.1 0 then (zI? 0, S) else (zI? (3 - x_cwa S m c), S)
theorem c_room {S : zS} {m : Int} {c : Nat} (hc : S.1 1 = c) (h60 : c ≤ 60) : z_Out mX6_room [zR 0, zI m] S (o_room S c m) := by
  have hle := x_cwa_le S m c
  refine z_enter (by decide +kernel) rfl (z_n1 trivial (z_n1 trivial z_n0)) (Nat.le_of_ble_eq_true rfl) ?_
  refine g_iload_n (i := 1) (q := 1) dX6_room_0 rfl rfl rfl ?_
  refine g_if_lt (t := 11) (q := 4) dX6_room_1 (by decide) rfl (fun h1 => ?_) (fun h1 => ?_)
  · exact g_throw (text := "the minute is out of range") rfl rfl z_tk_A (by decide +kernel) dX6_room_11 dX6_room_14 dX6_room_15 dX6_room_17 dX6_room_20 (by decide) (by decide) (by decide) (by unfold o_room; (repeat (first | rw [if_pos (by omega)] | rw [if_neg (by omega)])); exact ⟨rfl, rfl⟩)
  · refine g_iload_n (i := 1) (q := 5) dX6_room_4 rfl rfl rfl ?_
    refine g_sipush (q := 8) dX6_room_5 rfl ⟨by decide, by decide⟩ (by decide) ?_
    refine g_icmp_le (t := 21) (q := 11) dX6_room_8 (by decide) rfl (fun h8 => ?_) (fun h8 => ?_)
    · refine g_iload_n (i := 1) (q := 22) dX6_room_21 rfl rfl rfl ?_
      by_cases c22 : m % 100 < 20
      · refine g_fnS (as := [zI m]) (q := 25) (u' := 0) dX6_room_22 rfl ck_X6_265 rfl rfl (Nat.le_of_ble_eq_true rfl) (by decide) rfl (by decide) (s_X6_isInWindow_t (by omega) c22) rfl ?_
        refine g_if_eq (t := 36) (q := 28) dX6_room_25 (by decide) rfl (fun h25 => (False.elim (by omega))) (fun h25 => ?_)
        refine g_iload_n (i := 1) (q := 29) dX6_room_28 rfl rfl rfl ?_
        refine g_aload_n (i := 0) (q := 30) dX6_room_29 rfl rfl rfl ?_
        refine g_getv (q := 33) (z := S.1 0) dX6_room_30 rfl fk_X6_55 rfl rfl rfl ?_
        refine g_icmp_gt (t := 38) (q := 36) dX6_room_33 (by decide) rfl (fun h33 => ?_) (fun h33 => ?_)
        · refine g_iconst (q := 39) dX6_room_38 rfl ⟨by decide, by decide⟩ ?_
          refine g_aload_n (i := 0) (q := 40) dX6_room_39 rfl rfl rfl ?_
          refine g_getr (q := 43) dX6_room_40 rfl fk_X6_30 rfl rfl ?_
          refine g_iload_n (i := 1) (q := 44) dX6_room_43 rfl rfl rfl ?_
          refine g_fnV (as := [zI m]) (q := 47) (u' := 0) dX6_room_44 rfl ck_X6_268 rfl rfl rfl (Nat.le_of_ble_eq_true rfl) (by decide) rfl (by decide) (s_X4_countWaitingAt hc h60) rfl ?_
          refine g_isub (q := 48) dX6_room_47 rfl (by constructor <;> omega) ?_
          exact g_ret dX6_room_48 rfl (by decide) (by unfold o_room; (repeat (first | rw [if_pos (by omega)] | rw [if_neg (by omega)])); exact ⟨rfl, rfl⟩)
        · refine g_iconst (q := 37) dX6_room_36 rfl ⟨by decide, by decide⟩ ?_
          exact g_ret dX6_room_37 rfl (by decide) (by unfold o_room; (repeat (first | rw [if_pos (by omega)] | rw [if_neg (by omega)])); exact ⟨rfl, rfl⟩)
      · refine g_fnS (as := [zI m]) (q := 25) (u' := 0) dX6_room_22 rfl ck_X6_265 rfl rfl (Nat.le_of_ble_eq_true rfl) (by decide) rfl (by decide) (s_X6_isInWindow_f (by omega) c22) rfl ?_
        refine g_if_eq (t := 36) (q := 28) dX6_room_25 (by decide) rfl (fun h25 => ?_) (fun h25 => (False.elim (by omega)))
        refine g_iconst (q := 37) dX6_room_36 rfl ⟨by decide, by decide⟩ ?_
        exact g_ret dX6_room_37 rfl (by decide) (by unfold o_room; (repeat (first | rw [if_pos (by omega)] | rw [if_neg (by omega)])); exact ⟨rfl, rfl⟩)
    · exact g_throw (text := "the minute is out of range") rfl rfl z_tk_A (by decide +kernel) dX6_room_11 dX6_room_14 dX6_room_15 dX6_room_17 dX6_room_20 (by decide) (by decide) (by decide) (by unfold o_room; (repeat (first | rw [if_pos (by omega)] | rw [if_neg (by omega)])); exact ⟨rfl, rfl⟩)
def o_firm (S : zS) (f w : Int) : zO := if ¬ (0 ≤ f ∧ f < 6) then (.error xI, S) else if ¬ (0 ≤ w ∧ w < 7) then (.error xA, S) else
  (zI? (if w = 0 then S.2.1 9 f else if w = 1 then x_cb S f 20 else if w = 2 then x_sb S f 200 else if w = 3 then S.2.1 10 f else if w = 4 then S.2.1 11 f else if w = 5 then S.2.1 12 f else S.1 2 - S.2.1 28 f), S)
theorem c_firm {S : zS} {f w : Int} (h2 : 0 ≤ S.1 2 ∧ S.1 2 ≤ 600) (hk : ∀ f : Int, 0 ≤ f → f < 6 → (0 ≤ S.2.1 28 f ∧ S.2.1 28 f ≤ S.1 2) ∧ (S.2.1 9 f = 0 ∨ S.2.1 9 f = 1) ∧ (S.2.1 10 f = 0 ∨ S.2.1 10 f = 1)) : z_Out mX6_firm [zR 0, zI f, zI w] S (o_firm S f w) := by
  refine z_enter (by decide +kernel) rfl (z_n1 trivial (z_n1 trivial (z_n1 trivial z_n0))) (Nat.le_of_ble_eq_true rfl) ?_
  by_cases hw : 0 ≤ w ∧ w < 7
  · have hw5 : w = 0 ∨ w = 1 ∨ w = 2 ∨ w = 3 ∨ w = 4 ∨ w = 5 ∨ w = 6 := by omega
    rcases hw5 with rfl | rfl | rfl | rfl | rfl | rfl | rfl
    · skip
      refine g_iload_n (i := 1) (q := 1) dX6_firm_0 rfl rfl rfl ?_
      by_cases c1 : 0 ≤ f ∧ f < 6
      · skip
        refine g_fnS (as := [zI f]) (q := 4) (u' := 1) dX6_firm_1 rfl ck_X6_150 rfl rfl (Nat.le_of_ble_eq_true rfl) (by decide) rfl (by decide) (s_X6_requireFirm_ok c1) rfl ?_
        have hkf := hk f (by omega) (by omega)
        refine g_iload_n (i := 2) (q := 5) dX6_firm_4 rfl rfl rfl ?_
        refine g_bipush (q := 7) dX6_firm_5 rfl ⟨by decide, by decide⟩ (by decide) ?_
        refine g_fnS (as := [zI 0, zI 7]) (q := 10) (u' := 2) dX6_firm_7 rfl ck_X6_246 rfl rfl (Nat.le_of_ble_eq_true rfl) (by decide) rfl (by decide) (s_X6_requireWhat_ok (by omega)) rfl ?_
        refine g_iload_n (i := 2) (q := 11) dX6_firm_10 rfl rfl rfl ?_
        refine g_swIn (q := 0) (t := 48) dX6_firm_11 (by decide) (by decide) rfl (by decide) ?_
        refine g_aload_n (i := 0) (q := 49) dX6_firm_48 rfl rfl rfl ?_
        refine g_getr (q := 52) dX6_firm_49 rfl fk_X6_16 rfl rfl ?_
        refine g_getr (q := 55) dX6_firm_52 rfl fk_X6_79 rfl rfl ?_
        refine g_iload_n (i := 1) (q := 56) dX6_firm_55 rfl rfl rfl ?_
        refine g_zldv (q := 57) (z := S.2.1 9 f) dX6_firm_56 rfl ⟨by decide, rfl, rfl⟩ (by omega) (by omega) rfl ?_
        refine g_fnS (as := [zI (S.2.1 9 f)]) (q := 60) (u' := 2) dX6_firm_57 rfl ck_X6_249 rfl rfl (Nat.le_of_ble_eq_true rfl) (by decide) rfl (by decide) (s_X6_asInt (by omega)) rfl ?_
        exact g_ret dX6_firm_60 rfl (by decide) (by unfold o_firm; (repeat (first | rw [if_pos (by omega)] | rw [if_neg (by omega)])); exact ⟨rfl, rfl⟩)
      · exact g_exS (as := [zI f]) dX6_firm_1 ck_X6_150 rfl rfl (Nat.le_of_ble_eq_true rfl) (by decide) (by decide) rfl (s_X6_requireFirm_ex c1) (by unfold o_firm; (repeat (first | rw [if_pos (by omega)] | rw [if_neg (by omega)])); exact ⟨rfl, rfl⟩)
    · skip
      refine g_iload_n (i := 1) (q := 1) dX6_firm_0 rfl rfl rfl ?_
      by_cases c1 : 0 ≤ f ∧ f < 6
      · skip
        refine g_fnS (as := [zI f]) (q := 4) (u' := 1) dX6_firm_1 rfl ck_X6_150 rfl rfl (Nat.le_of_ble_eq_true rfl) (by decide) rfl (by decide) (s_X6_requireFirm_ok c1) rfl ?_
        refine g_iload_n (i := 2) (q := 5) dX6_firm_4 rfl rfl rfl ?_
        refine g_bipush (q := 7) dX6_firm_5 rfl ⟨by decide, by decide⟩ (by decide) ?_
        refine g_fnS (as := [zI 1, zI 7]) (q := 10) (u' := 2) dX6_firm_7 rfl ck_X6_246 rfl rfl (Nat.le_of_ble_eq_true rfl) (by decide) rfl (by decide) (s_X6_requireWhat_ok (by omega)) rfl ?_
        refine g_iload_n (i := 2) (q := 11) dX6_firm_10 rfl rfl rfl ?_
        refine g_swIn (q := 0) (t := 61) dX6_firm_11 (by decide) (by decide) rfl (by decide) ?_
        refine g_aload_n (i := 0) (q := 62) dX6_firm_61 rfl rfl rfl ?_
        refine g_iload_n (i := 1) (q := 63) dX6_firm_62 rfl rfl rfl ?_
        refine g_fnV (as := [zI f]) (q := 66) (u' := 2) dX6_firm_63 rfl ck_X6_88 rfl rfl rfl (Nat.le_of_ble_eq_true rfl) (by decide) rfl (by decide) (s_X6_countBlocksOf) rfl ?_
        exact g_ret dX6_firm_66 rfl (by decide) (by unfold o_firm; (repeat (first | rw [if_pos (by omega)] | rw [if_neg (by omega)])); exact ⟨rfl, rfl⟩)
      · exact g_exS (as := [zI f]) dX6_firm_1 ck_X6_150 rfl rfl (Nat.le_of_ble_eq_true rfl) (by decide) (by decide) rfl (s_X6_requireFirm_ex c1) (by unfold o_firm; (repeat (first | rw [if_pos (by omega)] | rw [if_neg (by omega)])); exact ⟨rfl, rfl⟩)
    · skip
      refine g_iload_n (i := 1) (q := 1) dX6_firm_0 rfl rfl rfl ?_
      by_cases c1 : 0 ≤ f ∧ f < 6
      · skip
        refine g_fnS (as := [zI f]) (q := 4) (u' := 1) dX6_firm_1 rfl ck_X6_150 rfl rfl (Nat.le_of_ble_eq_true rfl) (by decide) rfl (by decide) (s_X6_requireFirm_ok c1) rfl ?_
        refine g_iload_n (i := 2) (q := 5) dX6_firm_4 rfl rfl rfl ?_
        refine g_bipush (q := 7) dX6_firm_5 rfl ⟨by decide, by decide⟩ (by decide) ?_
        refine g_fnS (as := [zI 2, zI 7]) (q := 10) (u' := 2) dX6_firm_7 rfl ck_X6_246 rfl rfl (Nat.le_of_ble_eq_true rfl) (by decide) rfl (by decide) (s_X6_requireWhat_ok (by omega)) rfl ?_
        refine g_iload_n (i := 2) (q := 11) dX6_firm_10 rfl rfl rfl ?_
        refine g_swIn (q := 0) (t := 67) dX6_firm_11 (by decide) (by decide) rfl (by decide) ?_
        refine g_aload_n (i := 0) (q := 68) dX6_firm_67 rfl rfl rfl ?_
        refine g_getr (q := 71) dX6_firm_68 rfl fk_X6_23 rfl rfl ?_
        refine g_iload_n (i := 1) (q := 72) dX6_firm_71 rfl rfl rfl ?_
        refine g_fnV (as := [zI f]) (q := 75) (u' := 2) dX6_firm_72 rfl ck_X6_271 rfl rfl rfl (Nat.le_of_ble_eq_true rfl) (by decide) rfl (by decide) (s_X1_countServedBy) rfl ?_
        exact g_ret dX6_firm_75 rfl (by decide) (by unfold o_firm; (repeat (first | rw [if_pos (by omega)] | rw [if_neg (by omega)])); exact ⟨rfl, rfl⟩)
      · exact g_exS (as := [zI f]) dX6_firm_1 ck_X6_150 rfl rfl (Nat.le_of_ble_eq_true rfl) (by decide) (by decide) rfl (s_X6_requireFirm_ex c1) (by unfold o_firm; (repeat (first | rw [if_pos (by omega)] | rw [if_neg (by omega)])); exact ⟨rfl, rfl⟩)
    · skip
      refine g_iload_n (i := 1) (q := 1) dX6_firm_0 rfl rfl rfl ?_
      by_cases c1 : 0 ≤ f ∧ f < 6
      · skip
        refine g_fnS (as := [zI f]) (q := 4) (u' := 1) dX6_firm_1 rfl ck_X6_150 rfl rfl (Nat.le_of_ble_eq_true rfl) (by decide) rfl (by decide) (s_X6_requireFirm_ok c1) rfl ?_
        have hkf := hk f (by omega) (by omega)
        refine g_iload_n (i := 2) (q := 5) dX6_firm_4 rfl rfl rfl ?_
        refine g_bipush (q := 7) dX6_firm_5 rfl ⟨by decide, by decide⟩ (by decide) ?_
        refine g_fnS (as := [zI 3, zI 7]) (q := 10) (u' := 2) dX6_firm_7 rfl ck_X6_246 rfl rfl (Nat.le_of_ble_eq_true rfl) (by decide) rfl (by decide) (s_X6_requireWhat_ok (by omega)) rfl ?_
        refine g_iload_n (i := 2) (q := 11) dX6_firm_10 rfl rfl rfl ?_
        refine g_swIn (q := 0) (t := 76) dX6_firm_11 (by decide) (by decide) rfl (by decide) ?_
        refine g_aload_n (i := 0) (q := 77) dX6_firm_76 rfl rfl rfl ?_
        refine g_getr (q := 80) dX6_firm_77 rfl fk_X6_16 rfl rfl ?_
        refine g_getr (q := 83) dX6_firm_80 rfl fk_X6_234 rfl rfl ?_
        refine g_iload_n (i := 1) (q := 84) dX6_firm_83 rfl rfl rfl ?_
        refine g_zldv (q := 85) (z := S.2.1 10 f) dX6_firm_84 rfl ⟨by decide, rfl, rfl⟩ (by omega) (by omega) rfl ?_
        refine g_fnS (as := [zI (S.2.1 10 f)]) (q := 88) (u' := 2) dX6_firm_85 rfl ck_X6_249 rfl rfl (Nat.le_of_ble_eq_true rfl) (by decide) rfl (by decide) (s_X6_asInt (by omega)) rfl ?_
        exact g_ret dX6_firm_88 rfl (by decide) (by unfold o_firm; (repeat (first | rw [if_pos (by omega)] | rw [if_neg (by omega)])); exact ⟨rfl, rfl⟩)
      · exact g_exS (as := [zI f]) dX6_firm_1 ck_X6_150 rfl rfl (Nat.le_of_ble_eq_true rfl) (by decide) (by decide) rfl (s_X6_requireFirm_ex c1) (by unfold o_firm; (repeat (first | rw [if_pos (by omega)] | rw [if_neg (by omega)])); exact ⟨rfl, rfl⟩)
    · skip
      refine g_iload_n (i := 1) (q := 1) dX6_firm_0 rfl rfl rfl ?_
      by_cases c1 : 0 ≤ f ∧ f < 6
      · skip
        refine g_fnS (as := [zI f]) (q := 4) (u' := 1) dX6_firm_1 rfl ck_X6_150 rfl rfl (Nat.le_of_ble_eq_true rfl) (by decide) rfl (by decide) (s_X6_requireFirm_ok c1) rfl ?_
        refine g_iload_n (i := 2) (q := 5) dX6_firm_4 rfl rfl rfl ?_
        refine g_bipush (q := 7) dX6_firm_5 rfl ⟨by decide, by decide⟩ (by decide) ?_
        refine g_fnS (as := [zI 4, zI 7]) (q := 10) (u' := 2) dX6_firm_7 rfl ck_X6_246 rfl rfl (Nat.le_of_ble_eq_true rfl) (by decide) rfl (by decide) (s_X6_requireWhat_ok (by omega)) rfl ?_
        refine g_iload_n (i := 2) (q := 11) dX6_firm_10 rfl rfl rfl ?_
        refine g_swIn (q := 0) (t := 89) dX6_firm_11 (by decide) (by decide) rfl (by decide) ?_
        refine g_aload_n (i := 0) (q := 90) dX6_firm_89 rfl rfl rfl ?_
        refine g_getr (q := 93) dX6_firm_90 rfl fk_X6_16 rfl rfl ?_
        refine g_getr (q := 96) dX6_firm_93 rfl fk_X6_231 rfl rfl ?_
        refine g_iload_n (i := 1) (q := 97) dX6_firm_96 rfl rfl rfl ?_
        refine g_ildv (q := 98) (z := S.2.1 11 f) dX6_firm_97 rfl ⟨by decide, rfl, rfl⟩ (by omega) (by omega) rfl ?_
        exact g_ret dX6_firm_98 rfl (by decide) (by unfold o_firm; (repeat (first | rw [if_pos (by omega)] | rw [if_neg (by omega)])); exact ⟨rfl, rfl⟩)
      · exact g_exS (as := [zI f]) dX6_firm_1 ck_X6_150 rfl rfl (Nat.le_of_ble_eq_true rfl) (by decide) (by decide) rfl (s_X6_requireFirm_ex c1) (by unfold o_firm; (repeat (first | rw [if_pos (by omega)] | rw [if_neg (by omega)])); exact ⟨rfl, rfl⟩)
    · skip
      refine g_iload_n (i := 1) (q := 1) dX6_firm_0 rfl rfl rfl ?_
      by_cases c1 : 0 ≤ f ∧ f < 6
      · skip
        refine g_fnS (as := [zI f]) (q := 4) (u' := 1) dX6_firm_1 rfl ck_X6_150 rfl rfl (Nat.le_of_ble_eq_true rfl) (by decide) rfl (by decide) (s_X6_requireFirm_ok c1) rfl ?_
        refine g_iload_n (i := 2) (q := 5) dX6_firm_4 rfl rfl rfl ?_
        refine g_bipush (q := 7) dX6_firm_5 rfl ⟨by decide, by decide⟩ (by decide) ?_
        refine g_fnS (as := [zI 5, zI 7]) (q := 10) (u' := 2) dX6_firm_7 rfl ck_X6_246 rfl rfl (Nat.le_of_ble_eq_true rfl) (by decide) rfl (by decide) (s_X6_requireWhat_ok (by omega)) rfl ?_
        refine g_iload_n (i := 2) (q := 11) dX6_firm_10 rfl rfl rfl ?_
        refine g_swIn (q := 0) (t := 99) dX6_firm_11 (by decide) (by decide) rfl (by decide) ?_
        refine g_aload_n (i := 0) (q := 100) dX6_firm_99 rfl rfl rfl ?_
        refine g_getr (q := 103) dX6_firm_100 rfl fk_X6_16 rfl rfl ?_
        refine g_getr (q := 106) dX6_firm_103 rfl fk_X6_274 rfl rfl ?_
        refine g_iload_n (i := 1) (q := 107) dX6_firm_106 rfl rfl rfl ?_
        refine g_ildv (q := 108) (z := S.2.1 12 f) dX6_firm_107 rfl ⟨by decide, rfl, rfl⟩ (by omega) (by omega) rfl ?_
        exact g_ret dX6_firm_108 rfl (by decide) (by unfold o_firm; (repeat (first | rw [if_pos (by omega)] | rw [if_neg (by omega)])); exact ⟨rfl, rfl⟩)
      · exact g_exS (as := [zI f]) dX6_firm_1 ck_X6_150 rfl rfl (Nat.le_of_ble_eq_true rfl) (by decide) (by decide) rfl (s_X6_requireFirm_ex c1) (by unfold o_firm; (repeat (first | rw [if_pos (by omega)] | rw [if_neg (by omega)])); exact ⟨rfl, rfl⟩)
    · skip
      refine g_iload_n (i := 1) (q := 1) dX6_firm_0 rfl rfl rfl ?_
      by_cases c1 : 0 ≤ f ∧ f < 6
      · skip
        refine g_fnS (as := [zI f]) (q := 4) (u' := 1) dX6_firm_1 rfl ck_X6_150 rfl rfl (Nat.le_of_ble_eq_true rfl) (by decide) rfl (by decide) (s_X6_requireFirm_ok c1) rfl ?_
        have hkf := hk f (by omega) (by omega)
        refine g_iload_n (i := 2) (q := 5) dX6_firm_4 rfl rfl rfl ?_
        refine g_bipush (q := 7) dX6_firm_5 rfl ⟨by decide, by decide⟩ (by decide) ?_
        refine g_fnS (as := [zI 6, zI 7]) (q := 10) (u' := 2) dX6_firm_7 rfl ck_X6_246 rfl rfl (Nat.le_of_ble_eq_true rfl) (by decide) rfl (by decide) (s_X6_requireWhat_ok (by omega)) rfl ?_
        refine g_iload_n (i := 2) (q := 11) dX6_firm_10 rfl rfl rfl ?_
        refine g_swOut (q := 0) (t := 109) dX6_firm_11 (by decide) (by decide) ?_
        refine g_aload_n (i := 0) (q := 110) dX6_firm_109 rfl rfl rfl ?_
        refine g_getr (q := 113) dX6_firm_110 rfl fk_X6_37 rfl rfl ?_
        refine g_iload_n (i := 1) (q := 114) dX6_firm_113 rfl rfl rfl ?_
        refine g_fnV (as := [zI f]) (q := 117) (u' := 2) dX6_firm_114 rfl ck_X6_237 rfl rfl rfl (Nat.le_of_ble_eq_true rfl) (by decide) rfl (by decide) (s_X0_countUnknown (by omega) (by omega) (by omega) (by omega) (by omega)) rfl ?_
        exact g_ret dX6_firm_117 rfl (by decide) (by unfold o_firm; (repeat (first | rw [if_pos (by omega)] | rw [if_neg (by omega)])); exact ⟨rfl, rfl⟩)
      · exact g_exS (as := [zI f]) dX6_firm_1 ck_X6_150 rfl rfl (Nat.le_of_ble_eq_true rfl) (by decide) (by decide) rfl (s_X6_requireFirm_ex c1) (by unfold o_firm; (repeat (first | rw [if_pos (by omega)] | rw [if_neg (by omega)])); exact ⟨rfl, rfl⟩)
  · skip
    refine g_iload_n (i := 1) (q := 1) dX6_firm_0 rfl rfl rfl ?_
    by_cases c1 : 0 ≤ f ∧ f < 6
    · skip
      refine g_fnS (as := [zI f]) (q := 4) (u' := 1) dX6_firm_1 rfl ck_X6_150 rfl rfl (Nat.le_of_ble_eq_true rfl) (by decide) rfl (by decide) (s_X6_requireFirm_ok c1) rfl ?_
      refine g_iload_n (i := 2) (q := 5) dX6_firm_4 rfl rfl rfl ?_
      refine g_bipush (q := 7) dX6_firm_5 rfl ⟨by decide, by decide⟩ (by decide) ?_
      exact g_exS (as := [zI w, zI 7]) dX6_firm_7 ck_X6_246 rfl rfl (Nat.le_of_ble_eq_true rfl) (by decide) (by decide) rfl (s_X6_requireWhat_ex hw) (by unfold o_firm; (repeat (first | rw [if_pos (by omega)] | rw [if_neg (by omega)])); exact ⟨rfl, rfl⟩)
    · exact g_exS (as := [zI f]) dX6_firm_1 ck_X6_150 rfl rfl (Nat.le_of_ble_eq_true rfl) (by decide) (by decide) rfl (s_X6_requireFirm_ex c1) (by unfold o_firm; (repeat (first | rw [if_pos (by omega)] | rw [if_neg (by omega)])); exact ⟨rfl, rfl⟩)
def o_known (S : zS) (f n : Int) : zO := if ¬ ((0 ≤ f ∧ f < 6) ∧ (0 ≤ n ∧ n < 200)) then (.error xI, S) else (zI? (x_pbt S f n), S)
theorem c_known {S : zS} {f n : Int} : z_Out mX6_known [zR 0, zI f, zI n] S (o_known S f n) := by
  refine z_enter (by decide +kernel) rfl (z_n1 trivial (z_n1 trivial (z_n1 trivial z_n0))) (Nat.le_of_ble_eq_true rfl) ?_
  refine g_iload_n (i := 1) (q := 1) dX6_known_0 rfl rfl rfl ?_
  by_cases c1 : 0 ≤ f ∧ f < 6
  · skip
    refine g_fnS (as := [zI f]) (q := 4) (u' := 1) dX6_known_1 rfl ck_X6_150 rfl rfl (Nat.le_of_ble_eq_true rfl) (by decide) rfl (by decide) (s_X6_requireFirm_ok c1) rfl ?_
    refine g_iload_n (i := 2) (q := 5) dX6_known_4 rfl rfl rfl ?_
    by_cases c5 : 0 ≤ n ∧ n < 200
    · skip
      refine g_fnS (as := [zI n]) (q := 8) (u' := 2) dX6_known_5 rfl ck_X6_99 rfl rfl (Nat.le_of_ble_eq_true rfl) (by decide) rfl (by decide) (s_X6_requireNumber_ok c5) rfl ?_
      refine g_aload_n (i := 0) (q := 9) dX6_known_8 rfl rfl rfl ?_
      refine g_iload_n (i := 1) (q := 10) dX6_known_9 rfl rfl rfl ?_
      refine g_iload_n (i := 2) (q := 11) dX6_known_10 rfl rfl rfl ?_
      refine g_fnV (as := [zI f, zI n]) (q := 14) (u' := 2) dX6_known_11 rfl ck_X6_277 rfl rfl rfl (Nat.le_of_ble_eq_true rfl) (by decide) rfl (by decide) (s_X6_placeByTable (by omega) (by omega)) rfl ?_
      exact g_ret dX6_known_14 rfl (by decide) (by unfold o_known; (repeat (first | rw [if_pos (by omega)] | rw [if_neg (by omega)])); exact ⟨rfl, rfl⟩)
    · exact g_exS (as := [zI n]) dX6_known_5 ck_X6_99 rfl rfl (Nat.le_of_ble_eq_true rfl) (by decide) (by decide) rfl (s_X6_requireNumber_ex c5) (by unfold o_known; (repeat (first | rw [if_pos (by omega)] | rw [if_neg (by omega)])); exact ⟨rfl, rfl⟩)
  · exact g_exS (as := [zI f]) dX6_known_1 ck_X6_150 rfl rfl (Nat.le_of_ble_eq_true rfl) (by decide) (by decide) rfl (s_X6_requireFirm_ex c1) (by unfold o_known; (repeat (first | rw [if_pos (by omega)] | rw [if_neg (by omega)])); exact ⟨rfl, rfl⟩)
def x_au (S : zS) (f : Int) (i : Nat) : Nat := z_ct (fun k => decide (¬ S.2.1 13 k = -1 ∧ ¬ x_pbt S f k = S.2.1 13 k)) i
theorem x_au_s (S : zS) (f : Int) (i : Nat) : x_au S f (i + 1) = x_au S f i + if ¬ S.2.1 13 i = -1 ∧ ¬ x_pbt S f i = S.2.1 13 i then 1 else 0 := by
  unfold x_au
  rw [z_ct]
  simp
theorem x_au_le (S : zS) (f : Int) (i : Nat) : x_au S f i ≤ i := z_ct_le _ _
theorem l_X6_audit {Q : zQ} {S : zS} {f : Int} (hf : 0 ≤ f ∧ f < 6) (hQ : Q (.ok (some (zI (x_au S f 200)))) S) : ∀ (k i : Nat) (w : Int), i + k = 200 → w = x_au S f i → z_G mX6_audit (z_F mX6_audit Q) 1 8 [some (zR 0), some (zI f), some (zI w), some (zI (i : Int))] [] S := by
  intro k
  induction k with
  | zero =>
    intro i w hi hw
    have e : i = 200 := by omega
    subst e
    subst hw
    refine g_iload_n (i := 3) (q := 9) dX6_audit_8 rfl rfl rfl ?_
    refine g_sipush (q := 12) dX6_audit_9 rfl ⟨by decide, by decide⟩ (by decide) ?_
    refine g_icmp_ge (t := 53) (q := 15) dX6_audit_12 (by decide) rfl (fun h12 => ?_) (fun h12 => (False.elim (by omega)))
    refine g_iload_n (i := 2) (q := 54) dX6_audit_53 rfl rfl rfl ?_
    exact g_ret dX6_audit_54 rfl (by decide) hQ
  | succ k ih =>
    intro i w hi hw
    have hle := x_au_le S f i
    refine g_iload_n (i := 3) (q := 9) dX6_audit_8 rfl rfl rfl ?_
    refine g_sipush (q := 12) dX6_audit_9 rfl ⟨by decide, by decide⟩ (by decide) ?_
    refine g_icmp_ge (t := 53) (q := 15) dX6_audit_12 (by decide) rfl (fun h12 => (False.elim (by omega))) (fun h12 => ?_)
    refine g_aload_n (i := 0) (q := 16) dX6_audit_15 rfl rfl rfl ?_
    refine g_getr (q := 19) dX6_audit_16 rfl fk_X6_23 rfl rfl ?_
    refine g_iload_n (i := 3) (q := 20) dX6_audit_19 rfl rfl rfl ?_
    by_cases c20 : ¬ (S).2.1 13 (i : Int) = -1
    · refine g_fnV (as := [zI (i : Int)]) (q := 23) (u' := 1) dX6_audit_20 rfl ck_X6_109 rfl rfl rfl (Nat.le_of_ble_eq_true rfl) (by decide) rfl (by decide) (s_X1_isInUse_t (by omega) c20) rfl ?_
      refine g_if_eq (t := 47) (q := 26) dX6_audit_23 (by decide) rfl (fun h23 => (False.elim (by omega))) (fun h23 => ?_)
      refine g_aload_n (i := 0) (q := 27) dX6_audit_26 rfl rfl rfl ?_
      refine g_iload_n (i := 1) (q := 28) dX6_audit_27 rfl rfl rfl ?_
      refine g_iload_n (i := 3) (q := 29) dX6_audit_28 rfl rfl rfl ?_
      refine g_fnV (as := [zI f, zI (i : Int)]) (q := 32) (u' := 1) dX6_audit_29 rfl ck_X6_277 rfl rfl rfl (Nat.le_of_ble_eq_true rfl) (by decide) rfl (by decide) (s_X6_placeByTable (by omega) (by omega)) rfl ?_
      refine g_aload_n (i := 0) (q := 33) dX6_audit_32 rfl rfl rfl ?_
      refine g_getr (q := 36) dX6_audit_33 rfl fk_X6_23 rfl rfl ?_
      refine g_getr (q := 39) dX6_audit_36 rfl fk_X6_129 rfl rfl ?_
      refine g_iload_n (i := 3) (q := 40) dX6_audit_39 rfl rfl rfl ?_
      refine g_ildv (q := 41) (z := S.2.1 13 (i : Int)) dX6_audit_40 rfl ⟨by decide, rfl, rfl⟩ (by omega) (by omega) rfl ?_
      refine g_icmp_eq (t := 47) (q := 44) dX6_audit_41 (by decide) rfl (fun h41 => ?_) (fun h41 => ?_)
      · refine g_iinc (q := 50) (i := 3) (n := 1) dX6_audit_47 rfl rfl (by constructor <;> omega) ?_
        refine g_goto (q := 0) (t := 8) dX6_audit_50 (by decide) ?_
        exact ih (i + 1) _ (by omega) (by rw [x_au_s]; split <;> omega)
      · refine g_iinc (q := 47) (i := 2) (n := 1) dX6_audit_44 rfl rfl (by constructor <;> omega) ?_
        refine g_iinc (q := 50) (i := 3) (n := 1) dX6_audit_47 rfl rfl (by constructor <;> omega) ?_
        refine g_goto (q := 0) (t := 8) dX6_audit_50 (by decide) ?_
        exact ih (i + 1) _ (by omega) (by rw [x_au_s]; split <;> omega)
    · refine g_fnV (as := [zI (i : Int)]) (q := 23) (u' := 1) dX6_audit_20 rfl ck_X6_109 rfl rfl rfl (Nat.le_of_ble_eq_true rfl) (by decide) rfl (by decide) (s_X1_isInUse_f (by omega) (Decidable.not_not.mp c20)) rfl ?_
      refine g_if_eq (t := 47) (q := 26) dX6_audit_23 (by decide) rfl (fun h23 => ?_) (fun h23 => (False.elim (by omega)))
      refine g_iinc (q := 50) (i := 3) (n := 1) dX6_audit_47 rfl rfl (by constructor <;> omega) ?_
      refine g_goto (q := 0) (t := 8) dX6_audit_50 (by decide) ?_
      exact ih (i + 1) _ (by omega) (by rw [x_au_s]; split <;> omega)
def o_audit (S : zS) (f : Int) : zO := if ¬ (0 ≤ f ∧ f < 6) then (.error xI, S) else (zI? (x_au S f 200), S)
theorem c_audit {S : zS} {f : Int} : z_Out mX6_audit [zR 0, zI f] S (o_audit S f) := by
  refine z_enter (by decide +kernel) rfl (z_n1 trivial (z_n1 trivial z_n0)) (Nat.le_of_ble_eq_true rfl) ?_
  refine g_iload_n (i := 1) (q := 1) dX6_audit_0 rfl rfl rfl ?_
  by_cases c1 : 0 ≤ f ∧ f < 6
  · skip
    refine g_fnS (as := [zI f]) (q := 4) (u' := 1) dX6_audit_1 rfl ck_X6_150 rfl rfl (Nat.le_of_ble_eq_true rfl) (by decide) rfl (by decide) (s_X6_requireFirm_ok c1) rfl ?_
    refine g_iconst (q := 5) dX6_audit_4 rfl ⟨by decide, by decide⟩ ?_
    refine g_istore_n (i := 2) (q := 6) dX6_audit_5 rfl rfl (by decide) ?_
    refine g_iconst (q := 7) dX6_audit_6 rfl ⟨by decide, by decide⟩ ?_
    refine g_istore_n (i := 3) (q := 8) dX6_audit_7 rfl rfl (by decide) ?_
    exact l_X6_audit (by omega) (by unfold o_audit; rw [if_neg (by omega)]; exact ⟨rfl, rfl⟩) 200 0 0 (by omega) rfl
  · exact g_exS (as := [zI f]) dX6_audit_1 ck_X6_150 rfl rfl (Nat.le_of_ble_eq_true rfl) (by decide) (by decide) rfl (s_X6_requireFirm_ex c1) (by unfold o_audit; (repeat (first | rw [if_pos (by omega)] | rw [if_neg (by omega)])); exact ⟨rfl, rfl⟩)
/-- what a call of the tables rests on -/
def xR2 (S : zS) : Prop := (∀ b : Int, 0 ≤ b → b < 20 → -1 ≤ S.2.1 8 b ∧ S.2.1 8 b < 6) ∧ (∀ f n : Int, 0 ≤ f → f < 6 → 0 ≤ n → n < 200 → 0 ≤ S.2.1 (30 + f.toNat) n ∧ S.2.1 (30 + f.toNat) n ≤ 6) ∧ (∀ f : Int, 0 ≤ f → f < 6 → S.2.1 9 f = 0 ∨ S.2.1 9 f = 1)
theorem x_ft_len {n w h : Int} : ∀ (k i : Nat) (S : zS), i + k = 7 → xT S n h i → ∃ j : Nat, xT (x_ft S n w h i k).1 n h j ∧ (∀ q, q ≠ 4 → (x_ft S n w h i k).1.1 q = S.1 q) ∧ (∀ q x, q ≠ 39 → (x_ft S n w h i k).1.2.1 q x = S.2.1 q x) ∧ (x_ft S n w h i k).1.2.2 = S.2.2
  | 0, i, S, _, T => ⟨i, T, fun _ _ => rfl, fun _ _ _ => rfl, rfl⟩
  | k + 1, i, S, hi, T => by
    have hnx := x_nx_rng (w := w) T
    have hha := xT_ha T (by omega) hnx
    have g1 : ∀ x, (∀ q, q ≠ 4 → (x_ha S x).1 q = S.1 q) ∧ (∀ q j, q ≠ 39 → (x_ha S x).2.1 q j = S.2.1 q j) := fun x => ⟨fun q hq => by unfold x_ha; rw [zv_sS, if_neg hq]; rfl, fun q j hq => by unfold x_ha; rw [za_sS, za_ne hq]⟩
    rw [x_ft]
    split
    · exact ⟨i, T, fun _ _ => rfl, fun _ _ _ => rfl, rfl⟩
    · split
      · exact ⟨i, T, fun _ _ => rfl, fun _ _ _ => rfl, rfl⟩
      · split
        · exact ⟨i, T, fun _ _ => rfl, fun _ _ _ => rfl, rfl⟩
        · split
          · exact ⟨i + 1, hha, (g1 _).1, (g1 _).2, rfl⟩
          · obtain ⟨j, h1, h2, h3, h4⟩ := x_ft_len (n := n) (w := w) (h := h) k (i + 1) _ (by omega) hha
            exact ⟨j, h1, fun q hq => by rw [h2 q hq, (g1 _).1 q hq], fun q x hq => by rw [h3 q x hq, (g1 _).2 q x hq], h4⟩
theorem x_tc_fr {S : zS} {f n w : Int} (hf : 0 ≤ f ∧ f < 6) (hn : 0 ≤ n ∧ n < 200) (hR : xR2 S) : (∀ q, q ≠ 4 → (x_tc S f n w).1.1 q = S.1 q) ∧ (∀ q x, q ≠ 39 → (x_tc S f n w).1.2.1 q x = S.2.1 q x) ∧ (x_tc S f n w).1.2.2 = S.2.2 ∧ (1 ≤ (x_tc S f n w).1.1 4 ∧ (x_tc S f n w).1.1 4 ≤ 7) ∧ (∀ j : Int, 0 ≤ j → j < (x_tc S f n w).1.1 4 → 0 ≤ (x_tc S f n w).1.2.1 39 j ∧ (x_tc S f n w).1.2.1 39 j < 6) := by
  have hh := hR.1 (n / 10) (by omega) (by omega)
  have g1 : ∀ x, (∀ q, q ≠ 4 → (x_hb S x).1 q = S.1 q) ∧ (∀ q j, q ≠ 39 → (x_hb S x).2.1 q j = S.2.1 q j) := fun x => ⟨fun q hq => by unfold x_hb; rw [zv_sS, if_neg hq]; rfl, fun q j hq => by unfold x_hb; rw [za_sS, za_ne hq]⟩
  have g0 : ∀ j : Int, 0 ≤ j → j < (x_hb S f).1 4 → 0 ≤ (x_hb S f).2.1 39 j ∧ (x_hb S f).2.1 39 j < 6 := fun j a b => by
    have b1 : j < 1 := b
    have e : j = 0 := by omega
    subst e
    show 0 ≤ (z_sA S 39 0 f).2.1 39 0 ∧ (z_sA S 39 0 f).2.1 39 0 < 6
    rw [za_eq]
    exact hf
  unfold x_tc
  split
  · exact ⟨(g1 f).1, (g1 f).2, rfl, by show 1 ≤ (1 : Int) ∧ (1 : Int) ≤ 7; omega, g0⟩
  · split
    · split
      · exact ⟨(g1 f).1, (g1 f).2, rfl, by show 1 ≤ (1 : Int) ∧ (1 : Int) ≤ 7; omega, g0⟩
      · refine ⟨fun q hq => ?_, fun q x hq => ?_, rfl, by show 1 ≤ (1 + 1 : Int) ∧ (1 + 1 : Int) ≤ 7; omega, fun j a b => ?_⟩
        · unfold x_ha
          rw [zv_sS, if_neg hq]
          exact (g1 f).1 q hq
        · unfold x_ha
          rw [za_sS, za_ne hq]
          exact (g1 f).2 q x hq
        · have b1 : j < 1 + 1 := b
          unfold x_ha
          rw [za_sS, za_sA]
          split
          · omega
          · next hne =>
            have e : (x_hb S f).1 4 = 1 := rfl
            rw [e] at hne
            exact g0 j a (by
              rw [e]
              by_cases q : j = 1
              · exact absurd ⟨rfl, q⟩ hne
              · omega)
    · obtain ⟨j, h1, h2, h3, h4⟩ := x_ft_len (w := w) 6 1 _ (by omega) (xT_hb hf hn (by omega) (fun g x y => hR.2.1 g n x y hn.1 hn.2))
      obtain ⟨t1, t2, t3, t4, t5, t6, t7⟩ := h1
      exact ⟨fun q hq => by rw [h2 q hq, (g1 f).1 q hq], fun q x hq => by rw [h3 q x hq, (g1 f).2 q x hq], h4, by omega, fun j a b => t7 j a (by omega)⟩
def o_hop (S : zS) (f n w p : Int) : zO := if ¬ ((0 ≤ f ∧ f < 6) ∧ (0 ≤ n ∧ n < 200) ∧ 0 ≤ p) then (.error xI, S) else if ¬ (0 ≤ w ∧ w ≤ 2) then (.error xA, S) else (zI? (x_hop (x_tc S f n w).1 p), (x_tc S f n w).1)
theorem c_hop {S : zS} {f n w p : Int} (hR : xR2 S) : z_Out mX6_hop [zR 0, zI f, zI n, zI w, zI p] S (o_hop S f n w p) := by
  refine z_enter (by decide +kernel) rfl (z_n1 trivial (z_n1 trivial (z_n1 trivial (z_n1 trivial (z_n1 trivial z_n0))))) (Nat.le_of_ble_eq_true rfl) ?_
  refine g_iload_n (i := 1) (q := 1) dX6_hop_0 rfl rfl rfl ?_
  by_cases c1 : 0 ≤ f ∧ f < 6
  · skip
    refine g_fnS (as := [zI f]) (q := 4) (u' := 1) dX6_hop_1 rfl ck_X6_150 rfl rfl (Nat.le_of_ble_eq_true rfl) (by decide) rfl (by decide) (s_X6_requireFirm_ok c1) rfl ?_
    refine g_iload_n (i := 2) (q := 5) dX6_hop_4 rfl rfl rfl ?_
    by_cases c5 : 0 ≤ n ∧ n < 200
    · skip
      refine g_fnS (as := [zI n]) (q := 8) (u' := 2) dX6_hop_5 rfl ck_X6_99 rfl rfl (Nat.le_of_ble_eq_true rfl) (by decide) rfl (by decide) (s_X6_requireNumber_ok c5) rfl ?_
      refine g_iload (q := 10) dX6_hop_8 rfl rfl ?_
      refine g_if_ge (t := 24) (q := 13) dX6_hop_10 (by decide) rfl (fun h10 => ?_) (fun h10 => ?_)
      · refine g_iload_n (i := 3) (q := 25) dX6_hop_24 rfl rfl rfl ?_
        by_cases c25 : 0 ≤ w ∧ w ≤ 2
        · skip
          refine g_fnS (as := [zI w]) (q := 28) (u' := 3) dX6_hop_25 rfl ck_X6_283 rfl rfl (Nat.le_of_ble_eq_true rfl) (by decide) rfl (by decide) (s_X6_requireWay_ok c25) rfl ?_
          refine g_aload_n (i := 0) (q := 29) dX6_hop_28 rfl rfl rfl ?_
          refine g_iload_n (i := 1) (q := 30) dX6_hop_29 rfl rfl rfl ?_
          refine g_iload_n (i := 2) (q := 31) dX6_hop_30 rfl rfl rfl ?_
          refine g_iload_n (i := 3) (q := 32) dX6_hop_31 rfl rfl rfl ?_
          refine g_fnV (as := [zI f, zI n, zI w]) (q := 35) (u' := 3) dX6_hop_32 rfl ck_X6_286 rfl rfl rfl (Nat.le_of_ble_eq_true rfl) (by decide) rfl (by decide) (s_X6_traceCall (by omega) (by omega) (hR.1 _ (by omega) (by omega)) (fun g x y => hR.2.1 g _ x y (by omega) (by omega)) hR.2.2) rfl ?_
          have hfr := x_tc_fr (w := w) (f := f) (n := n) (by omega) (by omega) hR
          refine g_pop (q := 36) dX6_hop_35 rfl trivial ?_
          refine g_aload_n (i := 0) (q := 37) dX6_hop_36 rfl rfl rfl ?_
          refine g_getr (q := 40) dX6_hop_37 rfl fk_X6_51 rfl rfl ?_
          refine g_iload (q := 42) dX6_hop_40 rfl rfl ?_
          refine g_fnV (as := [zI p]) (q := 45) (u' := 3) dX6_hop_42 rfl ck_X6_289 rfl rfl rfl (Nat.le_of_ble_eq_true rfl) (by decide) rfl (by decide) (s_X5_hopAt (by omega)) rfl ?_
          exact g_ret dX6_hop_45 rfl (by decide) (by unfold o_hop; (repeat (first | rw [if_pos (by omega)] | rw [if_neg (by omega)])); exact ⟨rfl, rfl⟩)
        · exact g_exS (as := [zI w]) dX6_hop_25 ck_X6_283 rfl rfl (Nat.le_of_ble_eq_true rfl) (by decide) (by decide) rfl (s_X6_requireWay_ex c25) (by unfold o_hop; (repeat (first | rw [if_pos (by omega)] | rw [if_neg (by omega)])); exact ⟨rfl, rfl⟩)
      · exact g_throwW (text := "no such place") rfl rfl z_tk_I (by decide +kernel) dX6_hop_13 dX6_hop_16 dX6_hop_17 dX6_hop_20 dX6_hop_23 (by decide) (by decide) (by decide) (by unfold o_hop; (repeat (first | rw [if_pos (by omega)] | rw [if_neg (by omega)])); exact ⟨rfl, rfl⟩)
    · exact g_exS (as := [zI n]) dX6_hop_5 ck_X6_99 rfl rfl (Nat.le_of_ble_eq_true rfl) (by decide) (by decide) rfl (s_X6_requireNumber_ex c5) (by unfold o_hop; (repeat (first | rw [if_pos (by omega)] | rw [if_neg (by omega)])); exact ⟨rfl, rfl⟩)
  · exact g_exS (as := [zI f]) dX6_hop_1 ck_X6_150 rfl rfl (Nat.le_of_ble_eq_true rfl) (by decide) (by decide) rfl (s_X6_requireFirm_ex c1) (by unfold o_hop; (repeat (first | rw [if_pos (by omega)] | rw [if_neg (by omega)])); exact ⟨rfl, rfl⟩)
def o_why (S : zS) (f n w : Int) : zO := if ¬ ((0 ≤ f ∧ f < 6) ∧ (0 ≤ n ∧ n < 200)) then (.error xI, S) else if ¬ (0 ≤ w ∧ w ≤ 2) then (.error xA, S) else (zI? (x_tc S f n w).2, (x_tc S f n w).1)
theorem c_why {S : zS} {f n w : Int} (hR : xR2 S) : z_Out mX6_why [zR 0, zI f, zI n, zI w] S (o_why S f n w) := by
  refine z_enter (by decide +kernel) rfl (z_n1 trivial (z_n1 trivial (z_n1 trivial (z_n1 trivial z_n0)))) (Nat.le_of_ble_eq_true rfl) ?_
  refine g_iload_n (i := 1) (q := 1) dX6_why_0 rfl rfl rfl ?_
  by_cases c1 : 0 ≤ f ∧ f < 6
  · skip
    refine g_fnS (as := [zI f]) (q := 4) (u' := 1) dX6_why_1 rfl ck_X6_150 rfl rfl (Nat.le_of_ble_eq_true rfl) (by decide) rfl (by decide) (s_X6_requireFirm_ok c1) rfl ?_
    refine g_iload_n (i := 2) (q := 5) dX6_why_4 rfl rfl rfl ?_
    by_cases c5 : 0 ≤ n ∧ n < 200
    · skip
      refine g_fnS (as := [zI n]) (q := 8) (u' := 2) dX6_why_5 rfl ck_X6_99 rfl rfl (Nat.le_of_ble_eq_true rfl) (by decide) rfl (by decide) (s_X6_requireNumber_ok c5) rfl ?_
      refine g_iload_n (i := 3) (q := 9) dX6_why_8 rfl rfl rfl ?_
      by_cases c9 : 0 ≤ w ∧ w ≤ 2
      · skip
        refine g_fnS (as := [zI w]) (q := 12) (u' := 3) dX6_why_9 rfl ck_X6_283 rfl rfl (Nat.le_of_ble_eq_true rfl) (by decide) rfl (by decide) (s_X6_requireWay_ok c9) rfl ?_
        refine g_aload_n (i := 0) (q := 13) dX6_why_12 rfl rfl rfl ?_
        refine g_iload_n (i := 1) (q := 14) dX6_why_13 rfl rfl rfl ?_
        refine g_iload_n (i := 2) (q := 15) dX6_why_14 rfl rfl rfl ?_
        refine g_iload_n (i := 3) (q := 16) dX6_why_15 rfl rfl rfl ?_
        refine g_fnV (as := [zI f, zI n, zI w]) (q := 19) (u' := 3) dX6_why_16 rfl ck_X6_286 rfl rfl rfl (Nat.le_of_ble_eq_true rfl) (by decide) rfl (by decide) (s_X6_traceCall (by omega) (by omega) (hR.1 _ (by omega) (by omega)) (fun g x y => hR.2.1 g _ x y (by omega) (by omega)) hR.2.2) rfl ?_
        exact g_ret dX6_why_19 rfl (by decide) (by unfold o_why; (repeat (first | rw [if_pos (by omega)] | rw [if_neg (by omega)])); exact ⟨rfl, rfl⟩)
      · exact g_exS (as := [zI w]) dX6_why_9 ck_X6_283 rfl rfl (Nat.le_of_ble_eq_true rfl) (by decide) (by decide) rfl (s_X6_requireWay_ex c9) (by unfold o_why; (repeat (first | rw [if_pos (by omega)] | rw [if_neg (by omega)])); exact ⟨rfl, rfl⟩)
    · exact g_exS (as := [zI n]) dX6_why_5 ck_X6_99 rfl rfl (Nat.le_of_ble_eq_true rfl) (by decide) (by decide) rfl (s_X6_requireNumber_ex c5) (by unfold o_why; (repeat (first | rw [if_pos (by omega)] | rw [if_neg (by omega)])); exact ⟨rfl, rfl⟩)
  · exact g_exS (as := [zI f]) dX6_why_1 ck_X6_150 rfl rfl (Nat.le_of_ble_eq_true rfl) (by decide) (by decide) rfl (s_X6_requireFirm_ex c1) (by unfold o_why; (repeat (first | rw [if_pos (by omega)] | rw [if_neg (by omega)])); exact ⟨rfl, rfl⟩)
def o_dial (S : zS) (a n w : Int) : zO := if ¬ ((0 ≤ a ∧ a < 200) ∧ (0 ≤ n ∧ n < 200)) then (.error xI, S) else if ¬ (0 ≤ w ∧ w ≤ 2) then (.error xA, S) else if S.2.1 13 a = -1 then (.error xS, S) else (zI? (x_tc S (S.2.1 13 a) n w).2, if (x_tc S (S.2.1 13 a) n w).2 = 0 then x_pf (x_tc S (S.2.1 13 a) n w).1 else (x_tc S (S.2.1 13 a) n w).1)
theorem c_dial {S : zS} {a n w : Int} (hR : xR2 S) (hN : ∀ n : Int, 0 ≤ n → n < 200 → -1 ≤ S.2.1 13 n ∧ S.2.1 13 n < 6) : z_Out mX6_dial [zR 0, zI a, zI n, zI w] S (o_dial S a n w) := by
  refine z_enter (by decide +kernel) rfl (z_n1 trivial (z_n1 trivial (z_n1 trivial (z_n1 trivial z_n0)))) (Nat.le_of_ble_eq_true rfl) ?_
  refine g_iload_n (i := 1) (q := 1) dX6_dial_0 rfl rfl rfl ?_
  by_cases c1 : 0 ≤ a ∧ a < 200
  · skip
    refine g_fnS (as := [zI a]) (q := 4) (u' := 1) dX6_dial_1 rfl ck_X6_99 rfl rfl (Nat.le_of_ble_eq_true rfl) (by decide) rfl (by decide) (s_X6_requireNumber_ok c1) rfl ?_
    refine g_iload_n (i := 2) (q := 5) dX6_dial_4 rfl rfl rfl ?_
    by_cases c5 : 0 ≤ n ∧ n < 200
    · skip
      refine g_fnS (as := [zI n]) (q := 8) (u' := 2) dX6_dial_5 rfl ck_X6_99 rfl rfl (Nat.le_of_ble_eq_true rfl) (by decide) rfl (by decide) (s_X6_requireNumber_ok c5) rfl ?_
      refine g_iload_n (i := 3) (q := 9) dX6_dial_8 rfl rfl rfl ?_
      by_cases c9 : 0 ≤ w ∧ w ≤ 2
      · skip
        refine g_fnS (as := [zI w]) (q := 12) (u' := 3) dX6_dial_9 rfl ck_X6_283 rfl rfl (Nat.le_of_ble_eq_true rfl) (by decide) rfl (by decide) (s_X6_requireWay_ok c9) rfl ?_
        refine g_aload_n (i := 0) (q := 13) dX6_dial_12 rfl rfl rfl ?_
        refine g_iload_n (i := 1) (q := 14) dX6_dial_13 rfl rfl rfl ?_
        by_cases c14 : ¬ (S).2.1 13 a = -1
        · skip
          refine g_fnV (as := [zI a]) (q := 17) (u' := 4) dX6_dial_14 rfl ck_X6_126 rfl rfl rfl (Nat.le_of_ble_eq_true rfl) (by decide) rfl (by decide) (s_X6_requireInUse_ok (by omega) c14) rfl ?_
          have hNa := hN a (by omega) (by omega)
          refine g_aload_n (i := 0) (q := 18) dX6_dial_17 rfl rfl rfl ?_
          refine g_aload_n (i := 0) (q := 19) dX6_dial_18 rfl rfl rfl ?_
          refine g_getr (q := 22) dX6_dial_19 rfl fk_X6_23 rfl rfl ?_
          refine g_getr (q := 25) dX6_dial_22 rfl fk_X6_129 rfl rfl ?_
          refine g_iload_n (i := 1) (q := 26) dX6_dial_25 rfl rfl rfl ?_
          refine g_ildv (q := 27) (z := S.2.1 13 a) dX6_dial_26 rfl ⟨by decide, rfl, rfl⟩ (by omega) (by omega) rfl ?_
          refine g_iload_n (i := 2) (q := 28) dX6_dial_27 rfl rfl rfl ?_
          refine g_iload_n (i := 3) (q := 29) dX6_dial_28 rfl rfl rfl ?_
          refine g_fnV (as := [zI (S.2.1 13 a), zI n, zI w]) (q := 32) (u' := 4) dX6_dial_29 rfl ck_X6_286 rfl rfl rfl (Nat.le_of_ble_eq_true rfl) (by decide) rfl (by decide) (s_X6_traceCall (by omega) (by omega) (hR.1 _ (by omega) (by omega)) (fun g x y => hR.2.1 g _ x y (by omega) (by omega)) hR.2.2) rfl ?_
          have hfr := x_tc_fr (w := w) (f := S.2.1 13 a) (n := n) (by omega) (by omega) hR
          refine g_istore (q := 34) dX6_dial_32 rfl (by decide) ?_
          refine g_iload (q := 36) dX6_dial_34 rfl rfl ?_
          refine g_if_ne (t := 43) (q := 39) dX6_dial_36 (by decide) rfl (fun h36 => ?_) (fun h36 => ?_)
          · refine g_iload (q := 45) dX6_dial_43 rfl rfl ?_
            exact g_ret dX6_dial_45 rfl (by decide) (by unfold o_dial; (repeat (first | rw [if_pos (by omega)] | rw [if_neg (by omega)])); exact ⟨rfl, rfl⟩)
          · refine g_aload_n (i := 0) (q := 40) dX6_dial_39 rfl rfl rfl ?_
            refine g_fnV (as := []) (q := 43) (u' := 4) dX6_dial_40 rfl ck_X6_292 rfl rfl rfl (Nat.le_of_ble_eq_true rfl) (by decide) rfl (by decide) (s_X6_payForCall (len := ((x_tc S (S.2.1 13 a) n w).1.1 4).toNat) (by omega) (by omega) (by omega) (fun j x y => hfr.2.2.2.2 j x (by omega))) rfl ?_
            refine g_iload (q := 45) dX6_dial_43 rfl rfl ?_
            exact g_ret dX6_dial_45 rfl (by decide) (by unfold o_dial; (repeat (first | rw [if_pos (by omega)] | rw [if_neg (by omega)])); exact ⟨rfl, rfl⟩)
        · exact g_exV (as := [zI a]) dX6_dial_14 ck_X6_126 rfl rfl rfl (Nat.le_of_ble_eq_true rfl) (by decide) (by decide) rfl (s_X6_requireInUse_ex (by omega) c14) (by unfold o_dial; (repeat (first | rw [if_pos (by omega)] | rw [if_neg (by omega)])); exact ⟨rfl, rfl⟩)
      · exact g_exS (as := [zI w]) dX6_dial_9 ck_X6_283 rfl rfl (Nat.le_of_ble_eq_true rfl) (by decide) (by decide) rfl (s_X6_requireWay_ex c9) (by unfold o_dial; (repeat (first | rw [if_pos (by omega)] | rw [if_neg (by omega)])); exact ⟨rfl, rfl⟩)
    · exact g_exS (as := [zI n]) dX6_dial_5 ck_X6_99 rfl rfl (Nat.le_of_ble_eq_true rfl) (by decide) (by decide) rfl (s_X6_requireNumber_ex c5) (by unfold o_dial; (repeat (first | rw [if_pos (by omega)] | rw [if_neg (by omega)])); exact ⟨rfl, rfl⟩)
  · exact g_exS (as := [zI a]) dX6_dial_1 ck_X6_99 rfl rfl (Nat.le_of_ble_eq_true rfl) (by decide) (by decide) rfl (s_X6_requireNumber_ex c1) (by unfold o_dial; (repeat (first | rw [if_pos (by omega)] | rw [if_neg (by omega)])); exact ⟨rfl, rfl⟩)
theorem c_minute {S : zS} : z_Out mX6_minute [zR 0] S (zI? (S.1 0), S) := by
  refine z_enter (by decide +kernel) rfl (z_n1 trivial z_n0) (Nat.le_of_ble_eq_true rfl) ?_
  refine g_aload_n (i := 0) (q := 1) dX6_minute_0 rfl rfl rfl ?_
  refine g_getv (q := 4) (z := S.1 0) dX6_minute_1 rfl fk_X6_55 rfl rfl rfl ?_
  exact g_ret dX6_minute_4 rfl (by decide) (by first | exact ⟨rfl, rfl⟩ | (exfalso; omega))
end
section
/-! ===== bits of ints and longs ===== -/
def zAnd (x y : Int) : Int := (Int32.ofInt x &&& Int32.ofInt y).toInt
def zOr (x y : Int) : Int := (Int32.ofInt x ||| Int32.ofInt y).toInt
def zXor (x y : Int) : Int := (Int32.ofInt x ^^^ Int32.ofInt y).toInt
def zShl (x y : Int) : Int := (Int32.ofInt x <<< (Int32.ofInt y &&& 31)).toInt
def zShr (x y : Int) : Int := (Int32.ofInt x >>> (Int32.ofInt y &&& 31)).toInt
def zUshr (x y : Int) : Int := ((Int32.ofInt x).toUInt32 >>> ((Int32.ofInt y).toUInt32 &&& Int32.toUInt32 31)).toInt32.toInt
def zLand (x y : Int) : Int := (Int64.ofInt x &&& Int64.ofInt y).toInt
def zLor (x y : Int) : Int := (Int64.ofInt x ||| Int64.ofInt y).toInt
def zLxor (x y : Int) : Int := (Int64.ofInt x ^^^ Int64.ofInt y).toInt
def zLshl (x y : Int) : Int := (Int64.ofInt x <<< ((Int32.ofInt y).toInt64 &&& 63)).toInt
def zLshr (x y : Int) : Int := (Int64.ofInt x >>> ((Int32.ofInt y).toInt64 &&& 63)).toInt
def zL2i (x : Int) : Int := (Int64.ofInt x).toInt32.toInt
theorem z_rngL (x : Int64) : z_inL x.toInt := by
  have h1 := Int64.le_toInt x
  have h2 := Int64.toInt_lt x
  constructor <;> omega
theorem zb_bv (n : Nat) : (Int32.ofInt (n : Int)).toBitVec = BitVec.ofNat 32 n := BitVec.ofInt_natCast 32 n
theorem zb_bvL (n : Nat) : (Int64.ofInt (n : Int)).toBitVec = BitVec.ofNat 64 n := BitVec.ofInt_natCast 64 n
theorem zb_ti {x : Int32} {n : Nat} (h : x.toBitVec = BitVec.ofNat 32 n) (hn : n < 2147483648) : x.toInt = n := by
  have e : x = Int32.ofInt (n : Int) := Int32.toBitVec_inj.mp (by rw [h, zb_bv])
  rw [e, z_toI ⟨by omega, by omega⟩]
theorem zb_tiL {x : Int64} {n : Nat} (h : x.toBitVec = BitVec.ofNat 64 n) (hn : n < 9223372036854775808) : x.toInt = n := by
  have e : x = Int64.ofInt (n : Int) := Int64.toBitVec_inj.mp (by rw [h, zb_bvL])
  rw [e, z_toL ⟨by omega, by omega⟩]
theorem zAnd_n {a b : Nat} (h : a &&& b < 2147483648) : zAnd a b = ((a &&& b : Nat) : Int) := zb_ti (by rw [Int32.toBitVec_and, zb_bv, zb_bv, BitVec.ofNat_and]) h
theorem zOr_n {a b : Nat} (h : a ||| b < 2147483648) : zOr a b = ((a ||| b : Nat) : Int) := zb_ti (by rw [Int32.toBitVec_or, zb_bv, zb_bv, BitVec.ofNat_or]) h
theorem zLand_n {a b : Nat} (h : a &&& b < 9223372036854775808) : zLand a b = ((a &&& b : Nat) : Int) := zb_tiL (by rw [Int64.toBitVec_and, zb_bvL, zb_bvL, BitVec.ofNat_and]) h
theorem zLor_n {a b : Nat} (h : a ||| b < 9223372036854775808) : zLor a b = ((a ||| b : Nat) : Int) := zb_tiL (by rw [Int64.toBitVec_or, zb_bvL, zb_bvL, BitVec.ofNat_or]) h
theorem zb_am : ∀ k, k < 32 → ((Int32.ofInt (k : Nat) &&& 31).toBitVec.smod 32).toNat = k := by decide +kernel
theorem zb_amu : ∀ k, k < 32 → (((Int32.ofInt (k : Nat)).toUInt32 &&& Int32.toUInt32 31).toBitVec % 32).toNat = k := by decide +kernel
theorem zb_amL : ∀ k, k < 64 → (((Int32.ofInt (k : Nat)).toInt64 &&& 63).toBitVec.smod 64).toNat = k := by decide +kernel
theorem zShr_k {x : Int} {k : Nat} (hk : k < 32) (h : z_in x) : zShr x k = x / ((2 ^ k : Nat) : Int) := by
  show (Int32.ofInt x >>> (Int32.ofInt (k : Nat) &&& 31)).toBitVec.toInt = _
  rw [Int32.toBitVec_shiftRight]
  show ((Int32.ofInt x).toBitVec.sshiftRight ((Int32.ofInt (k : Nat) &&& 31).toBitVec.smod 32).toNat).toInt = _
  rw [zb_am k hk, BitVec.toInt_sshiftRight, Int.shiftRight_eq_div_pow]
  rw [show (Int32.ofInt x).toBitVec.toInt = x from z_toI h]
theorem zLshr_k {x : Int} {k : Nat} (hk : k < 64) (h : z_inL x) : zLshr x k = x / ((2 ^ k : Nat) : Int) := by
  show (Int64.ofInt x >>> ((Int32.ofInt (k : Nat)).toInt64 &&& 63)).toBitVec.toInt = _
  rw [Int64.toBitVec_shiftRight]
  show ((Int64.ofInt x).toBitVec.sshiftRight (((Int32.ofInt (k : Nat)).toInt64 &&& 63).toBitVec.smod 64).toNat).toInt = _
  rw [zb_amL k hk, BitVec.toInt_sshiftRight, Int.shiftRight_eq_div_pow]
  rw [show (Int64.ofInt x).toBitVec.toInt = x from z_toL h]
theorem zShl_n {a k : Nat} (hk : k < 32) (h : a * 2 ^ k < 2147483648) : zShl a k = ((a * 2 ^ k : Nat) : Int) := by
  refine zb_ti ?_ h
  rw [Int32.toBitVec_shiftLeft]
  show (Int32.ofInt (a : Int)).toBitVec <<< ((Int32.ofInt (k : Nat) &&& 31).toBitVec.smod 32).toNat = _
  rw [zb_am k hk, zb_bv]
  apply BitVec.eq_of_toNat_eq
  rw [BitVec.toNat_shiftLeft, BitVec.toNat_ofNat, BitVec.toNat_ofNat, Nat.shiftLeft_eq, Nat.mod_mul_mod]
theorem zLshl_n {a k : Nat} (hk : k < 64) (h : a * 2 ^ k < 9223372036854775808) : zLshl a k = ((a * 2 ^ k : Nat) : Int) := by
  refine zb_tiL ?_ h
  rw [Int64.toBitVec_shiftLeft]
  show (Int64.ofInt (a : Int)).toBitVec <<< (((Int32.ofInt (k : Nat)).toInt64 &&& 63).toBitVec.smod 64).toNat = _
  rw [zb_amL k hk, zb_bvL]
  apply BitVec.eq_of_toNat_eq
  rw [BitVec.toNat_shiftLeft, BitVec.toNat_ofNat, BitVec.toNat_ofNat, Nat.shiftLeft_eq, Nat.mod_mul_mod]
theorem zUshr_n {a k : Nat} (hk : k < 32) (h : a < 2147483648) : zUshr a k = ((a / 2 ^ k : Nat) : Int) := by
  have hle : a / 2 ^ k ≤ a := Nat.div_le_self _ _
  refine zb_ti ?_ (by omega)
  show ((Int32.ofInt (a : Int)).toUInt32 >>> ((Int32.ofInt (k : Nat)).toUInt32 &&& Int32.toUInt32 31)).toBitVec = _
  rw [UInt32.toBitVec_shiftRight]
  show (Int32.ofInt (a : Int)).toBitVec >>> (((Int32.ofInt (k : Nat)).toUInt32 &&& Int32.toUInt32 31).toBitVec % 32).toNat = _
  rw [zb_amu k hk, zb_bv]
  apply BitVec.eq_of_toNat_eq
  rw [BitVec.toNat_ushiftRight, BitVec.toNat_ofNat, BitVec.toNat_ofNat, Nat.shiftRight_eq_div_pow, Nat.mod_eq_of_lt (show a < 2 ^ 32 by omega), Nat.mod_eq_of_lt (show a / 2 ^ k < 2 ^ 32 by omega)]
theorem zUshr1 (x : Int) : 0 ≤ zUshr x 1 := by
  have hl : (Int32.ofInt x).toBitVec.toNat < 4294967296 := (Int32.ofInt x).toBitVec.isLt
  have h : zUshr x 1 = (((Int32.ofInt x).toBitVec.toNat / 2 : Nat) : Int) := by
    refine zb_ti ?_ (by omega)
    show ((Int32.ofInt x).toUInt32 >>> ((Int32.ofInt 1).toUInt32 &&& Int32.toUInt32 31)).toBitVec = _
    rw [UInt32.toBitVec_shiftRight]
    show (Int32.ofInt x).toBitVec >>> (((Int32.ofInt ((1 : Nat) : Int)).toUInt32 &&& Int32.toUInt32 31).toBitVec % 32).toNat = _
    rw [zb_amu 1 (by omega)]
    apply BitVec.eq_of_toNat_eq
    rw [BitVec.toNat_ushiftRight, BitVec.toNat_ofNat, Nat.shiftRight_eq_div_pow, Nat.mod_eq_of_lt (show (Int32.ofInt x).toBitVec.toNat / 2 < 2 ^ 32 by omega)]
  rw [h]
  omega
/-- fields of a word -/
theorem zf_and (a k w : Nat) : a &&& ((2 ^ w - 1) * 2 ^ k) = a / 2 ^ k % 2 ^ w * 2 ^ k := by
  apply Nat.eq_of_testBit_eq
  intro i
  rw [Nat.testBit_and, Nat.testBit_mul_two_pow, Nat.testBit_mul_two_pow, Nat.testBit_mod_two_pow, Nat.testBit_two_pow_sub_one, Nat.testBit_div_two_pow]
  by_cases h : k ≤ i
  · rw [show i - k + k = i by omega]
    simp [h, Bool.and_comm]
  · simp [h]
theorem zf_or {a b k : Nat} (h : b < 2 ^ k) : (a * 2 ^ k) ||| b = a * 2 ^ k + b := by
  rw [Nat.mul_comm, Nat.two_pow_add_eq_or_of_lt h]
/-- a field taken out -/
theorem zf_clr {a k w N m : Nat} (hm : m = (2 ^ w - 1) * 2 ^ k) (ha : a < 2 ^ N) (hl : m < 2 ^ N) : a &&& (2 ^ N - 1 - m) = (a / 2 ^ (k + w) * 2 ^ (k + w)) ||| a % 2 ^ k := by
  have hb : ∀ i, (2 ^ N - 1 - m).testBit i = (decide (i < N) && !m.testBit i) := fun i => by
    rw [show 2 ^ N - 1 - m = 2 ^ N - (m + 1) by omega, Nat.testBit_two_pow_sub_succ hl]
  apply Nat.eq_of_testBit_eq
  intro i
  rw [Nat.testBit_and, hb, Nat.testBit_or, Nat.testBit_mul_two_pow, Nat.testBit_div_two_pow, Nat.testBit_mod_two_pow, hm, Nat.testBit_mul_two_pow, Nat.testBit_two_pow_sub_one]
  by_cases hi : i < N
  · by_cases h1 : k + w ≤ i
    · rw [show i - (k + w) + (k + w) = i by omega]
      have e1 : ¬ i - k < w := by omega
      have e2 : ¬ i < k := by omega
      simp [hi, h1, e1, e2]
    · by_cases h2 : k ≤ i
      · have e1 : i - k < w := by omega
        have e2 : ¬ i < k := by omega
        simp [h1, h2, e1, e2]
      · have e2 : i < k := by omega
        simp [hi, h1, h2, e2]
  · have ht : a.testBit i = false := Nat.testBit_lt_two_pow (Nat.lt_of_lt_of_le ha (Nat.pow_le_pow_right (by omega) (by omega)))
    by_cases h1 : k + w ≤ i
    · rw [show i - (k + w) + (k + w) = i by omega]
      simp [ht]
    · simp [ht, h1]
theorem zf_clr' {a k w N m : Nat} (hm : m = (2 ^ w - 1) * 2 ^ k) (ha : a < 2 ^ N) (hl : m < 2 ^ N) : a &&& (2 ^ N - 1 - m) = a / 2 ^ (k + w) * 2 ^ (k + w) + a % 2 ^ k := by
  rw [zf_clr hm ha hl, zf_or]
  have h1 : a % 2 ^ k < 2 ^ k := Nat.mod_lt _ (Nat.two_pow_pos k)
  exact Nat.lt_of_lt_of_le h1 (Nat.pow_le_pow_right (by omega) (by omega))
/-- ints from nought on -/
theorem zb_nat {x : Int} (h : 0 ≤ x) : ∃ n : Nat, x = n := ⟨x.toNat, by omega⟩
theorem zAnd_m {x m p : Int} (k : Nat) (hp : ((2 ^ k : Nat) : Int) = p) (hm : m = p - 1) (h0 : 0 ≤ x) (h1 : x < 2147483648) : zAnd x m = x % p := by
  obtain ⟨n, rfl⟩ := zb_nat h0
  subst hp
  have h2 : 0 < 2 ^ k := Nat.two_pow_pos k
  obtain ⟨q, hq⟩ : ∃ q : Nat, q = 2 ^ k - 1 := ⟨_, rfl⟩
  have e : m = (q : Int) := by omega
  have e2 : n &&& q = n % 2 ^ k := by rw [hq, Nat.and_two_pow_sub_one_eq_mod]
  have hle : n % 2 ^ k ≤ n := Nat.mod_le _ _
  rw [e, zAnd_n (by rw [e2]; omega), e2]
  omega
theorem zLand_m {x m p : Int} (k : Nat) (hp : ((2 ^ k : Nat) : Int) = p) (hm : m = p - 1) (h0 : 0 ≤ x) (h1 : x < 9223372036854775808) : zLand x m = x % p := by
  obtain ⟨n, rfl⟩ := zb_nat h0
  subst hp
  have h2 : 0 < 2 ^ k := Nat.two_pow_pos k
  obtain ⟨q, hq⟩ : ∃ q : Nat, q = 2 ^ k - 1 := ⟨_, rfl⟩
  have e : m = (q : Int) := by omega
  have e2 : n &&& q = n % 2 ^ k := by rw [hq, Nat.and_two_pow_sub_one_eq_mod]
  have hle : n % 2 ^ k ≤ n := Nat.mod_le _ _
  rw [e, zLand_n (by rw [e2]; omega), e2]
  omega
theorem zf_div {a k : Nat} (h : a % 2 ^ k = 0) : a = a / 2 ^ k * 2 ^ k := by
  have := Nat.div_add_mod a (2 ^ k)
  rw [h, Nat.mul_comm] at this
  omega
theorem zOr_p {x y p : Int} (k : Nat) (hp : ((2 ^ k : Nat) : Int) = p) (h0 : 0 ≤ x) (hx : x % p = 0) (hy0 : 0 ≤ y) (hy : y < p) (h1 : x + y < 2147483648) : zOr x y = x + y := by
  obtain ⟨a, rfl⟩ := zb_nat h0
  obtain ⟨b, rfl⟩ := zb_nat hy0
  subst hp
  have e : a ||| b = a + b := by
    have h3 := zf_div (a := a) (k := k) (by omega)
    rw [h3, zf_or (by omega)]
  rw [zOr_n (by rw [e]; omega), e]
  omega
theorem zOr_q {x y p : Int} (k : Nat) (hp : ((2 ^ k : Nat) : Int) = p) (h0 : 0 ≤ x) (hx : x % p = 0) (hy0 : 0 ≤ y) (hy : y < p) (h1 : y + x < 2147483648) : zOr y x = y + x := by
  have h := zOr_p k hp h0 hx hy0 hy (by omega)
  have hc : zOr y x = zOr x y := by unfold zOr; rw [Int32.or_comm]
  rw [hc, h]
  omega
theorem zLor_p {x y p : Int} (k : Nat) (hp : ((2 ^ k : Nat) : Int) = p) (h0 : 0 ≤ x) (hx : x % p = 0) (hy0 : 0 ≤ y) (hy : y < p) (h1 : x + y < 9223372036854775808) : zLor x y = x + y := by
  obtain ⟨a, rfl⟩ := zb_nat h0
  obtain ⟨b, rfl⟩ := zb_nat hy0
  subst hp
  have e : a ||| b = a + b := by
    have h3 := zf_div (a := a) (k := k) (by omega)
    rw [h3, zf_or (by omega)]
  rw [zLor_n (by rw [e]; omega), e]
  omega
theorem zShl_p {x p : Int} (k : Nat) (hk : k < 32) (hp : ((2 ^ k : Nat) : Int) = p) (h0 : 0 ≤ x) (h1 : x * p < 2147483648) : zShl x k = x * p := by
  obtain ⟨a, rfl⟩ := zb_nat h0
  subst hp
  have h2 : ((a * 2 ^ k : Nat) : Int) < 2147483648 := by rw [Int.natCast_mul]; exact h1
  rw [zShl_n hk (by omega), Int.natCast_mul]
theorem zLshl_p {x p : Int} (k : Nat) (hk : k < 64) (hp : ((2 ^ k : Nat) : Int) = p) (h0 : 0 ≤ x) (h1 : x * p < 9223372036854775808) : zLshl x k = x * p := by
  obtain ⟨a, rfl⟩ := zb_nat h0
  subst hp
  have h2 : ((a * 2 ^ k : Nat) : Int) < 9223372036854775808 := by rw [Int.natCast_mul]; exact h1
  rw [zLshl_n hk (by omega), Int.natCast_mul]
theorem zShr_p {x p : Int} (k : Nat) (hk : k < 32) (hp : ((2 ^ k : Nat) : Int) = p) (h : z_in x) : zShr x k = x / p := by rw [zShr_k hk h, hp]
theorem zLshr_p {x p : Int} (k : Nat) (hk : k < 64) (hp : ((2 ^ k : Nat) : Int) = p) (h : z_inL x) : zLshr x k = x / p := by rw [zLshr_k hk h, hp]
theorem zUshr16 {x : Int} (h0 : 0 ≤ x) (h1 : x < 2147483648) : zUshr x 16 = x / 65536 := by
  obtain ⟨a, rfl⟩ := zb_nat h0
  have h := zUshr_n (a := a) (k := 16) (by omega) (by omega)
  rw [show ((16 : Nat) : Int) = 16 from rfl] at h
  rw [h]
  omega
/-- one bit -/
theorem zAnd_b {x p : Int} (k : Nat) (hp : ((2 ^ k : Nat) : Int) = p) (h0 : 0 ≤ x) (h1 : x < 2147483648) : zAnd x p = x / p % 2 * p := by
  obtain ⟨n, rfl⟩ := zb_nat h0
  subst hp
  have e := zf_and n k 1
  rw [show (2 ^ 1 - 1) * 2 ^ k = 2 ^ k by simp] at e
  have hle : n &&& 2 ^ k ≤ n := Nat.and_le_left
  rw [zAnd_n (by omega), e, Int.natCast_mul, Int.natCast_emod, Int.natCast_ediv]
  rfl
theorem zb_neg32 {c : Nat} (h : c < 4294967296) : (Int32.ofInt (-(c : Int) - 1)).toBitVec = BitVec.ofNat 32 (2 ^ 32 - 1 - c) := by
  rw [Int32.toBitVec_ofInt]
  apply BitVec.eq_of_toNat_eq
  rw [BitVec.toNat_ofInt, BitVec.toNat_ofNat]
  omega
theorem zb_neg64 {c : Nat} (h : c < 18446744073709551616) : (Int64.ofInt (-(c : Int) - 1)).toBitVec = BitVec.ofNat 64 (2 ^ 64 - 1 - c) := by
  rw [Int64.toBitVec_ofInt]
  apply BitVec.eq_of_toNat_eq
  rw [BitVec.toNat_ofInt, BitVec.toNat_ofNat]
  omega
/-- a field taken out of an int -/
theorem zAnd_c {x c : Int} (k w m p q : Nat) (hm : m = (2 ^ w - 1) * 2 ^ k) (hc : c = -(m : Int) - 1) (hl : m < 4294967296) (hp : 2 ^ k = p) (hq : 2 ^ (k + w) = q) (h0 : 0 ≤ x) (h1 : x < 2147483648) : zAnd x c = x / q * q + x % p := by
  obtain ⟨n, rfl⟩ := zb_nat h0
  subst hc
  have e := zf_clr' (a := n) (N := 32) hm (by omega) hl
  have hle : n &&& (2 ^ 32 - 1 - m) ≤ n := Nat.and_le_left
  have h2 : zAnd n (-(m : Int) - 1) = ((n &&& (2 ^ 32 - 1 - m) : Nat) : Int) := zb_ti (by rw [Int32.toBitVec_and, zb_bv, zb_neg32 hl, BitVec.ofNat_and]) (by omega)
  rw [h2, e, hp, hq, Int.natCast_add, Int.natCast_mul, Int.natCast_emod, Int.natCast_ediv]
/-! the rows of three bits: digit i of t -/
def zdig (t i : Int) : Int := zLand (zLshr t (3 * i)) 7
/-- t with e as digit i -/
def zput (t i e : Int) : Int := zLor (zLand t (zLxor (zLshl 7 (3 * i)) (-1))) (zLshl e (3 * i))
def zputN (t i e : Nat) : Nat := ((t / 2 ^ (3 * i + 3) * 2 ^ (3 * i + 3)) ||| t % 2 ^ (3 * i)) ||| e * 2 ^ (3 * i)
theorem zdig_n {t i : Nat} (ht : t < 68719476736) (hi : i < 12) : zdig t i = ((t / 2 ^ (3 * i) % 2 ^ 3 : Nat) : Int) := by
  unfold zdig
  have e3 : (3 : Int) * (i : Int) = ((3 * i : Nat) : Int) := by omega
  have hle : t / 2 ^ (3 * i) ≤ t := Nat.div_le_self _ _
  rw [e3, zLshr_k (k := 3 * i) (by omega) ⟨by omega, by omega⟩]
  rw [← Int.natCast_ediv]
  have h := zLand_n (a := t / 2 ^ (3 * i)) (b := 7) (by have := Nat.and_le_left (n := t / 2 ^ (3 * i)) (m := 7); omega)
  rw [show ((7 : Nat) : Int) = 7 from rfl] at h
  rw [h]
  congr 1
  exact Nat.and_two_pow_sub_one_eq_mod _ 3
theorem zputN_bit (t i e b : Nat) : (zputN t i e).testBit b = ((decide (3 * i + 3 ≤ b) && t.testBit b) || (decide (b < 3 * i) && t.testBit b) || (decide (3 * i ≤ b) && e.testBit (b - 3 * i))) := by
  unfold zputN
  rw [Nat.testBit_or, Nat.testBit_or, Nat.testBit_mul_two_pow, Nat.testBit_div_two_pow, Nat.testBit_mod_two_pow, Nat.testBit_mul_two_pow]
  by_cases h : 3 * i + 3 ≤ b
  · rw [show b - (3 * i + 3) + (3 * i + 3) = b by omega]
  · simp [h]
theorem zputN_lt {t i e : Nat} (ht : t < 2 ^ 36) (hi : i < 12) (he : e < 2 ^ 3) : zputN t i e < 2 ^ 36 := by
  apply Nat.lt_pow_two_of_testBit
  intro b hb
  have h1 : t.testBit b = false := Nat.testBit_lt_two_pow (Nat.lt_of_lt_of_le ht (Nat.pow_le_pow_right (by omega) hb))
  have h2 : e.testBit (b - 3 * i) = false := Nat.testBit_lt_two_pow (Nat.lt_of_lt_of_le he (Nat.pow_le_pow_right (by omega) (by omega)))
  rw [zputN_bit, h1, h2]
  simp
theorem zput_n {t i e : Nat} (ht : t < 2 ^ 36) (hi : i < 12) (he : e < 2 ^ 3) : zput t i e = (zputN t i e : Int) := by
  unfold zput
  have e3 : (3 : Int) * (i : Int) = ((3 * i : Nat) : Int) := by omega
  have hp : 2 ^ (3 * i) ≤ 2 ^ 33 := Nat.pow_le_pow_right (by omega) (by omega)
  have hp0 : 0 < 2 ^ (3 * i) := Nat.two_pow_pos _
  have hlt := zputN_lt ht hi he
  have m7 : zLshl 7 ((3 * i : Nat) : Int) = ((7 * 2 ^ (3 * i) : Nat) : Int) := zLshl_n (a := 7) (by omega) (by omega)
  have me : zLshl e ((3 * i : Nat) : Int) = ((e * 2 ^ (3 * i) : Nat) : Int) := zLshl_n (a := e) (by omega) (by
    have : e * 2 ^ (3 * i) ≤ 7 * 2 ^ 33 := Nat.mul_le_mul (by omega) hp
    omega)
  rw [e3, m7, me]
  obtain ⟨m, hm⟩ : ∃ m, m = 7 * 2 ^ (3 * i) := ⟨_, rfl⟩
  rw [← hm]
  have hx : (Int64.ofInt (zLxor m (-1))).toBitVec = BitVec.ofNat 64 (2 ^ 64 - 1 - m) := by
    have h1 : Int64.ofInt (zLxor m (-1)) = Int64.ofInt m ^^^ Int64.ofInt (-1) := Int64.ofInt_toInt _
    rw [h1, Int64.toBitVec_xor, zb_bvL]
    show BitVec.ofNat 64 m ^^^ BitVec.allOnes 64 = _
    rw [BitVec.xor_allOnes]
    apply BitVec.eq_of_toNat_eq
    rw [BitVec.toNat_not, BitVec.toNat_ofNat, BitVec.toNat_ofNat]
    omega
  have hand : Int64.ofInt (zLand t (zLxor m (-1))) = Int64.ofInt ((t &&& (2 ^ 64 - 1 - m) : Nat) : Int) := by
    have h1 : Int64.ofInt (zLand t (zLxor m (-1))) = Int64.ofInt t &&& Int64.ofInt (zLxor m (-1)) := Int64.ofInt_toInt _
    rw [h1]
    apply Int64.toBitVec_inj.mp
    rw [Int64.toBitVec_and, hx, zb_bvL, zb_bvL, BitVec.ofNat_and]
  have hc := zf_clr (a := t) (k := 3 * i) (w := 3) (N := 64) (m := m) hm (by omega) (by omega)
  unfold zLor
  rw [hand, hc]
  refine zb_tiL ?_ (by omega)
  rw [Int64.toBitVec_or, zb_bvL, zb_bvL, ← BitVec.ofNat_or]
  rfl
theorem zputN_dig {t i e j : Nat} (he : e < 2 ^ 3) : zputN t i e / 2 ^ (3 * j) % 2 ^ 3 = if j = i then e else t / 2 ^ (3 * j) % 2 ^ 3 := by
  apply Nat.eq_of_testBit_eq
  intro b
  rw [Nat.testBit_mod_two_pow, Nat.testBit_div_two_pow, zputN_bit]
  by_cases hj : j = i
  · subst hj
    rw [if_pos rfl, show b + 3 * j - 3 * j = b by omega]
    by_cases hb : b < 3
    · have h1 : ¬ 3 * j + 3 ≤ b + 3 * j := by omega
      have h2 : ¬ b + 3 * j < 3 * j := by omega
      simp [hb, h1, h2]
    · have h2 : e.testBit b = false := Nat.testBit_lt_two_pow (Nat.lt_of_lt_of_le he (Nat.pow_le_pow_right (by omega) (by omega)))
      rw [h2]
      simp [hb]
  · rw [if_neg hj, Nat.testBit_mod_two_pow, Nat.testBit_div_two_pow]
    by_cases hb : b < 3
    · by_cases hl : j < i
      · have h1 : ¬ 3 * i + 3 ≤ b + 3 * j := by omega
        have h2 : b + 3 * j < 3 * i := by omega
        have h3 : ¬ 3 * i ≤ b + 3 * j := by omega
        simp [hb, h1, h2, h3]
      · have h1 : 3 * i + 3 ≤ b + 3 * j := by omega
        have h2 : ¬ b + 3 * j < 3 * i := by omega
        have h4 : e.testBit (b + 3 * j - 3 * i) = false := Nat.testBit_lt_two_pow (Nat.lt_of_lt_of_le he (Nat.pow_le_pow_right (by omega) (by omega)))
        simp [hb, h1, h2, h4]
    · simp [hb]
theorem zput_rng {t i e : Int} (ht : 0 ≤ t ∧ t < 68719476736) (hi : 0 ≤ i ∧ i < 12) (he : 0 ≤ e ∧ e < 8) : 0 ≤ zput t i e ∧ zput t i e < 68719476736 := by
  obtain ⟨a, rfl⟩ := zb_nat ht.1
  obtain ⟨b, rfl⟩ := zb_nat hi.1
  obtain ⟨c, rfl⟩ := zb_nat he.1
  have h := zputN_lt (t := a) (i := b) (e := c) (by omega) (by omega) (by omega)
  rw [zput_n (by omega) (by omega) (by omega)]
  omega
theorem zput_dig {t i e j : Int} (ht : 0 ≤ t ∧ t < 68719476736) (hi : 0 ≤ i ∧ i < 12) (he : 0 ≤ e ∧ e < 8) (hj : 0 ≤ j ∧ j < 12) : zdig (zput t i e) j = if j = i then e else zdig t j := by
  obtain ⟨a, rfl⟩ := zb_nat ht.1
  obtain ⟨b, rfl⟩ := zb_nat hi.1
  obtain ⟨c, rfl⟩ := zb_nat he.1
  obtain ⟨d, rfl⟩ := zb_nat hj.1
  have h := zputN_lt (t := a) (i := b) (e := c) (by omega) (by omega) (by omega)
  rw [zput_n (by omega) (by omega) (by omega), zdig_n (by omega) (by omega), zdig_n (by omega) (by omega), zputN_dig (by omega)]
  by_cases hh : d = b
  · rw [if_pos hh, if_pos (by omega)]
  · rw [if_neg hh, if_neg (by omega)]
theorem zdig_rng {t i : Int} (ht : 0 ≤ t ∧ t < 68719476736) (hi : 0 ≤ i ∧ i < 12) : 0 ≤ zdig t i ∧ zdig t i < 8 := by
  obtain ⟨a, rfl⟩ := zb_nat ht.1
  obtain ⟨b, rfl⟩ := zb_nat hi.1
  rw [zdig_n (by omega) (by omega)]
  omega
/-! sets of firms -/
def zpop (s : Nat) : Nat := s % 2 + s / 2 % 2 + s / 4 % 2 + s / 8 % 2 + s / 16 % 2 + s / 32 % 2
theorem zseen : ∀ s, s < 64 → ∀ n, n < 6 → (zAnd (zShr (s : Nat) (n : Nat)) 1 = 0 ∨ zAnd (zShr (s : Nat) (n : Nat)) 1 = 1) ∧ (zAnd (zShr (s : Nat) (n : Nat)) 1 = ((s / 2 ^ n % 2 : Nat) : Int)) := by decide +kernel
theorem zseen2 : ∀ s, s < 64 → ∀ n, n < 6 → s / 2 ^ n % 2 = 0 → (zOr (s : Nat) (zShl 1 (n : Nat)) = ((s + 2 ^ n : Nat) : Int) ∧ s + 2 ^ n < 64 ∧ zpop (s + 2 ^ n) = zpop s + 1) ∧ ∀ m, m < 6 → (s + 2 ^ n) / 2 ^ m % 2 = if m = n then 1 else s / 2 ^ m % 2 := by decide +kernel
theorem zseen1 : ∀ n, n < 6 → zShl 1 (n : Nat) = ((2 ^ n : Nat) : Int) ∧ 2 ^ n < 64 ∧ zpop (2 ^ n) = 1 ∧ ∀ m, m < 6 → 2 ^ n / 2 ^ m % 2 = if m = n then 1 else 0 := by decide +kernel
theorem zpop6 : ∀ s, s < 64 → zpop s ≤ 6 := by decide +kernel
end
section
/-! ===== RULES: bits, longs, what two instructions of a loop need ===== -/
section
variable {M : zM} {F : zF} {u pc q : Nat} {al : List (Option zV)} {st : List zV} {S : zS}
theorem g_iandv {x y z : Int} (hd : decode (m_c M) pc = .ok (.iand, 1)) (hq : pc + 1 = q) (hv : zAnd x y = z) (k : z_G M F u q al (zI z :: st) S) : z_G M F u pc al (zI y :: zI x :: st) S := by
  intro E p l e R s m args below meth c C H locs ls hW hS hL hst
  subst hq
  have e1 : Int32.ofInt x &&& Int32.ofInt y = Int32.ofInt z := by rw [← hv]; exact (z_as _).symm
  refine lv_iand C.1 C.2.1 hd ?_
  rw [e1]
  exact k E p l e R s m args below meth c C H locs ls hW hS hL (z_cons (by rw [← hv]; exact z_rng _) (z_tail (z_tail hst)))
theorem g_iorv {x y z : Int} (hd : decode (m_c M) pc = .ok (.ior, 1)) (hq : pc + 1 = q) (hv : zOr x y = z) (k : z_G M F u q al (zI z :: st) S) : z_G M F u pc al (zI y :: zI x :: st) S := by
  intro E p l e R s m args below meth c C H locs ls hW hS hL hst
  subst hq
  have e1 : Int32.ofInt x ||| Int32.ofInt y = Int32.ofInt z := by rw [← hv]; exact (z_as _).symm
  refine lv_ior C.1 C.2.1 hd ?_
  rw [e1]
  exact k E p l e R s m args below meth c C H locs ls hW hS hL (z_cons (by rw [← hv]; exact z_rng _) (z_tail (z_tail hst)))
theorem g_ixorv {x y z : Int} (hd : decode (m_c M) pc = .ok (.ixor, 1)) (hq : pc + 1 = q) (hv : zXor x y = z) (k : z_G M F u q al (zI z :: st) S) : z_G M F u pc al (zI y :: zI x :: st) S := by
  intro E p l e R s m args below meth c C H locs ls hW hS hL hst
  subst hq
  have e1 : Int32.ofInt x ^^^ Int32.ofInt y = Int32.ofInt z := by rw [← hv]; exact (z_as _).symm
  refine lv_ixor C.1 C.2.1 hd ?_
  rw [e1]
  exact k E p l e R s m args below meth c C H locs ls hW hS hL (z_cons (by rw [← hv]; exact z_rng _) (z_tail (z_tail hst)))
theorem g_ishlv {x y z : Int} (hd : decode (m_c M) pc = .ok (.ishl, 1)) (hq : pc + 1 = q) (hv : zShl x y = z) (k : z_G M F u q al (zI z :: st) S) : z_G M F u pc al (zI y :: zI x :: st) S := by
  intro E p l e R s m args below meth c C H locs ls hW hS hL hst
  subst hq
  have e1 : Int32.ofInt x <<< (Int32.ofInt y &&& 31) = Int32.ofInt z := by rw [← hv]; exact (z_as _).symm
  refine lv_ishl C.1 C.2.1 hd ?_
  rw [e1]
  exact k E p l e R s m args below meth c C H locs ls hW hS hL (z_cons (by rw [← hv]; exact z_rng _) (z_tail (z_tail hst)))
theorem g_ishrv {x y z : Int} (hd : decode (m_c M) pc = .ok (.ishr, 1)) (hq : pc + 1 = q) (hv : zShr x y = z) (k : z_G M F u q al (zI z :: st) S) : z_G M F u pc al (zI y :: zI x :: st) S := by
  intro E p l e R s m args below meth c C H locs ls hW hS hL hst
  subst hq
  have e1 : Int32.ofInt x >>> (Int32.ofInt y &&& 31) = Int32.ofInt z := by rw [← hv]; exact (z_as _).symm
  refine lv_ishr C.1 C.2.1 hd ?_
  rw [e1]
  exact k E p l e R s m args below meth c C H locs ls hW hS hL (z_cons (by rw [← hv]; exact z_rng _) (z_tail (z_tail hst)))
theorem g_iushrv {x y z : Int} (hd : decode (m_c M) pc = .ok (.iushr, 1)) (hq : pc + 1 = q) (hv : zUshr x y = z) (k : z_G M F u q al (zI z :: st) S) : z_G M F u pc al (zI y :: zI x :: st) S := by
  intro E p l e R s m args below meth c C H locs ls hW hS hL hst
  subst hq
  refine lv_iushr (v := Int32.ofInt z) C.1 C.2.1 hd (by rw [← hv]; exact (z_as _).symm) ?_
  exact k E p l e R s m args below meth c C H locs ls hW hS hL (z_cons (by rw [← hv]; exact z_rng _) (z_tail (z_tail hst)))
theorem g_landv {x y z : Int} (hd : decode (m_c M) pc = .ok (.land, 1)) (hq : pc + 1 = q) (hv : zLand x y = z) (k : z_G M F u q al (zL z :: st) S) : z_G M F u pc al (zL y :: zL x :: st) S := by
  intro E p l e R s m args below meth c C H locs ls hW hS hL hst
  subst hq
  have e1 : Int64.ofInt x &&& Int64.ofInt y = Int64.ofInt z := by rw [← hv]; exact (Int64.ofInt_toInt _).symm
  refine lv_land C.1 C.2.1 hd ?_
  rw [e1]
  exact k E p l e R s m args below meth c C H locs ls hW hS hL (z_cons (by rw [← hv]; exact z_rngL _) (z_tail (z_tail hst)))
theorem g_lorv {x y z : Int} (hd : decode (m_c M) pc = .ok (.lor, 1)) (hq : pc + 1 = q) (hv : zLor x y = z) (k : z_G M F u q al (zL z :: st) S) : z_G M F u pc al (zL y :: zL x :: st) S := by
  intro E p l e R s m args below meth c C H locs ls hW hS hL hst
  subst hq
  have e1 : Int64.ofInt x ||| Int64.ofInt y = Int64.ofInt z := by rw [← hv]; exact (Int64.ofInt_toInt _).symm
  refine lv_lor C.1 C.2.1 hd ?_
  rw [e1]
  exact k E p l e R s m args below meth c C H locs ls hW hS hL (z_cons (by rw [← hv]; exact z_rngL _) (z_tail (z_tail hst)))
theorem g_lxorv {x y z : Int} (hd : decode (m_c M) pc = .ok (.lxor, 1)) (hq : pc + 1 = q) (hv : zLxor x y = z) (k : z_G M F u q al (zL z :: st) S) : z_G M F u pc al (zL y :: zL x :: st) S := by
  intro E p l e R s m args below meth c C H locs ls hW hS hL hst
  subst hq
  have e1 : Int64.ofInt x ^^^ Int64.ofInt y = Int64.ofInt z := by rw [← hv]; exact (Int64.ofInt_toInt _).symm
  refine lv_lxor C.1 C.2.1 hd ?_
  rw [e1]
  exact k E p l e R s m args below meth c C H locs ls hW hS hL (z_cons (by rw [← hv]; exact z_rngL _) (z_tail (z_tail hst)))
theorem g_laddv {x y z : Int} (hd : decode (m_c M) pc = .ok (.ladd, 1)) (hq : pc + 1 = q) (hv : x + y = z) (hz : z_inL z) (k : z_G M F u q al (zL z :: st) S) : z_G M F u pc al (zL y :: zL x :: st) S := by
  intro E p l e R s m args below meth c C H locs ls hW hS hL hst
  subst hq
  refine lv_ladd C.1 C.2.1 hd ?_
  rw [← Int64.ofInt_add, hv]
  exact k E p l e R s m args below meth c C H locs ls hW hS hL (z_cons hz (z_tail (z_tail hst)))
theorem g_lshlv {x y z : Int} (hd : decode (m_c M) pc = .ok (.lshl, 1)) (hq : pc + 1 = q) (hv : zLshl x y = z) (k : z_G M F u q al (zL z :: st) S) : z_G M F u pc al (zI y :: zL x :: st) S := by
  intro E p l e R s m args below meth c C H locs ls hW hS hL hst
  subst hq
  refine lv_lshl (v := Int64.ofInt z) C.1 C.2.1 hd (by rw [← hv]; exact (Int64.ofInt_toInt _).symm) ?_
  exact k E p l e R s m args below meth c C H locs ls hW hS hL (z_cons (by rw [← hv]; exact z_rngL _) (z_tail (z_tail hst)))
theorem g_lshrv {x y z : Int} (hd : decode (m_c M) pc = .ok (.lshr, 1)) (hq : pc + 1 = q) (hv : zLshr x y = z) (k : z_G M F u q al (zL z :: st) S) : z_G M F u pc al (zI y :: zL x :: st) S := by
  intro E p l e R s m args below meth c C H locs ls hW hS hL hst
  subst hq
  refine lv_lshr (v := Int64.ofInt z) C.1 C.2.1 hd (by rw [← hv]; exact (Int64.ofInt_toInt _).symm) ?_
  exact k E p l e R s m args below meth c C H locs ls hW hS hL (z_cons (by rw [← hv]; exact z_rngL _) (z_tail (z_tail hst)))
theorem g_l2iv {x z : Int} (hd : decode (m_c M) pc = .ok (.l2i, 1)) (hq : pc + 1 = q) (hv : x = z) (hz : z_in z) (k : z_G M F u q al (zI z :: st) S) : z_G M F u pc al (zL x :: st) S := by
  intro E p l e R s m args below meth c C H locs ls hW hS hL hst
  subst hq
  subst hv
  refine lv_l2i (v := Int32.ofInt x) C.1 C.2.1 hd Int64.toInt32_ofInt ?_
  exact k E p l e R s m args below meth c C H locs ls hW hS hL (z_cons hz (z_tail hst))
theorem g_ldc {ix : Nat} {z : Int} (hd : decode (m_c M) pc = .ok (.ldc ix, 2)) (hq : pc + 2 = q) (hw : Cond.constant (m_y M).cls ix (Int32.ofInt z) ∈ z_big) (hz : z_in z) (k : z_G M F u q al (zI z :: st) S) : z_G M F u pc al st S := by
  intro E p l e R s m args below meth c C H locs ls hW hS hL hst
  subst hq
  refine lv_ldc (v := Int32.ofInt z) C.1 C.2.1 C.2.2.2.2.1 (C.2.2.2.2.2.1 _ hw) hd ?_
  exact k E p l e R s m args below meth c C H locs ls hW hS hL (z_cons hz hst)
theorem g_ldc2 {ix : Nat} {z : Int} (hd : decode (m_c M) pc = .ok (.ldc2_w ix, 3)) (hq : pc + 3 = q) (hw : Cond.constantLong (m_y M).cls ix (Int64.ofInt z) ∈ z_big) (hz : z_inL z) (k : z_G M F u q al (zL z :: st) S) : z_G M F u pc al st S := by
  intro E p l e R s m args below meth c C H locs ls hW hS hL hst
  subst hq
  refine lv_ldc2 (v := Int64.ofInt z) C.1 C.2.1 C.2.2.2.2.1 (C.2.2.2.2.2.1 _ hw) hd ?_
  exact k E p l e R s m args below meth c C H locs ls hW hS hL (z_cons hz hst)
theorem g_lload {i : Nat} {z : Int} (hd : decode (m_c M) pc = .ok (.lload i, 2)) (hq : pc + 2 = q) (hl : al[i]? = some (some (zL z))) (k : z_G M F u q al (zL z :: st) S) : z_G M F u pc al st S := by
  intro E p l e R s m args below meth c C H locs ls hW hS hL hst
  subst hq
  have h1 := hL.2.2.2 _ _ hl
  refine lv_lload C.1 C.2.1 hd h1.1 ?_
  exact k E p l e R s m args below meth c C H locs ls hW hS hL (z_cons h1.2.2 hst)
theorem g_lstore {i : Nat} {z : Int} (hd : decode (m_c M) pc = .ok (.lstore i, 2)) (hq : pc + 2 = q) (hn : i + 1 < m_l M) (hi : i ∈ m_w M) (k : z_G M F u q ((al.set (i + 1) none).set i (some (zL z))) st S) (hw : z_nwb (m_w M) al i = true := by rfl) : z_G M F u pc al (zL z :: st) S := by
  intro E p l e R s m args below meth c C H locs ls hW hS hL hst
  subst hq
  refine lv_lstore C.1 C.2.1 hd hL.has hn rfl (fun ls' hl' => ?_)
  exact k E p l e R s m args below meth c C H locs ls' hW hS (hL.putL hw hi (z_top hst) hl') (z_tail hst)
theorem g_dup_x2 {v w x : zV} (hd : decode (m_c M) pc = .ok (.dup_x2, 1)) (hq : pc + 1 = q) (hv : z_nl v) (hw : z_nl w) (hx : z_nl x) (k : z_G M F u q al (v :: w :: x :: v :: st) S) : z_G M F u pc al (v :: w :: x :: st) S := by
  intro E p l e R s m args below meth c C H locs ls hW hS hL hst
  subst hq
  refine lv_dup_x2 C.1 C.2.1 hd (z_cat hv) (z_cat hw) (z_cat hx) ?_
  exact k E p l e R s m args below meth c C H locs ls hW hS hL (z_cons (z_top hst) (z_cons (z_top (z_tail hst)) (z_cons (z_top (z_tail (z_tail hst))) (z_cons (z_top hst) (z_tail (z_tail (z_tail hst)))))))
theorem g_lcmpv {x y z : Int} (hd : decode (m_c M) pc = .ok (.lcmp, 1)) (hq : pc + 1 = q) (hv : (y < x ∧ z = 1) ∨ (x = y ∧ z = 0) ∨ (x < y ∧ z = -1)) (k : z_G M F u q al (zI z :: st) S) : z_G M F u pc al (zL y :: zL x :: st) S := by
  intro E p l e R s m args below meth c C H locs ls hW hS hL hst
  subst hq
  have hy : z_inL y := z_top hst
  have hx : z_inL x := z_top (z_tail hst)
  refine W.lcmp C.1 C.2.1 hd ?_
  have e0 : (Int64.ofInt x = Int64.ofInt y) ↔ x = y := by rw [← Int64.toInt_inj, z_toL hx, z_toL hy]
  have e1 : (Int64.ofInt y < Int64.ofInt x) ↔ y < x := by rw [Int64.lt_iff_toInt_lt, z_toL hx, z_toL hy]
  have hz : lg_cmp (Int64.ofInt x) (Int64.ofInt y) = Int32.ofInt z := by
    unfold lg_cmp
    rcases hv with ⟨h, rfl⟩ | ⟨h, rfl⟩ | ⟨h, rfl⟩
    · rw [if_pos (e1.mpr h)]
      rfl
    · rw [if_neg (fun q => by have := e1.mp q; omega), if_pos (e0.mpr h)]
      rfl
    · rw [if_neg (fun q => by have := e1.mp q; omega), if_neg (fun q => by have := e0.mp q; omega)]
      rfl
  rw [hz]
  exact k E p l e R s m args below meth c C H locs ls hW hS hL (z_cons (by constructor <;> omega) (z_tail (z_tail hst)))
theorem g_imulw {x y : Int} (hd : decode (m_c M) pc = .ok (.imul, 1)) (hq : pc + 1 = q) (k : ∀ z, z_in z → z_G M F u q al (zI z :: st) S) : z_G M F u pc al (zI y :: zI x :: st) S := by
  intro E p l e R s m args below meth c C H locs ls hW hS hL hst
  subst hq
  refine lv_imul C.1 C.2.1 hd ?_
  rw [z_mul]
  have e1 : Int32.ofInt (x * y) = Int32.ofInt (Int32.ofInt (x * y)).toInt := (z_as _).symm
  rw [e1]
  exact k _ (z_rng _) E p l e R s m args below meth c C H locs ls hW hS hL (z_cons (z_rng _) (z_tail (z_tail hst)))
/-- an element of the script, or what stands for it -/
theorem g_scr {i : Int} {pc1 pc2 pc3 pc4 t : Nat} {off : Int} (h0 : 0 ≤ i) (hi : i < 100000) (hl0 : al[0]? = some (some (zR 49))) (hl1 : al[1]? = some (some (zI i)))
    (hd : decode (m_c M) pc = .ok (.arraylength, 1)) (h1 : pc + 1 = pc1) (hd1 : decode (m_c M) pc1 = .ok (.if_icmp .ge off, 3)) (ht : (pc1 : Int) + off = (t : Int)) (h2 : pc1 + 3 = pc2)
    (hd2 : decode (m_c M) pc2 = .ok (.aload_n 0, 1)) (h3 : pc2 + 1 = pc3) (hd3 : decode (m_c M) pc3 = .ok (.iload_n 1, 1)) (h4 : pc3 + 1 = pc4) (hd4 : decode (m_c M) pc4 = .ok (.iaload, 1)) (hq : pc4 + 1 = q)
    (kt : z_G M F u t al st S) (kf : ∀ v, z_in v → z_G M F u q al (zI v :: st) S) : z_G M F u pc al (zR 49 :: zI i :: st) S := by
  intro E p l e R s m args below meth c C H locs ls hW hS hL hst
  subst h1 h2 h3 h4 hq
  have ho : z_in i := z_top (z_tail hst)
  have hb : e_ad E 49 < s.heap.size := by have := hW.2.2.2.2.1; have := C.2.2.2.2.2.2.2.2.2.2.1; omega
  have hA : ¬ z_A E (e_ad E 49) := by have := hW.2.2.2.2.1.2.1; unfold z_A; omega
  have hL0 : z_in (e_L E : Int) := by have := hW.2.2.2.2.1.2.2.1; constructor <;> omega
  refine va_slen C.1 C.2.1 C.2.2.2.2.2.2.2.2.2.2.2.2.2.2 hb hA hS hd ?_
  rw [show Int32.ofNat (e_L E) = Int32.ofInt (e_L E : Int) from (Int32.ofInt_eq_ofNat (n := e_L E)).symm]
  refine lv_icmp_ge (tgt := t) C.1 C.2.1 hd1 ht (fun h => ?_) (fun h => ?_)
  · exact kt E p l e R s m args below meth c C H locs ls hW hS hL (z_tail (z_tail hst))
  · have hlt : i < e_L E := by
      simp only [ge_iff_le, z_le hL0 ho] at h
      omega
    refine lv_aload_n (i := 0) C.1 C.2.1 hd2 rfl (hL.2.2.2 _ _ hl0).1 ?_
    refine lv_iload_n (i := 1) C.1 C.2.1 hd3 rfl (hL.2.2.2 _ _ hl1).1 ?_
    refine va_sld C.1 C.2.1 C.2.2.2.2.2.2.2.2.2.2.2.2.2.2 hb hA hS (z_vin ho h0 hlt) hd4 ?_
    rw [z_clamp ho]
    exact kf (e_xs E i.toNat) (hW.2.2.2.2.1.2.2.2 _) E p l e R s m args below meth c C H locs ls hW hS hL (z_cons (hW.2.2.2.2.1.2.2.2 _) (z_tail (z_tail hst)))
end
theorem z_G.widen {M : zM} {F : zF} {u u' pc : Nat} {al : List (Option zV)} {st : List zV} {S : zS} (h : u ≤ u') (k : z_G M F u' pc al st S) : z_G M F u pc al st S := by
  intro E p l e R s m args below meth c C H locs ls hW hS hL hst
  exact W.widen (by omega) (by omega) (k E p l e R s m args below meth c C H locs ls hW hS hL hst)
end
