/-! ===== the kit's static call of a nest mate's method that may throw (pasted from kit/laws) ===== -/
section
variable {p : Program} {l : Launch} {e : Env} {R : Room} {s : State} {m : MethodId} {args : Array Value} {below : List Frame} {meth : Method} {c : Code} {T : State} {locs : List Loc} {cells slots : Nat}
theorem vx_callSN (X : Stand p l e R s m args below meth c T locs cells slots) (hexec : p.tables.exec = Jvm.exec) {own : String} {index : Nat} {host : String} {y : MethodName} {bytes : ByteArray} {maxL : Nat} {ret : Option FieldType}
    (hown : s.vm.findClass own = some m.cls) (hlink : (Cond.methodLinkNest own index y host).before args s = true) (hstat : (Cond.static y).before args s = true) (hinit : (Cond.initialized y.cls).before args s = true)
    (hcode : (Cond.code y bytes maxL ret).before args s = true) (hy : y.cls ≠ "java/lang/invoke/MethodHandle" ∧ y.cls ≠ "java/lang/invoke/VarHandle")
    {W : Nat} {Pre : Pt → Array Value → Prop} {Post : Pt → Array Value → Option Value → Pt → Prop} {PostX : Pt → Array Value → Addr → Pt → Prop} (hK : vx_Back l R p e below s args y 3 W Pre Post PostX)
    {g : JFrame} (hg : g.method = m) (hsize : g.locals.size = c.maxLocals) {argsL rest : List Value} (hlen : ∀ sig, parseMethodDescriptor y.desc = some sig → argsL.length = sig.parameters.length)
    (hstack : g.stack = argsL.reverse ++ rest) (hW : 2 * g.monitorRoom + (rest.map fun v => v.category).sum ≤ W) (hdg : decode c.code g.pc = .ok (.invokestatic index, 3))
    (hpre : ∀ vm₁, s.WarmedH vm₁ → Pre ⟨T.setVm vm₁, locs, cells, slots⟩ argsL.toArray) :
    (∃ (v : Option Value) (vm₁ : Vm) (B : Pt), s.WarmedH vm₁ ∧ Stand p l e R s m args below meth c B.U B.locs B.cells B.slots ∧ Post ⟨T.setVm vm₁, locs, cells, slots⟩ argsL.toArray v B ∧
      ∀ target, Steps p.tables e below (B.U.setTop { g with pc := g.pc + 3, stack := v.toList ++ rest }) target → Steps p.tables e below (T.setTop g) target) ∨
    (∃ (q : Addr) (vm₁ : Vm) (B : Pt), s.WarmedH vm₁ ∧ Stand p l e R s m args below meth c B.U B.locs B.cells B.slots ∧ PostX ⟨T.setVm vm₁, locs, cells, slots⟩ argsL.toArray q B ∧
      Steps p.tables e below (T.setTop g) ((B.U.setTop { g with stack := rest }).pushFrame (.throwing q))) := by
  obtain ⟨mk, hnamed⟩ := Cond.code_named hcode
  obtain ⟨methM, cM, hmethM, -, -, -, -, -, -, hsigM⟩ := Cond.code_spec hnamed hcode
  have hstatic : methM.isStatic = true := Cond.static_spec hnamed hmethM hstat
  obtain ⟨kP, hkP, -⟩ := className_of_methodNamed hnamed
  have hinitP : kP.init = .initialized := Cond.initialized_spec (findClass_of_methodNamed hnamed) hkP hinit
  obtain ⟨vm₁, X₁, hstep₁⟩ := X.invokestaticNest hexec hown hlink hnamed hmethM hstatic hkP hinitP hy (g := g) hg (argsL := argsL) (rest := rest) (hlen _ hsigM) hstack hdg
  rcases hK m meth c ⟨T.setVm vm₁, locs, cells, slots⟩ { g with stack := rest } (.invokestatic index) mk argsL.toArray X₁ hg hsize hdg hW (X₁.named hnamed) (hpre vm₁ X₁.warmed) with ⟨v, B, X', hpost, hsteps⟩ | ⟨q, B, X', hpost, hsteps⟩
  · exact Or.inl ⟨v, vm₁, B, X₁.warmed, X', hpost, fun target h => hstep₁ _ fun acts => by rw [doInvoke_state]; exact hsteps.trans h⟩
  · exact Or.inr ⟨q, vm₁, B, X₁.warmed, X', hpost, hstep₁ _ fun acts => by rw [doInvoke_state]; exact hsteps⟩
end
section
variable {p : Program} {l : Launch} {e : Env} {R : Room} {s : State} {m : MethodId} {args : Array Value} {below : List Frame} {meth : Method} {c : Code} {H : Heap} {locs : List Loc} {cells slots : Nat}
theorem vx_runSN {y : MethodName} {bytes cc : ByteArray} {maxL nL mc ms n index : Nat} {ret : Option FieldType} {ws : List Cond} {rm : Room} {Pc : Array Value → State → Prop} {Qc : Array Value → State → Outcome → State → Prop} {XC : String → State → State → Prop} {free : Addr → Prop} {Ts : List Cond} {own host : String} {As rest : List Value} {g : JFrame}
    (S : CallFix p m c cc nL s args Ts own) (hM : vx_Met l y ws rm Pc Qc XC mc ms free) (cw : va_CN R s args own index y host bytes maxL ret ws rm mc ms n ∧ (Cond.static y).before args s = true ∧ True) (hp : PreS s H Pc As)
    (hg : g.method = m) (hn : As.length = n) (hsize : g.locals.size = nL) (hstack : g.stack = As.reverse ++ rest) (hW : 2 * g.monitorRoom + (rest.map fun v => v.category).sum ≤ 8) (hdg : decode cc g.pc = .ok (.invokestatic index, 3)) (hf : cells + mc ≤ R.cells ∧ slots + ms ≤ R.slots) :
    vx_Run p l e R s m args below meth c H locs cells slots mc ms g rest (Qc As.toArray) XC free := by
  obtain ⟨⟨⟨hrc, hrs, hfr, hlo, hws, hcw⟩, hcode, hini, hy, hlen, hl⟩, hx1, hx2⟩ := cw
  have hK : vx_Back l R p e below s args y 3 8 (PreOf R mc ms Pc) (PostOf Qc mc ms free) (vx_Post XC mc ms free) := vx_back (bytes := bytes) (maxL := maxL) (ret := ret) hM hp.1 hrc hrs hfr hlo hws hcw (fun a' U hW => word_at hW (Or.inl (by first | rfl | simp [Cond.onTables, Cond.keeps, Cond.steady])) hini)
  obtain ⟨hx, hb, hml, ho, -⟩ := S
  have hPc := hp.2
  intro T hT X
  rcases vx_callSN X hx (bytes := bytes) (maxL := maxL) (ret := ret) ho hl hx1 hini hcode hy hK hg (hsize.trans hml.symm) (argsL := As) (rest := rest) (fun sig h => hn.trans (hlen sig h)) hstack hW (by rw [hb]; exact hdg)
    (fun vm₁ hW₁ => ⟨hf.1, hf.2, hPc (T.setVm vm₁) hT hW₁⟩) with ⟨v, vm₁, ⟨U', l2, c2, s2⟩, hW₁, X', ⟨g', mk, t, L, e1, e2, hq, h1, hL, h2, h3⟩, st⟩ | ⟨q, vm₁, ⟨U', l2, c2, s2⟩, hW₁, X', ⟨g', mk, t, L, E, ce, e1, e2, hq, hce, hcv, hcl, h1, hL, h2, h3⟩, st⟩
  · dsimp only [Pt.U, Pt.locs, Pt.cells, Pt.slots] at X' e1 e2 h1 h2 h3 st
    subst h1; subst h2; subst h3
    exact Or.inl ⟨v, (T.setVm vm₁).calling g' mk As.toArray, t, U', L, hT, X', hL, e1, e2, hq, st⟩
  · dsimp only [Pt.U, Pt.locs, Pt.cells, Pt.slots] at X' e1 e2 h1 h2 h3 st hcl
    subst h1; subst h2; subst h3
    exact Or.inr ⟨q, (T.setVm vm₁).calling g' mk As.toArray, t, U', L, E, ce, hT, X', hL, e1, e2, hq, hce, hcv, vx_cls hW₁ hcl, st⟩
end
/-! ===== calls by what they do ===== -/
def z_nk (own : String) (ix n : Nat) (host : String) (M : zM) : Prop := (∀ w ∈ ([.static (m_y M), .initialized (m_y M).cls, .code (m_y M) (m_c M) (m_l M) (m_r M)] : List Cond), w ∈ z_big) ∧ (own = RX2 ∧ ix = 25 ∧ m_y M = yX6_isFirm ∧ host = RX6) ∧
  ((m_y M).cls ≠ "java/lang/invoke/MethodHandle" ∧ (m_y M).cls ≠ "java/lang/invoke/VarHandle" ∧ (parseMethodDescriptor (m_y M).desc).map (fun d => d.parameters.length) = some n)
section
variable {M M' : zM} {F : zF} {u u' pc q ix : Nat} {al : List (Option zV)} {st : List zV} {S S' : zS}
theorem g_callN {Q' : zQ} {n : Nat} {host : String} {as st0 : List zV} (hd : decode (m_c M) pc = .ok (.invokestatic ix, 3)) (hq : pc + 3 = q) (hm : z_nk (m_y M).cls ix n host M') (hn : as.length = n) (hs0 : st0 = as.reverse ++ st) (hst4 : st.length ≤ 4)
    (hR : m_F M' + 1 ≤ m_F M ∧ 8 + (m_l M' + 11) + m_L M' ≤ m_L M) (hu : u + m_u M' ≤ m_u M) (sp : z_Sp M' as S Q') (kx : ∀ X S', Q' (.error X) S' → z_GX M F (u + m_u M') pc al X S') (k : ∀ r S', Q' (.ok r) S' → z_G M F (u + m_u M') q al (r.toList ++ st) S') : z_G M F u pc al st0 S := by
  intro E p l e R s m args below meth c C H locs ls hW hS hL hst
  subst hq
  subst hs0
  obtain ⟨hx, hb, hml, hret, hown, hts, hlocks, htab, ⟨hRF, hRL, hRc, hRs⟩, hflag, hbase, hsw, hst9⟩ := id C
  obtain ⟨hws, ⟨e1, e2, e3, e4⟩, hd1, hd2, hd3⟩ := hm
  have hG : GoodIn z_big (.code (m_y M') (m_c M') (m_l M') (m_r M') :: z_big) := z_goodIn (fun w hw => by
    rcases List.mem_cons.mp hw with rfl | hw
    · exact hws _ (by simp)
    · exact hw)
  have hnest : va_Nw (.methodLinkNest (m_y M).cls ix (m_y M') host) s := by rw [e1, e2, e3, e4]; exact hsw.2.2.2.1
  refine z_run (Q' := Q') (vx_runSN (As := as.map (z_tv (e_ad E))) (rest := st.map (z_tv (e_ad E))) ⟨hx, hb, hml, hown, hts⟩ (sp l E hflag) ⟨va_cnB n hts hG rfl rfl rfl hnest (hts _ (hws _ (by simp))) ⟨hd1, hd2, hd3⟩ (by rw [hRF, hRL]; exact hR), hts _ (hws _ (by simp)), trivial⟩ ⟨z_Pc_blind, z_Pc_of hW hsw (fun v hv => hst v (List.mem_append_left _ (List.mem_reverse.mpr hv)))⟩ rfl (by rw [List.length_map]; exact hn) (hL.1) (by show List.map _ _ = _; simp [List.map_append, List.map_reverse]) (lv_room (z_ca_sum hst4)) hd ⟨by omega, by omega⟩) hS (fun X ce q9 S' H1 locs1 hq hw1 hs1 hce hcv hcl => ?_) (fun r S' H1 locs1 hq hrok hw1 hs1 => ?_)
  · have h := kx X S' hq E p l e R s m args below meth c C H1 locs1 ls (st.map (z_tv (e_ad E))) ce q9 hw1 hs1 hL hce hcv hcl
    rw [show F.2.1 + u + m_u M' = F.2.1 + (u + m_u M') by omega, show F.2.2 + 6 * u + 6 * m_u M' = F.2.2 + 6 * (u + m_u M') by omega]
    exact h
  · have h := k r S' hq E p l e R s m args below meth c C H1 locs1 ls hw1 hs1 hL (by
      intro v hv
      rcases List.mem_append.mp hv with hv | hv
      · exact hrok v (by cases r with
          | none => cases hv
          | some x =>
            rcases List.mem_singleton.mp hv with rfl
            rfl)
      · exact hst v (List.mem_append_right _ hv))
    rw [show F.2.1 + u + m_u M' = F.2.1 + (u + m_u M') by omega, show F.2.2 + 6 * u + 6 * m_u M' = F.2.2 + 6 * (u + m_u M') by omega]
    rw [List.map_append] at h
    rw [show (r.map (z_tv (e_ad E))).toList = r.toList.map (z_tv (e_ad E)) by cases r <;> rfl]
    exact h
theorem g_fnV {o ci n : Nat} {fl : List (Nat ⊕ Nat)} {as st0 st1 : List zV} {r : Option zV} (hd : decode (m_c M) pc = .ok (.invokevirtual ix, 3)) (hq : pc + 3 = q) (hm : z_vk (m_y M).cls ix ci n M') (ho : z_obj o = some (ci, fl)) (hn : as.length = n) (hs0 : st0 = as.reverse ++ zR o :: st) (hst4 : st.length ≤ 4)
    (hR : m_F M' + 1 ≤ m_F M ∧ 8 + (m_l M' + 11) + m_L M' ≤ m_L M) (hu1 : u + m_u M' = u') (hu : u' ≤ m_u M) (sp : z_Fn M' (zR o :: as) S r S') (hs1 : r.toList ++ st = st1) (k : z_G M F u' q al st1 S') : z_G M F u pc al st0 S := by
  subst hu1
  subst hs1
  exact g_callV hd hq hm ho hn hs0 hst4 hR hu sp (fun X S1 h => by cases h.1) (fun r1 S1 h => by
    obtain ⟨h1, rfl⟩ := h
    cases h1
    exact k)
theorem g_exV {o ci n : Nat} {fl : List (Nat ⊕ Nat)} {as st0 : List zV} {X : String} {Q : zQ} (hd : decode (m_c M) pc = .ok (.invokevirtual ix, 3)) (hm : z_vk (m_y M).cls ix ci n M') (ho : z_obj o = some (ci, fl)) (hn : as.length = n) (hs0 : st0 = as.reverse ++ zR o :: st) (hst4 : st.length ≤ 4)
    (hR : m_F M' + 1 ≤ m_F M ∧ 8 + (m_l M' + 11) + m_L M' ≤ m_L M) (hu : u + m_u M' ≤ m_u M) (hh : m_h M = []) (sp : z_Ex M' (zR o :: as) S X S') (hQ : Q (.error X) S') : z_G M (z_F M Q) u pc al st0 S :=
  g_callV hd rfl hm ho hn hs0 hst4 hR hu sp (fun X1 S1 h => by
    obtain ⟨h1, rfl⟩ := h
    cases h1
    exact gx_out hh hu hQ) (fun r1 S1 h => by cases h.1)
theorem g_fnS {n : Nat} {as st0 st1 : List zV} {r : Option zV} (hd : decode (m_c M) pc = .ok (.invokestatic ix, 3)) (hq : pc + 3 = q) (hm : z_sk (m_y M).cls ix n M') (hn : as.length = n) (hs0 : st0 = as.reverse ++ st) (hst4 : st.length ≤ 4)
    (hR : m_F M' + 1 ≤ m_F M ∧ 8 + (m_l M' + 11) + m_L M' ≤ m_L M) (hu1 : u + m_u M' = u') (hu : u' ≤ m_u M) (sp : z_Fn M' (as) S r S') (hs1 : r.toList ++ st = st1) (k : z_G M F u' q al st1 S') : z_G M F u pc al st0 S := by
  subst hu1
  subst hs1
  exact g_callS hd hq hm hn hs0 hst4 hR hu sp (fun X S1 h => by cases h.1) (fun r1 S1 h => by
    obtain ⟨h1, rfl⟩ := h
    cases h1
    exact k)
theorem g_exS {n : Nat} {as st0 : List zV} {X : String} {Q : zQ} (hd : decode (m_c M) pc = .ok (.invokestatic ix, 3)) (hm : z_sk (m_y M).cls ix n M') (hn : as.length = n) (hs0 : st0 = as.reverse ++ st) (hst4 : st.length ≤ 4)
    (hR : m_F M' + 1 ≤ m_F M ∧ 8 + (m_l M' + 11) + m_L M' ≤ m_L M) (hu : u + m_u M' ≤ m_u M) (hh : m_h M = []) (sp : z_Ex M' (as) S X S') (hQ : Q (.error X) S') : z_G M (z_F M Q) u pc al st0 S :=
  g_callS hd rfl hm hn hs0 hst4 hR hu sp (fun X1 S1 h => by
    obtain ⟨h1, rfl⟩ := h
    cases h1
    exact gx_out hh hu hQ) (fun r1 S1 h => by cases h.1)
theorem g_fnN {n : Nat} {host : String} {as st0 st1 : List zV} {r : Option zV} (hd : decode (m_c M) pc = .ok (.invokestatic ix, 3)) (hq : pc + 3 = q) (hm : z_nk (m_y M).cls ix n host M') (hn : as.length = n) (hs0 : st0 = as.reverse ++ st) (hst4 : st.length ≤ 4)
    (hR : m_F M' + 1 ≤ m_F M ∧ 8 + (m_l M' + 11) + m_L M' ≤ m_L M) (hu1 : u + m_u M' = u') (hu : u' ≤ m_u M) (sp : z_Fn M' (as) S r S') (hs1 : r.toList ++ st = st1) (k : z_G M F u' q al st1 S') : z_G M F u pc al st0 S := by
  subst hu1
  subst hs1
  exact g_callN hd hq hm hn hs0 hst4 hR hu sp (fun X S1 h => by cases h.1) (fun r1 S1 h => by
    obtain ⟨h1, rfl⟩ := h
    cases h1
    exact k)
theorem g_exN {n : Nat} {host : String} {as st0 : List zV} {X : String} {Q : zQ} (hd : decode (m_c M) pc = .ok (.invokestatic ix, 3)) (hm : z_nk (m_y M).cls ix n host M') (hn : as.length = n) (hs0 : st0 = as.reverse ++ st) (hst4 : st.length ≤ 4)
    (hR : m_F M' + 1 ≤ m_F M ∧ 8 + (m_l M' + 11) + m_L M' ≤ m_L M) (hu : u + m_u M' ≤ m_u M) (hh : m_h M = []) (sp : z_Ex M' (as) S X S') (hQ : Q (.error X) S') : z_G M (z_F M Q) u pc al st0 S :=
  g_callN hd rfl hm hn hs0 hst4 hR hu sp (fun X1 S1 h => by
    obtain ⟨h1, rfl⟩ := h
    cases h1
    exact gx_out hh hu hQ) (fun r1 S1 h => by cases h.1)
end
