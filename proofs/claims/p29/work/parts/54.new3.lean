/-! ===== what is made: an array in a field, filled; Arrays.fill ===== -/
abbrev mJ7_fill : zM := (yJ7_fill_53178, cJ7_fill_53178, 4, none, [], 0, 0, 0, [])
section
variable {E : zE} {M : zM} {Q : State → Prop} {p : Program} {l : Launch} {e : Env} {R : Room} {s : State} {m : MethodId} {args : Array Value} {below : List Frame} {meth : Method} {c : Code} {cells slots pc q : Nat} {al al' : List (Nat × Value)} {st : List Value} {ws new : va_W}
theorem n_sub (is : List Nat) (h : is.filterMap (fun i => al[i]?) = al') (k : n_G E M Q p l e R s m args below meth c cells slots pc al' st ws) : n_G E M Q p l e R s m args below meth c cells slots pc al st ws := fun H locs ls hW hL => k H locs ls hW (lv_sub hL is h)
theorem n_conv {q0 a n : Nat} {cA : ClassId} {f g : Nat → Int32} (he : ws[q0]? = some (a, .inl (cA, n, .inl f))) (hfg : ∀ j, j < n → f j = g j) (k : n_G E M Q p l e R s m args below meth c cells slots pc al st (ws.set q0 (a, .inl (cA, n, .inl g)))) : n_G E M Q p l e R s m args below meth c cells slots pc al st ws := fun H locs ls hW hL => k H locs ls (n_same hW he hfg) hL
end
theorem n_fill_loop {E : zE} {p : Program} {l : Launch} {e : Env} {s : State} {m : MethodId} {args : Array Value} {below : List Frame} {meth : Method} {c : Code} {post : va_W → Prop} {a n : Nat} {v : Int} (C : n_Cx E mJ7_fill p (n_rm mJ7_fill 0 0) s m args meth c) (hn : n < 10000) {q0 : Nat} : ∀ (k i : Nat) (ws : va_W) (g : Nat → Int32), i + k = n → ws[q0]? = some (a, .inl (e_cy E 0, n, .inl g)) → (∀ j, j < i → g j = Int32.ofInt v) → post (ws.set q0 (a, .inl (e_cy E 0, n, .inl (fun _ => Int32.ofInt v)))) →
    n_G E mJ7_fill (MQ below (n_Qc E post) args s 0 0 (z_A E)) p l e (n_rm mJ7_fill 0 0) s m args below meth c 0 0 5 [(2, .int (Int32.ofInt (i : Int))), (3, .int (Int32.ofInt (n : Int))), (0, .ref a), (1, .int (Int32.ofInt v))] [] ws := by
  intro k
  induction k with
  | zero =>
    intro i ws g hi he hg hp
    refine n_iload C (i := 2) (q := 6) dJ7_fill_53178_5 rfl rfl 0 rfl ?_
    refine n_iload C (i := 3) (q := 7) dJ7_fill_53178_6 rfl rfl 1 rfl ?_
    refine n_icmp_ge C (t := 20) (q := 10) dJ7_fill_53178_7 (by decide) rfl ⟨by omega, by omega⟩ ⟨by omega, by omega⟩ (fun h => ?_) (fun h => absurd h (by omega))
    refine n_conv (f := g) (g := fun _ => Int32.ofInt v) he (fun j hj => hg j (by omega)) ?_
    exact n_ret C dJ7_fill_53178_20 rfl (Nat.le_refl _) (Nat.le_refl _) hp
  | succ k ih =>
    intro i ws g hi he hg hp
    refine n_iload C (i := 2) (q := 6) dJ7_fill_53178_5 rfl rfl 0 rfl ?_
    refine n_iload C (i := 3) (q := 7) dJ7_fill_53178_6 rfl rfl 1 rfl ?_
    refine n_icmp_ge C (t := 20) (q := 10) dJ7_fill_53178_7 (by decide) rfl ⟨by omega, by omega⟩ ⟨by omega, by omega⟩ (fun h => absurd h (by omega)) (fun h => ?_)
    refine n_aload C (i := 0) (q := 11) dJ7_fill_53178_10 rfl rfl 2 rfl ?_
    refine n_iload C (i := 2) (q := 12) dJ7_fill_53178_11 rfl rfl 0 rfl ?_
    refine n_iload C (i := 1) (q := 13) dJ7_fill_53178_12 rfl rfl 3 rfl ?_
    refine n_iast C (q := 14) dJ7_fill_53178_13 rfl he ⟨by omega, by omega⟩ (by omega) (by omega) ?_
    refine n_iinc C (q := 17) (i := 2) dJ7_fill_53178_14 rfl 0 rfl (by decide) rfl ?_
    refine n_goto C (q := 5) dJ7_fill_53178_17 (by decide) ?_
    have hl := (List.getElem?_eq_some_iff.mp he).1
    refine ih (i + 1) _ _ (by omega) (List.getElem?_set_self hl) (fun j hj => ?_) (by rw [List.set_set]; exact hp)
    show (if j = ((i : Nat) : Int).toNat then Int32.ofInt v else g j) = Int32.ofInt v
    by_cases hji : j = i
    · rw [if_pos (by omega)]
    · rw [if_neg (by omega)]
      exact hg j (by omega)
theorem k_fill {E : zE} {ws : va_W} {q0 a n : Nat} {g : Nat → Int32} {v : Int} (hn : n < 10000) (he : ws[q0]? = some (a, .inl (e_cy E 0, n, .inl g))) : n_Sp E mJ7_fill [.ref a, .int (Int32.ofInt v)] ws (fun ws' => ws' = ws.set q0 (a, .inl (e_cy E 0, n, .inl (fun _ => Int32.ofInt v)))) 0 0 := by
  refine n_enter (by decide +kernel) (Nat.le_of_ble_eq_true rfl) (fun p l e s m below meth c C => ?_)
  refine n_int C (z := 0) (q := 1) (.inr (.inr ⟨dJ7_fill_53178_0, rfl⟩)) ?_
  refine n_istore C (i := 2) (q := 2) dJ7_fill_53178_1 rfl rfl (by decide) rfl ?_
  refine n_aload C (i := 0) (q := 3) dJ7_fill_53178_2 rfl rfl 1 rfl ?_
  refine n_alen C (q := 4) dJ7_fill_53178_3 rfl he ?_
  refine n_istore C (i := 3) (q := 5) dJ7_fill_53178_4 rfl rfl (by decide) rfl ?_
  refine n_sub [1, 0, 2, 3] rfl ?_
  exact n_fill_loop C hn n 0 ws g (by omega) he (fun j hj => absurd hj (by omega)) rfl
section
variable {E : zE} {M : zM} {Q : State → Prop} {p : Program} {l : Launch} {e : Env} {R : Room} {s : State} {m : MethodId} {args : Array Value} {below : List Frame} {meth : Method} {c : Code} {cells slots pc q : Nat} {al al' : List (Nat × Value)} {st : List Value} {ws new : va_W}
theorem n_int0 {N : Nat} : ∀ cA : ClassId, vp_cell cA (N, .inl (fun _ => (0 : Int32))) = arrV cA N (fun _ => defaultValue .int) := fun _ => rfl
theorem n_bool0 {N : Nat} : ∀ cA : ClassId, vp_cell cA (N, .inl (fun _ => (0 : Int32))) = arrV cA N (fun _ => defaultValue .boolean) := fun _ => rfl
/-- what an array of n ints (booleans) is as it is made -/
abbrev n_ia (E : zE) (n : Nat) : va_E := .inl (e_cy E 0, n, .inl (fun _ => (0 : Int32)))
abbrev n_ba (E : zE) (n : Nat) : va_E := .inl (e_cy E 1, n, .inl (fun _ => (0 : Int32)))
abbrev n_if (E : zE) (n : Nat) (v : Int) : va_E := .inl (e_cy E 0, n, .inl (fun _ => Int32.ofInt v))
theorem n_arrI (C : n_Cx E M p R s m args meth c) {q0 h0 ci ix sl N p2 k9 : Nat} {x : Nat × va_E} {fs : List Value} {z : Int} (h9 : ws[q0]? = some x) (d0 : decode (m_c M) pc = .ok (.aload_n 0, 1)) (hp : n_push (m_c M) (pc + 1) z p2) (d2 : decode (m_c M) p2 = .ok (.newarray .int, 2)) (d3 : decode (m_c M) (p2 + 2) = .ok (.putfield ix, 3)) (hq : p2 + 2 + 3 = q) (hl0 : al[k9]? = some (0, .ref h0)) (hn : ¬ Int32.ofInt z < 0) (hN : (Int32.ofInt z).toNatClampNeg = N) (hb : N * 4 ≤ 536870912) (hc : cells + 1 ≤ R.cells) (hs : slots + N ≤ R.slots) (hk : z_fk (m_y M).cls ix ci sl) (hpf : ∀ qa, n_fp ci sl (.ref qa)) (hnm : (m_y M).name = "<init>") (hcl : ∀ r : vw_C, vwCl[ci]? = some r → r.1 = (m_y M).cls) (hlen : sl < fs.length)
    (k : ∀ qa, n_G E M Q p l e R s m args below meth c (cells + 1) (slots + N) q al [] (ws.set q0 (h0, .inr (ci, fs.set sl (.ref qa))) ++ (new ++ [(qa, n_ia E N)]))) : n_G E M Q p l e R s m args below meth c cells slots pc al [] (ws.set q0 (h0, .inr (ci, fs)) ++ new) := by
  refine n_aload C (i := 0) d0 rfl rfl k9 hl0 ?_
  refine n_int C hp ?_
  refine n_newarr C (t0 := 0) d2 rfl rfl (z_big_of (by decide +kernel) rfl) rfl (fun _ _ h => h) n_int0 hn hN hb hc hs (fun qa => ?_)
  rw [List.append_assoc]
  refine n_put C d3 hq hk (hpf qa) hnm hcl (n_at h9) hlen ?_
  rw [n_set h9]
  exact k qa
theorem n_arrZ (C : n_Cx E M p R s m args meth c) {q0 h0 ci ix sl N p2 k9 : Nat} {x : Nat × va_E} {fs : List Value} {z : Int} (h9 : ws[q0]? = some x) (d0 : decode (m_c M) pc = .ok (.aload_n 0, 1)) (hp : n_push (m_c M) (pc + 1) z p2) (d2 : decode (m_c M) p2 = .ok (.newarray .boolean, 2)) (d3 : decode (m_c M) (p2 + 2) = .ok (.putfield ix, 3)) (hq : p2 + 2 + 3 = q) (hl0 : al[k9]? = some (0, .ref h0)) (hn : ¬ Int32.ofInt z < 0) (hN : (Int32.ofInt z).toNatClampNeg = N) (hb : N * 1 ≤ 536870912) (hc : cells + 1 ≤ R.cells) (hs : slots + N ≤ R.slots) (hk : z_fk (m_y M).cls ix ci sl) (hpf : ∀ qa, n_fp ci sl (.ref qa)) (hnm : (m_y M).name = "<init>") (hcl : ∀ r : vw_C, vwCl[ci]? = some r → r.1 = (m_y M).cls) (hlen : sl < fs.length)
    (k : ∀ qa, n_G E M Q p l e R s m args below meth c (cells + 1) (slots + N) q al [] (ws.set q0 (h0, .inr (ci, fs.set sl (.ref qa))) ++ (new ++ [(qa, n_ba E N)]))) : n_G E M Q p l e R s m args below meth c cells slots pc al [] (ws.set q0 (h0, .inr (ci, fs)) ++ new) := by
  refine n_aload C (i := 0) d0 rfl rfl k9 hl0 ?_
  refine n_int C hp ?_
  refine n_newarr C (t0 := 1) d2 rfl rfl (z_big_of (by decide +kernel) rfl) rfl (fun _ _ h => h) n_bool0 hn hN hb hc hs (fun qa => ?_)
  rw [List.append_assoc]
  refine n_put C d3 hq hk (hpf qa) hnm hcl (n_at h9) hlen ?_
  rw [n_set h9]
  exact k qa
theorem n_puti (C : n_Cx E M p R s m args meth c) {q0 h0 ci ix sl p2 k9 : Nat} {x : Nat × va_E} {fs : List Value} {z : Int} (h9 : ws[q0]? = some x) (d0 : decode (m_c M) pc = .ok (.aload_n 0, 1)) (hp : n_push (m_c M) (pc + 1) z p2) (d3 : decode (m_c M) p2 = .ok (.putfield ix, 3)) (hq : p2 + 3 = q) (hl0 : al[k9]? = some (0, .ref h0)) (hk : z_fk (m_y M).cls ix ci sl) (hpf : n_fp ci sl (.int (Int32.ofInt z))) (hnm : (m_y M).name = "<init>") (hcl : ∀ r : vw_C, vwCl[ci]? = some r → r.1 = (m_y M).cls) (hlen : sl < fs.length)
    (k : n_G E M Q p l e R s m args below meth c cells slots q al [] (ws.set q0 (h0, .inr (ci, fs.set sl (.int (Int32.ofInt z)))) ++ new)) : n_G E M Q p l e R s m args below meth c cells slots pc al [] (ws.set q0 (h0, .inr (ci, fs)) ++ new) := by
  refine n_aload C (i := 0) d0 rfl rfl k9 hl0 ?_
  refine n_int C hp ?_
  refine n_put C d3 hq hk hpf hnm hcl (n_at h9) hlen ?_
  rw [n_set h9]
  exact k
theorem n_filf (C : n_Cx E M p R s m args meth c) {q0 h0 ci ix jx sl p2 k9 kn n a : Nat} {x : Nat × va_E} {fs : List Value} {z : Int} {g : Nat → Int32} (h9 : ws[q0]? = some x) (d0 : decode (m_c M) pc = .ok (.aload_n 0, 1)) (d1 : decode (m_c M) (pc + 1) = .ok (.getfield ix, 3)) (hp : n_push (m_c M) (pc + 1 + 3) z p2) (d3 : decode (m_c M) p2 = .ok (.invokestatic jx, 3)) (hq : p2 + 3 = q) (hl0 : al[k9]? = some (0, .ref h0)) (hk : z_fk (m_y M).cls ix ci sl) (hs : z_sk (m_y M).cls jx 2 mJ7_fill) (hF : 1 ≤ m_F M ∧ 23 ≤ m_L M) (hc : cells ≤ R.cells ∧ slots ≤ R.slots) (hn : n < 10000) (hf : fs[sl]? = some (.ref a)) (ha : new[kn]? = some (a, .inl (e_cy E 0, n, .inl g)))
    (k : n_G E M Q p l e R s m args below meth c cells slots q al [] (ws.set q0 (h0, .inr (ci, fs)) ++ new.set kn (a, n_if E n z))) : n_G E M Q p l e R s m args below meth c cells slots pc al [] (ws.set q0 (h0, .inr (ci, fs)) ++ new) := by
  refine n_aload C (i := 0) d0 rfl rfl k9 hl0 ?_
  refine n_get C d1 rfl hk (n_at h9) hf ?_
  refine n_int C hp ?_
  refine n_callS (M' := mJ7_fill) (as := [.ref a, .int (Int32.ofInt z)]) (st := []) (mc := 0) (ms := 0) C d3 hq hs rfl rfl (Nat.zero_le _) hF hc.1 hc.2 (k_fill (q0 := ws.length + kn) hn (n_nat.trans ha)) (fun ws' hw => ?_)
  subst hw
  rw [n_nset]
  exact k
end
