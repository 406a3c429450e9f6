/-! ===== the law's methods: a wrapper called; links ===== -/
/-- a wrapper, called by invokestatic -/
def z_wk (own : String) (ix n : Nat) (M : zM) : Prop := (∀ w ∈ ([.methodLink own ix (m_y M), .static (m_y M), .initialized (m_y M).cls, .codeWith (m_y M) (m_c M) (m_l M) (m_r M) (m_h M)] : List Cond), w ∈ z_big) ∧
  ((m_y M).cls ≠ "java/lang/invoke/MethodHandle" ∧ (m_y M).cls ≠ "java/lang/invoke/VarHandle" ∧ (parseMethodDescriptor (m_y M).desc).map (fun d => d.parameters.length) = some n)
section
variable {M M' : zM} {F : zF} {u u' pc q ix : Nat} {al : List (Option zV)} {st : List zV} {S S' : zS}
theorem g_fnW {n : Nat} {as st0 : List zV} {r : zV} (hd : decode (m_c M) pc = .ok (.invokestatic ix, 3)) (hq : pc + 3 = q) (hm : z_wk (m_y M).cls ix n M') (hn : as.length = n) (hs0 : st0 = as.reverse ++ st) (hst4 : st.length ≤ 4)
    (hR : m_F M' + 1 ≤ m_F M ∧ 8 + (m_l M' + 11) + m_L M' ≤ m_L M) (hu1 : u + m_u M' = u') (hu : u' ≤ m_u M) (sp : z_SpW M' as S (fun x T => x = .ok (some r) ∧ T = S')) (k : z_G M F u' q al (r :: st) S') : z_G M F u pc al st0 S := by
  intro E p l e R s m args below meth c C H locs ls hW hS hL hst
  subst hq
  subst hs0
  subst hu1
  obtain ⟨hx, hb, hml, hret, hown, hts, hlocks, htab, ⟨hRF, hRL, hRc, hRs⟩, hflag, hbase, hsw, hst9⟩ := id C
  obtain ⟨hws, hd1, hd2, hd3⟩ := hm
  have hG : GoodIn z_big (va_wsS (m_y M).cls ix (m_y M') (.codeWith (m_y M') (m_c M') (m_l M') (m_r M') (m_h M') :: z_big)) := z_goodIn (fun w hw => by
    simp only [va_wsS, List.cons_append, List.nil_append, List.mem_cons] at hw
    rcases hw with rfl | rfl | rfl | rfl | hw
    · exact hws _ (by simp)
    · exact hws _ (by simp)
    · exact hws _ (by simp)
    · exact hws _ (by simp)
    · exact hw)
  refine z_run (Q' := fun x T => x = .ok (some r) ∧ T = S') (vx_runSX (hh := m_h M') (As := as.map (z_tv (e_ad E))) (rest := st.map (z_tv (e_ad E))) ⟨hx, hb, hml, hown, hts⟩ (sp l E hflag) (vx_cwSW n hts hG rfl rfl rfl ⟨hd1, hd2, hd3⟩ (by rw [hRF, hRL]; exact hR)) ⟨z_Pc_blind, z_Pc_of hW hsw (fun v hv => hst v (List.mem_append_left _ (List.mem_reverse.mpr hv)))⟩ rfl (by rw [List.length_map]; exact hn) (hL.1) (by show List.map _ _ = _; simp [List.map_append, List.map_reverse]) (lv_room (z_ca_sum hst4)) hd ⟨by omega, by omega⟩) hS (fun X ce q9 S1 H1 locs1 hq hw1 hs1 hce hcv hcl => by cases hq.1) (fun r1 S1 H1 locs1 hq hrok hw1 hs1 => ?_)
  obtain ⟨h1, rfl⟩ := hq
  cases h1
  have h := k E p l e R s m args below meth c C H1 locs1 ls hw1 hs1 hL (z_cons (hrok r rfl) (fun v hv => hst v (List.mem_append_right _ hv)))
  rw [show F.2.1 + u + m_u M' = F.2.1 + (u + m_u M') by omega, show F.2.2 + 6 * u + 6 * m_u M' = F.2.2 + 6 * (u + m_u M') by omega]
  exact h
end
theorem ck_L_96 : z_sk RL 96 1 mL_state := ⟨z_all_big (by decide +kernel), by decide +kernel⟩
theorem ck_L_101 : z_sk RL 101 1 mL_minute := ⟨z_all_big (by decide +kernel), by decide +kernel⟩
theorem ck_L_104 : z_sk RL 104 1 mL_isDown := ⟨z_all_big (by decide +kernel), by decide +kernel⟩
theorem ck_L_114 : z_sk RL 114 1 mL_isGone := ⟨z_all_big (by decide +kernel), by decide +kernel⟩
theorem ck_L_119 : z_sk RL 119 4 mL_isWith := ⟨z_all_big (by decide +kernel), by decide +kernel⟩
theorem ck_L_125 : z_sk RL 125 2 mL_low := ⟨z_all_big (by decide +kernel), by decide +kernel⟩
theorem ck_L_128 : z_sk RL 128 1 mL_digits := ⟨z_all_big (by decide +kernel), by decide +kernel⟩
theorem ck_L_134 : z_wk RL 134 2 mL_server := ⟨z_all_big (by decide +kernel), by decide +kernel⟩
theorem ck_L_137 : z_wk RL 137 2 mL_serverAnew := ⟨z_all_big (by decide +kernel), by decide +kernel⟩
theorem ck_L_139 : z_wk RL 139 3 mL_number := ⟨z_all_big (by decide +kernel), by decide +kernel⟩
theorem ck_L_142 : z_sk RL 142 3 mL_waits := ⟨z_all_big (by decide +kernel), by decide +kernel⟩
theorem ck_L_146 : z_wk RL 146 3 mL_firm := ⟨z_all_big (by decide +kernel), by decide +kernel⟩
theorem ck_L_148 : z_sk RL 148 1 mL_account := ⟨z_all_big (by decide +kernel), by decide +kernel⟩
theorem ck_L_151 : z_wk RL 151 3 mL_known := ⟨z_all_big (by decide +kernel), by decide +kernel⟩
theorem ck_L_153 : z_wk RL 153 2 mL_audit := ⟨z_all_big (by decide +kernel), by decide +kernel⟩
theorem ck_L_155 : z_wk RL 155 3 mL_of := ⟨z_all_big (by decide +kernel), by decide +kernel⟩
theorem ck_L_157 : z_sk RL 157 1 mL_winner := ⟨z_all_big (by decide +kernel), by decide +kernel⟩
theorem ck_L_160 : z_wk RL 160 2 mL_room := ⟨z_all_big (by decide +kernel), by decide +kernel⟩
theorem ck_L_162 : z_sk RL 162 3 mL_waitAt := ⟨z_all_big (by decide +kernel), by decide +kernel⟩
theorem ck_L_165 : z_sk RL 165 7 mL_goes := ⟨z_all_big (by decide +kernel), by decide +kernel⟩
theorem ck_L_169 : z_wk RL 169 4 mL_why := ⟨z_all_big (by decide +kernel), by decide +kernel⟩
theorem ck_L_174 : z_wk RL 174 5 mL_hop := ⟨z_all_big (by decide +kernel), by decide +kernel⟩
theorem ck_L_181 : z_sk RL 181 2 mL_cell := ⟨z_all_big (by decide +kernel), by decide +kernel⟩
theorem ck_L_185 : z_wk RL 185 3 mL_give := ⟨z_all_big (by decide +kernel), by decide +kernel⟩
theorem ck_L_187 : z_wk RL 187 3 mL_assign := ⟨z_all_big (by decide +kernel), by decide +kernel⟩
theorem ck_L_189 : z_wk RL 189 2 mL_end := ⟨z_all_big (by decide +kernel), by decide +kernel⟩
theorem ck_L_192 : z_wk RL 192 3 mL_swap := ⟨z_all_big (by decide +kernel), by decide +kernel⟩
theorem ck_L_194 : z_wk RL 194 2 mL_emergency := ⟨z_all_big (by decide +kernel), by decide +kernel⟩
theorem ck_L_196 : z_wk RL 196 3 mL_endFirm := ⟨z_all_big (by decide +kernel), by decide +kernel⟩
theorem ck_L_198 : z_sk RL 198 6 mL_goesTo := ⟨z_all_big (by decide +kernel), by decide +kernel⟩
theorem ck_L_202 : z_wk RL 202 3 mL_setLag := ⟨z_all_big (by decide +kernel), by decide +kernel⟩
theorem ck_L_204 : z_wk RL 204 3 mL_setDown := ⟨z_all_big (by decide +kernel), by decide +kernel⟩
theorem ck_L_207 : z_wk RL 207 2 mL_correct := ⟨z_all_big (by decide +kernel), by decide +kernel⟩
theorem ck_L_209 : z_sk RL 209 7 mL_learns := ⟨z_all_big (by decide +kernel), by decide +kernel⟩
theorem ck_L_213 : z_wk RL 213 5 mL_order := ⟨z_all_big (by decide +kernel), by decide +kernel⟩
theorem ck_L_215 : z_wk RL 215 2 mL_cancel := ⟨z_all_big (by decide +kernel), by decide +kernel⟩
theorem ck_L_217 : z_wk RL 217 2 mL_reverse := ⟨z_all_big (by decide +kernel), by decide +kernel⟩
theorem ck_L_219 : z_wk RL 219 2 mL_giveBack := ⟨z_all_big (by decide +kernel), by decide +kernel⟩
theorem ck_L_221 : z_wk RL 221 4 mL_dial := ⟨z_all_big (by decide +kernel), by decide +kernel⟩
theorem ck_L_225 : z_wk RL 225 2 mL_pass := ⟨z_all_big (by decide +kernel), by decide +kernel⟩
