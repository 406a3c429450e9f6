/-! ===== the law: its loop ===== -/
theorem wk_99 : z_wk RL 99 4 mL_give := ⟨z_all_big (by decide +kernel), by decide +kernel⟩
theorem ck_L_104 : z_vk RL 104 7 2 mX7_give := ⟨TX7, 28, rfl, z_all_big (by decide +kernel), by decide +kernel⟩
theorem ck_L_105 : z_vk RL 105 7 0 mX7_thrown := ⟨TX7, 28, rfl, z_all_big (by decide +kernel), by decide +kernel⟩
theorem wk_109 : z_wk RL 109 3 mL_giveBack := ⟨z_all_big (by decide +kernel), by decide +kernel⟩
theorem ck_L_112 : z_vk RL 112 7 1 mX7_giveBack := ⟨TX7, 28, rfl, z_all_big (by decide +kernel), by decide +kernel⟩
theorem wk_113 : z_wk RL 113 4 mL_assign := ⟨z_all_big (by decide +kernel), by decide +kernel⟩
theorem ck_L_115 : z_vk RL 115 7 2 mX7_assign := ⟨TX7, 28, rfl, z_all_big (by decide +kernel), by decide +kernel⟩
theorem wk_116 : z_wk RL 116 3 mL_end := ⟨z_all_big (by decide +kernel), by decide +kernel⟩
theorem ck_L_118 : z_vk RL 118 7 1 mX7_end := ⟨TX7, 28, rfl, z_all_big (by decide +kernel), by decide +kernel⟩
theorem wk_119 : z_wk RL 119 4 mL_swap := ⟨z_all_big (by decide +kernel), by decide +kernel⟩
theorem ck_L_121 : z_vk RL 121 7 2 mX7_swap := ⟨TX7, 28, rfl, z_all_big (by decide +kernel), by decide +kernel⟩
theorem wk_122 : z_wk RL 122 3 mL_emergency := ⟨z_all_big (by decide +kernel), by decide +kernel⟩
theorem ck_L_124 : z_vk RL 124 7 1 mX7_emergency := ⟨TX7, 28, rfl, z_all_big (by decide +kernel), by decide +kernel⟩
theorem wk_125 : z_wk RL 125 4 mL_endFirm := ⟨z_all_big (by decide +kernel), by decide +kernel⟩
theorem ck_L_127 : z_vk RL 127 7 2 mX7_endFirm := ⟨TX7, 28, rfl, z_all_big (by decide +kernel), by decide +kernel⟩
theorem wk_128 : z_wk RL 128 6 mL_order := ⟨z_all_big (by decide +kernel), by decide +kernel⟩
theorem ck_L_131 : z_vk RL 131 7 4 mX7_order := ⟨TX7, 28, rfl, z_all_big (by decide +kernel), by decide +kernel⟩
theorem wk_132 : z_wk RL 132 3 mL_cancel := ⟨z_all_big (by decide +kernel), by decide +kernel⟩
theorem ck_L_134 : z_vk RL 134 7 1 mX7_cancel := ⟨TX7, 28, rfl, z_all_big (by decide +kernel), by decide +kernel⟩
theorem wk_135 : z_wk RL 135 3 mL_reverse := ⟨z_all_big (by decide +kernel), by decide +kernel⟩
theorem ck_L_137 : z_vk RL 137 7 1 mX7_reverse := ⟨TX7, 28, rfl, z_all_big (by decide +kernel), by decide +kernel⟩
theorem wk_138 : z_wk RL 138 3 mL_pass := ⟨z_all_big (by decide +kernel), by decide +kernel⟩
theorem ck_L_140 : z_vk RL 140 7 1 mX7_pass := ⟨TX7, 28, rfl, z_all_big (by decide +kernel), by decide +kernel⟩
theorem wk_141 : z_wk RL 141 4 mL_setLag := ⟨z_all_big (by decide +kernel), by decide +kernel⟩
theorem ck_L_143 : z_vk RL 143 7 2 mX7_setLag := ⟨TX7, 28, rfl, z_all_big (by decide +kernel), by decide +kernel⟩
theorem wk_144 : z_wk RL 144 4 mL_setDown := ⟨z_all_big (by decide +kernel), by decide +kernel⟩
theorem ck_L_147 : z_vk RL 147 7 2 mX7_setDown := ⟨TX7, 28, rfl, z_all_big (by decide +kernel), by decide +kernel⟩
theorem wk_148 : z_wk RL 148 3 mL_correct := ⟨z_all_big (by decide +kernel), by decide +kernel⟩
theorem ck_L_150 : z_vk RL 150 7 1 mX7_correct := ⟨TX7, 28, rfl, z_all_big (by decide +kernel), by decide +kernel⟩
theorem wk_151 : z_wk RL 151 3 mL_server := ⟨z_all_big (by decide +kernel), by decide +kernel⟩
theorem ck_L_153 : z_vk RL 153 7 1 mX7_server := ⟨TX7, 28, rfl, z_all_big (by decide +kernel), by decide +kernel⟩
theorem wk_154 : z_wk RL 154 3 mL_serverAnew := ⟨z_all_big (by decide +kernel), by decide +kernel⟩
theorem ck_L_156 : z_vk RL 156 7 1 mX7_serverAnew := ⟨TX7, 28, rfl, z_all_big (by decide +kernel), by decide +kernel⟩
theorem wk_157 : z_wk RL 157 4 mL_number := ⟨z_all_big (by decide +kernel), by decide +kernel⟩
theorem ck_L_159 : z_vk RL 159 7 2 mX7_number := ⟨TX7, 28, rfl, z_all_big (by decide +kernel), by decide +kernel⟩
theorem wk_160 : z_wk RL 160 4 mL_of := ⟨z_all_big (by decide +kernel), by decide +kernel⟩
theorem ck_L_162 : z_vk RL 162 7 2 mX7_of := ⟨TX7, 28, rfl, z_all_big (by decide +kernel), by decide +kernel⟩
theorem wk_163 : z_wk RL 163 3 mL_room := ⟨z_all_big (by decide +kernel), by decide +kernel⟩
theorem ck_L_165 : z_vk RL 165 7 1 mX7_room := ⟨TX7, 28, rfl, z_all_big (by decide +kernel), by decide +kernel⟩
theorem wk_166 : z_wk RL 166 4 mL_firm := ⟨z_all_big (by decide +kernel), by decide +kernel⟩
theorem ck_L_168 : z_vk RL 168 7 2 mX7_firm := ⟨TX7, 28, rfl, z_all_big (by decide +kernel), by decide +kernel⟩
theorem wk_169 : z_wk RL 169 4 mL_known := ⟨z_all_big (by decide +kernel), by decide +kernel⟩
theorem ck_L_171 : z_vk RL 171 7 2 mX7_known := ⟨TX7, 28, rfl, z_all_big (by decide +kernel), by decide +kernel⟩
theorem wk_172 : z_wk RL 172 3 mL_audit := ⟨z_all_big (by decide +kernel), by decide +kernel⟩
theorem ck_L_174 : z_vk RL 174 7 1 mX7_audit := ⟨TX7, 28, rfl, z_all_big (by decide +kernel), by decide +kernel⟩
theorem wk_175 : z_wk RL 175 6 mL_hop := ⟨z_all_big (by decide +kernel), by decide +kernel⟩
theorem ck_L_177 : z_vk RL 177 7 4 mX7_hop := ⟨TX7, 28, rfl, z_all_big (by decide +kernel), by decide +kernel⟩
theorem wk_178 : z_wk RL 178 5 mL_why := ⟨z_all_big (by decide +kernel), by decide +kernel⟩
theorem ck_L_181 : z_vk RL 181 7 3 mX7_why := ⟨TX7, 28, rfl, z_all_big (by decide +kernel), by decide +kernel⟩
theorem wk_182 : z_wk RL 182 5 mL_dial := ⟨z_all_big (by decide +kernel), by decide +kernel⟩
theorem ck_L_184 : z_vk RL 184 7 3 mX7_dial := ⟨TX7, 28, rfl, z_all_big (by decide +kernel), by decide +kernel⟩
theorem ck_L_185 : z_vk RL 185 6 0 mX6_minute := ⟨TX6, 8, rfl, z_all_big (by decide +kernel), by decide +kernel⟩
theorem ck_L_188 : z_vk RL 188 7 0 mX7_minute := ⟨TX7, 28, rfl, z_all_big (by decide +kernel), by decide +kernel⟩
def st_give (Inv : Nat → zS → Prop) : Prop := ∀ (n : Nat) (S : zS) (a b : Int), n < 512 → Inv n S → z_in a → z_in b → ∃ (k v : Int) (S1 S2 : zS), z_SpW mL_give [zR 0, zI a, zI b, zR 63] S (fun x T => x = .ok (some (zI k)) ∧ T = S1) ∧ z_Fn mX7_give [zR 7, zI a, zI b] S1 (some (zI v)) S2 ∧ S2.1 5 = k ∧ (k = 0 → S2.2.2 = v) ∧ Inv (n + 1) S2
def st_giveBack (Inv : Nat → zS → Prop) : Prop := ∀ (n : Nat) (S : zS) (a : Int), n < 512 → Inv n S → z_in a → ∃ (k v : Int) (S1 S2 : zS), z_SpW mL_giveBack [zR 0, zI a, zR 63] S (fun x T => x = .ok (some (zI k)) ∧ T = S1) ∧ z_Fn mX7_giveBack [zR 7, zI a] S1 (some (zI v)) S2 ∧ S2.1 5 = k ∧ (k = 0 → S2.2.2 = v) ∧ Inv (n + 1) S2
def st_assign (Inv : Nat → zS → Prop) : Prop := ∀ (n : Nat) (S : zS) (a b : Int), n < 512 → Inv n S → z_in a → z_in b → ∃ (k v : Int) (S1 S2 : zS), z_SpW mL_assign [zR 0, zI a, zI b, zR 63] S (fun x T => x = .ok (some (zI k)) ∧ T = S1) ∧ z_Fn mX7_assign [zR 7, zI a, zI b] S1 (some (zI v)) S2 ∧ S2.1 5 = k ∧ (k = 0 → S2.2.2 = v) ∧ Inv (n + 1) S2
def st_end (Inv : Nat → zS → Prop) : Prop := ∀ (n : Nat) (S : zS) (a : Int), n < 512 → Inv n S → z_in a → ∃ (k v : Int) (S1 S2 : zS), z_SpW mL_end [zR 0, zI a, zR 63] S (fun x T => x = .ok (some (zI k)) ∧ T = S1) ∧ z_Fn mX7_end [zR 7, zI a] S1 (some (zI v)) S2 ∧ S2.1 5 = k ∧ (k = 0 → S2.2.2 = v) ∧ Inv (n + 1) S2
def st_swap (Inv : Nat → zS → Prop) : Prop := ∀ (n : Nat) (S : zS) (a b : Int), n < 512 → Inv n S → z_in a → z_in b → ∃ (k v : Int) (S1 S2 : zS), z_SpW mL_swap [zR 0, zI a, zI b, zR 63] S (fun x T => x = .ok (some (zI k)) ∧ T = S1) ∧ z_Fn mX7_swap [zR 7, zI a, zI b] S1 (some (zI v)) S2 ∧ S2.1 5 = k ∧ (k = 0 → S2.2.2 = v) ∧ Inv (n + 1) S2
def st_emergency (Inv : Nat → zS → Prop) : Prop := ∀ (n : Nat) (S : zS) (a : Int), n < 512 → Inv n S → z_in a → ∃ (k v : Int) (S1 S2 : zS), z_SpW mL_emergency [zR 0, zI a, zR 63] S (fun x T => x = .ok (some (zI k)) ∧ T = S1) ∧ z_Fn mX7_emergency [zR 7, zI a] S1 (some (zI v)) S2 ∧ S2.1 5 = k ∧ (k = 0 → S2.2.2 = v) ∧ Inv (n + 1) S2
def st_endFirm (Inv : Nat → zS → Prop) : Prop := ∀ (n : Nat) (S : zS) (a b : Int), n < 512 → Inv n S → z_in a → z_in b → ∃ (k v : Int) (S1 S2 : zS), z_SpW mL_endFirm [zR 0, zI a, zI b, zR 63] S (fun x T => x = .ok (some (zI k)) ∧ T = S1) ∧ z_Fn mX7_endFirm [zR 7, zI a, zI b] S1 (some (zI v)) S2 ∧ S2.1 5 = k ∧ (k = 0 → S2.2.2 = v) ∧ Inv (n + 1) S2
def st_order (Inv : Nat → zS → Prop) : Prop := ∀ (n : Nat) (S : zS) (a b c d : Int), n < 512 → Inv n S → z_in a → z_in b → z_in c → z_in d → ∃ (k v : Int) (S1 S2 : zS), z_SpW mL_order [zR 0, zI a, zI b, zI c, zI d, zR 63] S (fun x T => x = .ok (some (zI k)) ∧ T = S1) ∧ z_Fn mX7_order [zR 7, zI a, zI b, zI c, zI d] S1 (some (zI v)) S2 ∧ S2.1 5 = k ∧ (k = 0 → S2.2.2 = v) ∧ Inv (n + 1) S2
def st_cancel (Inv : Nat → zS → Prop) : Prop := ∀ (n : Nat) (S : zS) (a : Int), n < 512 → Inv n S → z_in a → ∃ (k v : Int) (S1 S2 : zS), z_SpW mL_cancel [zR 0, zI a, zR 63] S (fun x T => x = .ok (some (zI k)) ∧ T = S1) ∧ z_Fn mX7_cancel [zR 7, zI a] S1 (some (zI v)) S2 ∧ S2.1 5 = k ∧ (k = 0 → S2.2.2 = v) ∧ Inv (n + 1) S2
def st_reverse (Inv : Nat → zS → Prop) : Prop := ∀ (n : Nat) (S : zS) (a : Int), n < 512 → Inv n S → z_in a → ∃ (k v : Int) (S1 S2 : zS), z_SpW mL_reverse [zR 0, zI a, zR 63] S (fun x T => x = .ok (some (zI k)) ∧ T = S1) ∧ z_Fn mX7_reverse [zR 7, zI a] S1 (some (zI v)) S2 ∧ S2.1 5 = k ∧ (k = 0 → S2.2.2 = v) ∧ Inv (n + 1) S2
def st_pass (Inv : Nat → zS → Prop) : Prop := ∀ (n : Nat) (S : zS) (a : Int), n < 512 → Inv n S → z_in a → ∃ (k v : Int) (S1 S2 : zS), z_SpW mL_pass [zR 0, zI a, zR 63] S (fun x T => x = .ok (some (zI k)) ∧ T = S1) ∧ z_Fn mX7_pass [zR 7, zI a] S1 (some (zI v)) S2 ∧ S2.1 5 = k ∧ (k = 0 → S2.2.2 = v) ∧ Inv (n + 1) S2
def st_setLag (Inv : Nat → zS → Prop) : Prop := ∀ (n : Nat) (S : zS) (a b : Int), n < 512 → Inv n S → z_in a → z_in b → ∃ (k v : Int) (S1 S2 : zS), z_SpW mL_setLag [zR 0, zI a, zI b, zR 63] S (fun x T => x = .ok (some (zI k)) ∧ T = S1) ∧ z_Fn mX7_setLag [zR 7, zI a, zI b] S1 (some (zI v)) S2 ∧ S2.1 5 = k ∧ (k = 0 → S2.2.2 = v) ∧ Inv (n + 1) S2
def st_setDown (Inv : Nat → zS → Prop) : Prop := ∀ (n : Nat) (S : zS) (a b : Int), n < 512 → Inv n S → z_in a → (b = 0 ∨ b = 1) → ∃ (k v : Int) (S1 S2 : zS), z_SpW mL_setDown [zR 0, zI a, zI b, zR 63] S (fun x T => x = .ok (some (zI k)) ∧ T = S1) ∧ z_Fn mX7_setDown [zR 7, zI a, zI b] S1 (some (zI v)) S2 ∧ S2.1 5 = k ∧ (k = 0 → S2.2.2 = v) ∧ Inv (n + 1) S2 ∧ (v = 0 ∨ v = 1)
def st_correct (Inv : Nat → zS → Prop) : Prop := ∀ (n : Nat) (S : zS) (a : Int), n < 512 → Inv n S → z_in a → ∃ (k v : Int) (S1 S2 : zS), z_SpW mL_correct [zR 0, zI a, zR 63] S (fun x T => x = .ok (some (zI k)) ∧ T = S1) ∧ z_Fn mX7_correct [zR 7, zI a] S1 (some (zI v)) S2 ∧ S2.1 5 = k ∧ (k = 0 → S2.2.2 = v) ∧ Inv (n + 1) S2
def st_server (Inv : Nat → zS → Prop) : Prop := ∀ (n : Nat) (S : zS) (a : Int), n < 512 → Inv n S → z_in a → ∃ (k v : Int) (S1 S2 : zS), z_SpW mL_server [zR 0, zI a, zR 63] S (fun x T => x = .ok (some (zI k)) ∧ T = S1) ∧ z_Fn mX7_server [zR 7, zI a] S1 (some (zI v)) S2 ∧ S2.1 5 = k ∧ (k = 0 → S2.2.2 = v) ∧ Inv (n + 1) S2
def st_serverAnew (Inv : Nat → zS → Prop) : Prop := ∀ (n : Nat) (S : zS) (a : Int), n < 512 → Inv n S → z_in a → ∃ (k v : Int) (S1 S2 : zS), z_SpW mL_serverAnew [zR 0, zI a, zR 63] S (fun x T => x = .ok (some (zI k)) ∧ T = S1) ∧ z_Fn mX7_serverAnew [zR 7, zI a] S1 (some (zI v)) S2 ∧ S2.1 5 = k ∧ (k = 0 → S2.2.2 = v) ∧ Inv (n + 1) S2
def st_number (Inv : Nat → zS → Prop) : Prop := ∀ (n : Nat) (S : zS) (a b : Int), n < 512 → Inv n S → z_in a → z_in b → ∃ (k v : Int) (S1 S2 : zS), z_SpW mL_number [zR 0, zI a, zI b, zR 63] S (fun x T => x = .ok (some (zI k)) ∧ T = S1) ∧ z_Fn mX7_number [zR 7, zI a, zI b] S1 (some (zI v)) S2 ∧ S2.1 5 = k ∧ (k = 0 → S2.2.2 = v) ∧ Inv (n + 1) S2
def st_of (Inv : Nat → zS → Prop) : Prop := ∀ (n : Nat) (S : zS) (a b : Int), n < 512 → Inv n S → z_in a → z_in b → ∃ (k v : Int) (S1 S2 : zS), z_SpW mL_of [zR 0, zI a, zI b, zR 63] S (fun x T => x = .ok (some (zI k)) ∧ T = S1) ∧ z_Fn mX7_of [zR 7, zI a, zI b] S1 (some (zI v)) S2 ∧ S2.1 5 = k ∧ (k = 0 → S2.2.2 = v) ∧ Inv (n + 1) S2
def st_room (Inv : Nat → zS → Prop) : Prop := ∀ (n : Nat) (S : zS) (a : Int), n < 512 → Inv n S → z_in a → ∃ (k v : Int) (S1 S2 : zS), z_SpW mL_room [zR 0, zI a, zR 63] S (fun x T => x = .ok (some (zI k)) ∧ T = S1) ∧ z_Fn mX7_room [zR 7, zI a] S1 (some (zI v)) S2 ∧ S2.1 5 = k ∧ (k = 0 → S2.2.2 = v) ∧ Inv (n + 1) S2
def st_firm (Inv : Nat → zS → Prop) : Prop := ∀ (n : Nat) (S : zS) (a b : Int), n < 512 → Inv n S → z_in a → z_in b → ∃ (k v : Int) (S1 S2 : zS), z_SpW mL_firm [zR 0, zI a, zI b, zR 63] S (fun x T => x = .ok (some (zI k)) ∧ T = S1) ∧ z_Fn mX7_firm [zR 7, zI a, zI b] S1 (some (zI v)) S2 ∧ S2.1 5 = k ∧ (k = 0 → S2.2.2 = v) ∧ Inv (n + 1) S2
def st_known (Inv : Nat → zS → Prop) : Prop := ∀ (n : Nat) (S : zS) (a b : Int), n < 512 → Inv n S → z_in a → z_in b → ∃ (k v : Int) (S1 S2 : zS), z_SpW mL_known [zR 0, zI a, zI b, zR 63] S (fun x T => x = .ok (some (zI k)) ∧ T = S1) ∧ z_Fn mX7_known [zR 7, zI a, zI b] S1 (some (zI v)) S2 ∧ S2.1 5 = k ∧ (k = 0 → S2.2.2 = v) ∧ Inv (n + 1) S2
def st_audit (Inv : Nat → zS → Prop) : Prop := ∀ (n : Nat) (S : zS) (a : Int), n < 512 → Inv n S → z_in a → ∃ (k v : Int) (S1 S2 : zS), z_SpW mL_audit [zR 0, zI a, zR 63] S (fun x T => x = .ok (some (zI k)) ∧ T = S1) ∧ z_Fn mX7_audit [zR 7, zI a] S1 (some (zI v)) S2 ∧ S2.1 5 = k ∧ (k = 0 → S2.2.2 = v) ∧ Inv (n + 1) S2
def st_hop (Inv : Nat → zS → Prop) : Prop := ∀ (n : Nat) (S : zS) (a b c d : Int), n < 512 → Inv n S → z_in a → z_in b → z_in c → z_in d → ∃ (k v : Int) (S1 S2 : zS), z_SpW mL_hop [zR 0, zI a, zI b, zI c, zI d, zR 63] S (fun x T => x = .ok (some (zI k)) ∧ T = S1) ∧ z_Fn mX7_hop [zR 7, zI a, zI b, zI c, zI d] S1 (some (zI v)) S2 ∧ S2.1 5 = k ∧ (k = 0 → S2.2.2 = v) ∧ Inv (n + 1) S2
def st_why (Inv : Nat → zS → Prop) : Prop := ∀ (n : Nat) (S : zS) (a b c : Int), n < 512 → Inv n S → z_in a → z_in b → z_in c → ∃ (k v : Int) (S1 S2 : zS), z_SpW mL_why [zR 0, zI a, zI b, zI c, zR 63] S (fun x T => x = .ok (some (zI k)) ∧ T = S1) ∧ z_Fn mX7_why [zR 7, zI a, zI b, zI c] S1 (some (zI v)) S2 ∧ S2.1 5 = k ∧ (k = 0 → S2.2.2 = v) ∧ Inv (n + 1) S2
def st_dial (Inv : Nat → zS → Prop) : Prop := ∀ (n : Nat) (S : zS) (a b c : Int), n < 512 → Inv n S → z_in a → z_in b → z_in c → ∃ (k v : Int) (S1 S2 : zS), z_SpW mL_dial [zR 0, zI a, zI b, zI c, zR 63] S (fun x T => x = .ok (some (zI k)) ∧ T = S1) ∧ z_Fn mX7_dial [zR 7, zI a, zI b, zI c] S1 (some (zI v)) S2 ∧ S2.1 5 = k ∧ (k = 0 → S2.2.2 = v) ∧ Inv (n + 1) S2
def st_minute (Inv : Nat → zS → Prop) : Prop := ∀ (n : Nat) (S : zS), n < 512 → Inv n S → ∃ (v : Int) (S2 : zS), z_Fn mX6_minute [zR 0] S (some (zI v)) S ∧ z_Fn mX7_minute [zR 7] S (some (zI v)) S2 ∧ Inv (n + 1) S2
/-- what the simulation owes -/
def z_Sim (Inv : Nat → zS → Prop) : Prop := st_give Inv ∧ st_giveBack Inv ∧ st_assign Inv ∧ st_end Inv ∧ st_swap Inv ∧ st_emergency Inv ∧ st_endFirm Inv ∧ st_order Inv ∧ st_cancel Inv ∧ st_reverse Inv ∧ st_pass Inv ∧ st_setLag Inv ∧ st_setDown Inv ∧ st_correct Inv ∧ st_server Inv ∧ st_serverAnew Inv ∧ st_number Inv ∧ st_of Inv ∧ st_room Inv ∧ st_firm Inv ∧ st_known Inv ∧ st_audit Inv ∧ st_hop Inv ∧ st_why Inv ∧ st_dial Inv ∧ st_minute Inv ∧ (∀ n S, Inv n S → Inv (n + 1) S)
section
variable {hh : List (Nat × Nat × Nat × Nat)} {L : Nat} {xs : Nat → Int} {c0 s0 : Nat}
theorem lc_give {Inv : Nat → zS → Prop} (st : st_give Inv) (hL0 : L ≤ 2560) {n : Nat} {S : zS} {i : Int} {v5 v6 : Option zV} (hn : n < 512) (hI : Inv n S) (hi : 0 ≤ i ∧ i + 5 ≤ L) (hx : ∀ j, z_in (xs j)) (hk : ∀ S2, Inv (n + 1) S2 → ∀ v5 v6, z_G (mLw hh) (zFL L xs c0 s0) (10 * n + 10) 1832 [some (zR 64), some (zR 0), some (zR 7), some (zR 63), some (zI i), v5, v6] [] S2) : z_G (mLw hh) (zFL L xs c0 s0) (10 * n) 156 [some (zR 64), some (zR 0), some (zR 7), some (zR 63), some (zI i), v5, v6] [] S := by
  obtain ⟨k, v, S1, S2, w1, t1, e5, e0, hI2⟩ := st n S (xs (i + 1).toNat) (xs (i + 2).toNat) hn hI (hx _) (hx _)
  have e0' : ¬ k = 0 ∨ S2.2.2 = v := by
    by_cases q : k = 0
    · exact .inr (e0 q)
    · exact .inl q
  refine g_aload_n (i := 1) (q := 157) dL_law_156 rfl rfl rfl ?_
  refine g_aload_n (i := 0) (q := 158) dL_law_157 rfl rfl rfl ?_
  refine g_iload (q := 160) dL_law_158 rfl rfl ?_
  refine g_iconst (q := 161) dL_law_160 rfl ⟨by decide, by decide⟩ ?_
  refine g_iadd (q := 162) dL_law_161 rfl (by constructor <;> omega) ?_
  refine g_sld (q := 163) dL_law_162 rfl (by omega) (by omega) ?_
  refine g_aload_n (i := 0) (q := 164) dL_law_163 rfl rfl rfl ?_
  refine g_iload (q := 166) dL_law_164 rfl rfl ?_
  refine g_iconst (q := 167) dL_law_166 rfl ⟨by decide, by decide⟩ ?_
  refine g_iadd (q := 168) dL_law_167 rfl (by constructor <;> omega) ?_
  refine g_sld (q := 169) dL_law_168 rfl (by omega) (by omega) ?_
  refine g_aload_n (i := 3) (q := 170) dL_law_169 rfl rfl rfl ?_
  refine g_fnW (as := [zR 0, zI (xs (i + 1).toNat), zI (xs (i + 2).toNat), zR 63]) (q := 173) (u' := 10 * n + 1) dL_law_170 rfl wk_99 rfl rfl (Nat.le_of_ble_eq_true rfl) ⟨Nat.le_of_ble_eq_true rfl, Nat.le_of_ble_eq_true rfl⟩ rfl (show 10 * n + 1 ≤ 6000 by omega) (w1) ?_
  refine g_istore (q := 175) dL_law_173 rfl (Nat.le_of_ble_eq_true rfl) ?_
  refine g_aload_n (i := 2) (q := 176) dL_law_175 rfl rfl rfl ?_
  refine g_aload_n (i := 0) (q := 177) dL_law_176 rfl rfl rfl ?_
  refine g_iload (q := 179) dL_law_177 rfl rfl ?_
  refine g_iconst (q := 180) dL_law_179 rfl ⟨by decide, by decide⟩ ?_
  refine g_iadd (q := 181) dL_law_180 rfl (by constructor <;> omega) ?_
  refine g_sld (q := 182) dL_law_181 rfl (by omega) (by omega) ?_
  refine g_aload_n (i := 0) (q := 183) dL_law_182 rfl rfl rfl ?_
  refine g_iload (q := 185) dL_law_183 rfl rfl ?_
  refine g_iconst (q := 186) dL_law_185 rfl ⟨by decide, by decide⟩ ?_
  refine g_iadd (q := 187) dL_law_186 rfl (by constructor <;> omega) ?_
  refine g_sld (q := 188) dL_law_187 rfl (by omega) (by omega) ?_
  refine g_fnV (as := [zI (xs (i + 1).toNat), zI (xs (i + 2).toNat)]) (q := 191) (u' := 10 * n + 1) dL_law_188 rfl ck_L_104 rfl rfl rfl (Nat.le_of_ble_eq_true rfl) ⟨Nat.le_of_ble_eq_true rfl, Nat.le_of_ble_eq_true rfl⟩ rfl (show 10 * n + 1 ≤ 6000 by omega) (t1) rfl ?_
  refine g_istore (q := 193) dL_law_191 rfl (Nat.le_of_ble_eq_true rfl) ?_
  refine g_aload_n (i := 2) (q := 194) dL_law_193 rfl rfl rfl ?_
  refine g_fnV (as := []) (q := 197) (u' := 10 * n + 1) dL_law_194 rfl ck_L_105 rfl rfl rfl (Nat.le_of_ble_eq_true rfl) ⟨Nat.le_of_ble_eq_true rfl, Nat.le_of_ble_eq_true rfl⟩ rfl (show 10 * n + 1 ≤ 6000 by omega) (t_thrown) rfl ?_
  refine g_iload (q := 199) dL_law_197 rfl rfl ?_
  refine g_icmp_eq (t := 204) (q := 202) dL_law_199 (by decide) rfl (fun h199 => ?_) (fun h199 => (False.elim (by omega)))
  refine g_iload (q := 206) dL_law_204 rfl rfl ?_
  refine g_if_ne (t := 221) (q := 209) dL_law_206 (by decide) rfl (fun h206 => ?_) (fun h206 => ?_)
  · refine g_goto (q := 0) (t := 1832) dL_law_221 (by decide) ?_
    exact z_G.widen (by omega) (hk S2 hI2 _ _)
  · refine g_aload_n (i := 3) (q := 210) dL_law_209 rfl rfl rfl ?_
    refine g_iconst (q := 211) dL_law_210 rfl ⟨by decide, by decide⟩ ?_
    refine g_lald (q := 212) dL_law_211 rfl ?_
    refine g_iload (q := 214) dL_law_212 rfl rfl ?_
    refine g_i2l (q := 215) dL_law_214 rfl ?_
    refine g_lcmp (q := 216) dL_law_215 rfl (fun z215 hz215 => ?_)
    refine g_if_eq (t := 221) (q := 219) dL_law_216 (by decide) rfl (fun h216 => ?_) (fun h216 => (False.elim (by omega)))
    refine g_goto (q := 0) (t := 1832) dL_law_221 (by decide) ?_
    exact z_G.widen (by omega) (hk S2 hI2 _ _)
theorem lc_giveBack {Inv : Nat → zS → Prop} (st : st_giveBack Inv) (hL0 : L ≤ 2560) {n : Nat} {S : zS} {i : Int} {v5 v6 : Option zV} (hn : n < 512) (hI : Inv n S) (hi : 0 ≤ i ∧ i + 5 ≤ L) (hx : ∀ j, z_in (xs j)) (hk : ∀ S2, Inv (n + 1) S2 → ∀ v5 v6, z_G (mLw hh) (zFL L xs c0 s0) (10 * n + 10) 1832 [some (zR 64), some (zR 0), some (zR 7), some (zR 63), some (zI i), v5, v6] [] S2) : z_G (mLw hh) (zFL L xs c0 s0) (10 * n) 224 [some (zR 64), some (zR 0), some (zR 7), some (zR 63), some (zI i), v5, v6] [] S := by
  obtain ⟨k, v, S1, S2, w1, t1, e5, e0, hI2⟩ := st n S (xs (i + 1).toNat) hn hI (hx _)
  have e0' : ¬ k = 0 ∨ S2.2.2 = v := by
    by_cases q : k = 0
    · exact .inr (e0 q)
    · exact .inl q
  refine g_aload_n (i := 1) (q := 225) dL_law_224 rfl rfl rfl ?_
  refine g_aload_n (i := 0) (q := 226) dL_law_225 rfl rfl rfl ?_
  refine g_iload (q := 228) dL_law_226 rfl rfl ?_
  refine g_iconst (q := 229) dL_law_228 rfl ⟨by decide, by decide⟩ ?_
  refine g_iadd (q := 230) dL_law_229 rfl (by constructor <;> omega) ?_
  refine g_sld (q := 231) dL_law_230 rfl (by omega) (by omega) ?_
  refine g_aload_n (i := 3) (q := 232) dL_law_231 rfl rfl rfl ?_
  refine g_fnW (as := [zR 0, zI (xs (i + 1).toNat), zR 63]) (q := 235) (u' := 10 * n + 1) dL_law_232 rfl wk_109 rfl rfl (Nat.le_of_ble_eq_true rfl) ⟨Nat.le_of_ble_eq_true rfl, Nat.le_of_ble_eq_true rfl⟩ rfl (show 10 * n + 1 ≤ 6000 by omega) (w1) ?_
  refine g_istore (q := 237) dL_law_235 rfl (Nat.le_of_ble_eq_true rfl) ?_
  refine g_aload_n (i := 2) (q := 238) dL_law_237 rfl rfl rfl ?_
  refine g_aload_n (i := 0) (q := 239) dL_law_238 rfl rfl rfl ?_
  refine g_iload (q := 241) dL_law_239 rfl rfl ?_
  refine g_iconst (q := 242) dL_law_241 rfl ⟨by decide, by decide⟩ ?_
  refine g_iadd (q := 243) dL_law_242 rfl (by constructor <;> omega) ?_
  refine g_sld (q := 244) dL_law_243 rfl (by omega) (by omega) ?_
  refine g_fnV (as := [zI (xs (i + 1).toNat)]) (q := 247) (u' := 10 * n + 1) dL_law_244 rfl ck_L_112 rfl rfl rfl (Nat.le_of_ble_eq_true rfl) ⟨Nat.le_of_ble_eq_true rfl, Nat.le_of_ble_eq_true rfl⟩ rfl (show 10 * n + 1 ≤ 6000 by omega) (t1) rfl ?_
  refine g_istore (q := 249) dL_law_247 rfl (Nat.le_of_ble_eq_true rfl) ?_
  refine g_aload_n (i := 2) (q := 250) dL_law_249 rfl rfl rfl ?_
  refine g_fnV (as := []) (q := 253) (u' := 10 * n + 1) dL_law_250 rfl ck_L_105 rfl rfl rfl (Nat.le_of_ble_eq_true rfl) ⟨Nat.le_of_ble_eq_true rfl, Nat.le_of_ble_eq_true rfl⟩ rfl (show 10 * n + 1 ≤ 6000 by omega) (t_thrown) rfl ?_
  refine g_iload (q := 255) dL_law_253 rfl rfl ?_
  refine g_icmp_eq (t := 260) (q := 258) dL_law_255 (by decide) rfl (fun h255 => ?_) (fun h255 => (False.elim (by omega)))
  refine g_iload (q := 262) dL_law_260 rfl rfl ?_
  refine g_if_ne (t := 277) (q := 265) dL_law_262 (by decide) rfl (fun h262 => ?_) (fun h262 => ?_)
  · refine g_goto (q := 0) (t := 1832) dL_law_277 (by decide) ?_
    exact z_G.widen (by omega) (hk S2 hI2 _ _)
  · refine g_aload_n (i := 3) (q := 266) dL_law_265 rfl rfl rfl ?_
    refine g_iconst (q := 267) dL_law_266 rfl ⟨by decide, by decide⟩ ?_
    refine g_lald (q := 268) dL_law_267 rfl ?_
    refine g_iload (q := 270) dL_law_268 rfl rfl ?_
    refine g_i2l (q := 271) dL_law_270 rfl ?_
    refine g_lcmp (q := 272) dL_law_271 rfl (fun z271 hz271 => ?_)
    refine g_if_eq (t := 277) (q := 275) dL_law_272 (by decide) rfl (fun h272 => ?_) (fun h272 => (False.elim (by omega)))
    refine g_goto (q := 0) (t := 1832) dL_law_277 (by decide) ?_
    exact z_G.widen (by omega) (hk S2 hI2 _ _)
theorem lc_assign {Inv : Nat → zS → Prop} (st : st_assign Inv) (hL0 : L ≤ 2560) {n : Nat} {S : zS} {i : Int} {v5 v6 : Option zV} (hn : n < 512) (hI : Inv n S) (hi : 0 ≤ i ∧ i + 5 ≤ L) (hx : ∀ j, z_in (xs j)) (hk : ∀ S2, Inv (n + 1) S2 → ∀ v5 v6, z_G (mLw hh) (zFL L xs c0 s0) (10 * n + 10) 1832 [some (zR 64), some (zR 0), some (zR 7), some (zR 63), some (zI i), v5, v6] [] S2) : z_G (mLw hh) (zFL L xs c0 s0) (10 * n) 280 [some (zR 64), some (zR 0), some (zR 7), some (zR 63), some (zI i), v5, v6] [] S := by
  obtain ⟨k, v, S1, S2, w1, t1, e5, e0, hI2⟩ := st n S (xs (i + 1).toNat) (xs (i + 2).toNat) hn hI (hx _) (hx _)
  have e0' : ¬ k = 0 ∨ S2.2.2 = v := by
    by_cases q : k = 0
    · exact .inr (e0 q)
    · exact .inl q
  refine g_aload_n (i := 1) (q := 281) dL_law_280 rfl rfl rfl ?_
  refine g_aload_n (i := 0) (q := 282) dL_law_281 rfl rfl rfl ?_
  refine g_iload (q := 284) dL_law_282 rfl rfl ?_
  refine g_iconst (q := 285) dL_law_284 rfl ⟨by decide, by decide⟩ ?_
  refine g_iadd (q := 286) dL_law_285 rfl (by constructor <;> omega) ?_
  refine g_sld (q := 287) dL_law_286 rfl (by omega) (by omega) ?_
  refine g_aload_n (i := 0) (q := 288) dL_law_287 rfl rfl rfl ?_
  refine g_iload (q := 290) dL_law_288 rfl rfl ?_
  refine g_iconst (q := 291) dL_law_290 rfl ⟨by decide, by decide⟩ ?_
  refine g_iadd (q := 292) dL_law_291 rfl (by constructor <;> omega) ?_
  refine g_sld (q := 293) dL_law_292 rfl (by omega) (by omega) ?_
  refine g_aload_n (i := 3) (q := 294) dL_law_293 rfl rfl rfl ?_
  refine g_fnW (as := [zR 0, zI (xs (i + 1).toNat), zI (xs (i + 2).toNat), zR 63]) (q := 297) (u' := 10 * n + 3) dL_law_294 rfl wk_113 rfl rfl (Nat.le_of_ble_eq_true rfl) ⟨Nat.le_of_ble_eq_true rfl, Nat.le_of_ble_eq_true rfl⟩ rfl (show 10 * n + 3 ≤ 6000 by omega) (w1) ?_
  refine g_istore (q := 299) dL_law_297 rfl (Nat.le_of_ble_eq_true rfl) ?_
  refine g_aload_n (i := 2) (q := 300) dL_law_299 rfl rfl rfl ?_
  refine g_aload_n (i := 0) (q := 301) dL_law_300 rfl rfl rfl ?_
  refine g_iload (q := 303) dL_law_301 rfl rfl ?_
  refine g_iconst (q := 304) dL_law_303 rfl ⟨by decide, by decide⟩ ?_
  refine g_iadd (q := 305) dL_law_304 rfl (by constructor <;> omega) ?_
  refine g_sld (q := 306) dL_law_305 rfl (by omega) (by omega) ?_
  refine g_aload_n (i := 0) (q := 307) dL_law_306 rfl rfl rfl ?_
  refine g_iload (q := 309) dL_law_307 rfl rfl ?_
  refine g_iconst (q := 310) dL_law_309 rfl ⟨by decide, by decide⟩ ?_
  refine g_iadd (q := 311) dL_law_310 rfl (by constructor <;> omega) ?_
  refine g_sld (q := 312) dL_law_311 rfl (by omega) (by omega) ?_
  refine g_fnV (as := [zI (xs (i + 1).toNat), zI (xs (i + 2).toNat)]) (q := 315) (u' := 10 * n + 3) dL_law_312 rfl ck_L_115 rfl rfl rfl (Nat.le_of_ble_eq_true rfl) ⟨Nat.le_of_ble_eq_true rfl, Nat.le_of_ble_eq_true rfl⟩ rfl (show 10 * n + 3 ≤ 6000 by omega) (t1) rfl ?_
  refine g_istore (q := 317) dL_law_315 rfl (Nat.le_of_ble_eq_true rfl) ?_
  refine g_aload_n (i := 2) (q := 318) dL_law_317 rfl rfl rfl ?_
  refine g_fnV (as := []) (q := 321) (u' := 10 * n + 3) dL_law_318 rfl ck_L_105 rfl rfl rfl (Nat.le_of_ble_eq_true rfl) ⟨Nat.le_of_ble_eq_true rfl, Nat.le_of_ble_eq_true rfl⟩ rfl (show 10 * n + 3 ≤ 6000 by omega) (t_thrown) rfl ?_
  refine g_iload (q := 323) dL_law_321 rfl rfl ?_
  refine g_icmp_eq (t := 328) (q := 326) dL_law_323 (by decide) rfl (fun h323 => ?_) (fun h323 => (False.elim (by omega)))
  refine g_iload (q := 330) dL_law_328 rfl rfl ?_
  refine g_if_ne (t := 345) (q := 333) dL_law_330 (by decide) rfl (fun h330 => ?_) (fun h330 => ?_)
  · refine g_goto (q := 0) (t := 1832) dL_law_345 (by decide) ?_
    exact z_G.widen (by omega) (hk S2 hI2 _ _)
  · refine g_aload_n (i := 3) (q := 334) dL_law_333 rfl rfl rfl ?_
    refine g_iconst (q := 335) dL_law_334 rfl ⟨by decide, by decide⟩ ?_
    refine g_lald (q := 336) dL_law_335 rfl ?_
    refine g_iload (q := 338) dL_law_336 rfl rfl ?_
    refine g_i2l (q := 339) dL_law_338 rfl ?_
    refine g_lcmp (q := 340) dL_law_339 rfl (fun z339 hz339 => ?_)
    refine g_if_eq (t := 345) (q := 343) dL_law_340 (by decide) rfl (fun h340 => ?_) (fun h340 => (False.elim (by omega)))
    refine g_goto (q := 0) (t := 1832) dL_law_345 (by decide) ?_
    exact z_G.widen (by omega) (hk S2 hI2 _ _)
theorem lc_end {Inv : Nat → zS → Prop} (st : st_end Inv) (hL0 : L ≤ 2560) {n : Nat} {S : zS} {i : Int} {v5 v6 : Option zV} (hn : n < 512) (hI : Inv n S) (hi : 0 ≤ i ∧ i + 5 ≤ L) (hx : ∀ j, z_in (xs j)) (hk : ∀ S2, Inv (n + 1) S2 → ∀ v5 v6, z_G (mLw hh) (zFL L xs c0 s0) (10 * n + 10) 1832 [some (zR 64), some (zR 0), some (zR 7), some (zR 63), some (zI i), v5, v6] [] S2) : z_G (mLw hh) (zFL L xs c0 s0) (10 * n) 348 [some (zR 64), some (zR 0), some (zR 7), some (zR 63), some (zI i), v5, v6] [] S := by
  obtain ⟨k, v, S1, S2, w1, t1, e5, e0, hI2⟩ := st n S (xs (i + 1).toNat) hn hI (hx _)
  have e0' : ¬ k = 0 ∨ S2.2.2 = v := by
    by_cases q : k = 0
    · exact .inr (e0 q)
    · exact .inl q
  refine g_aload_n (i := 1) (q := 349) dL_law_348 rfl rfl rfl ?_
  refine g_aload_n (i := 0) (q := 350) dL_law_349 rfl rfl rfl ?_
  refine g_iload (q := 352) dL_law_350 rfl rfl ?_
  refine g_iconst (q := 353) dL_law_352 rfl ⟨by decide, by decide⟩ ?_
  refine g_iadd (q := 354) dL_law_353 rfl (by constructor <;> omega) ?_
  refine g_sld (q := 355) dL_law_354 rfl (by omega) (by omega) ?_
  refine g_aload_n (i := 3) (q := 356) dL_law_355 rfl rfl rfl ?_
  refine g_fnW (as := [zR 0, zI (xs (i + 1).toNat), zR 63]) (q := 359) (u' := 10 * n + 2) dL_law_356 rfl wk_116 rfl rfl (Nat.le_of_ble_eq_true rfl) ⟨Nat.le_of_ble_eq_true rfl, Nat.le_of_ble_eq_true rfl⟩ rfl (show 10 * n + 2 ≤ 6000 by omega) (w1) ?_
  refine g_istore (q := 361) dL_law_359 rfl (Nat.le_of_ble_eq_true rfl) ?_
  refine g_aload_n (i := 2) (q := 362) dL_law_361 rfl rfl rfl ?_
  refine g_aload_n (i := 0) (q := 363) dL_law_362 rfl rfl rfl ?_
  refine g_iload (q := 365) dL_law_363 rfl rfl ?_
  refine g_iconst (q := 366) dL_law_365 rfl ⟨by decide, by decide⟩ ?_
  refine g_iadd (q := 367) dL_law_366 rfl (by constructor <;> omega) ?_
  refine g_sld (q := 368) dL_law_367 rfl (by omega) (by omega) ?_
  refine g_fnV (as := [zI (xs (i + 1).toNat)]) (q := 371) (u' := 10 * n + 2) dL_law_368 rfl ck_L_118 rfl rfl rfl (Nat.le_of_ble_eq_true rfl) ⟨Nat.le_of_ble_eq_true rfl, Nat.le_of_ble_eq_true rfl⟩ rfl (show 10 * n + 2 ≤ 6000 by omega) (t1) rfl ?_
  refine g_istore (q := 373) dL_law_371 rfl (Nat.le_of_ble_eq_true rfl) ?_
  refine g_aload_n (i := 2) (q := 374) dL_law_373 rfl rfl rfl ?_
  refine g_fnV (as := []) (q := 377) (u' := 10 * n + 2) dL_law_374 rfl ck_L_105 rfl rfl rfl (Nat.le_of_ble_eq_true rfl) ⟨Nat.le_of_ble_eq_true rfl, Nat.le_of_ble_eq_true rfl⟩ rfl (show 10 * n + 2 ≤ 6000 by omega) (t_thrown) rfl ?_
  refine g_iload (q := 379) dL_law_377 rfl rfl ?_
  refine g_icmp_eq (t := 384) (q := 382) dL_law_379 (by decide) rfl (fun h379 => ?_) (fun h379 => (False.elim (by omega)))
  refine g_iload (q := 386) dL_law_384 rfl rfl ?_
  refine g_if_ne (t := 401) (q := 389) dL_law_386 (by decide) rfl (fun h386 => ?_) (fun h386 => ?_)
  · refine g_goto (q := 0) (t := 1832) dL_law_401 (by decide) ?_
    exact z_G.widen (by omega) (hk S2 hI2 _ _)
  · refine g_aload_n (i := 3) (q := 390) dL_law_389 rfl rfl rfl ?_
    refine g_iconst (q := 391) dL_law_390 rfl ⟨by decide, by decide⟩ ?_
    refine g_lald (q := 392) dL_law_391 rfl ?_
    refine g_iload (q := 394) dL_law_392 rfl rfl ?_
    refine g_i2l (q := 395) dL_law_394 rfl ?_
    refine g_lcmp (q := 396) dL_law_395 rfl (fun z395 hz395 => ?_)
    refine g_if_eq (t := 401) (q := 399) dL_law_396 (by decide) rfl (fun h396 => ?_) (fun h396 => (False.elim (by omega)))
    refine g_goto (q := 0) (t := 1832) dL_law_401 (by decide) ?_
    exact z_G.widen (by omega) (hk S2 hI2 _ _)
theorem lc_swap {Inv : Nat → zS → Prop} (st : st_swap Inv) (hL0 : L ≤ 2560) {n : Nat} {S : zS} {i : Int} {v5 v6 : Option zV} (hn : n < 512) (hI : Inv n S) (hi : 0 ≤ i ∧ i + 5 ≤ L) (hx : ∀ j, z_in (xs j)) (hk : ∀ S2, Inv (n + 1) S2 → ∀ v5 v6, z_G (mLw hh) (zFL L xs c0 s0) (10 * n + 10) 1832 [some (zR 64), some (zR 0), some (zR 7), some (zR 63), some (zI i), v5, v6] [] S2) : z_G (mLw hh) (zFL L xs c0 s0) (10 * n) 404 [some (zR 64), some (zR 0), some (zR 7), some (zR 63), some (zI i), v5, v6] [] S := by
  obtain ⟨k, v, S1, S2, w1, t1, e5, e0, hI2⟩ := st n S (xs (i + 1).toNat) (xs (i + 2).toNat) hn hI (hx _) (hx _)
  have e0' : ¬ k = 0 ∨ S2.2.2 = v := by
    by_cases q : k = 0
    · exact .inr (e0 q)
    · exact .inl q
  refine g_aload_n (i := 1) (q := 405) dL_law_404 rfl rfl rfl ?_
  refine g_aload_n (i := 0) (q := 406) dL_law_405 rfl rfl rfl ?_
  refine g_iload (q := 408) dL_law_406 rfl rfl ?_
  refine g_iconst (q := 409) dL_law_408 rfl ⟨by decide, by decide⟩ ?_
  refine g_iadd (q := 410) dL_law_409 rfl (by constructor <;> omega) ?_
  refine g_sld (q := 411) dL_law_410 rfl (by omega) (by omega) ?_
  refine g_aload_n (i := 0) (q := 412) dL_law_411 rfl rfl rfl ?_
  refine g_iload (q := 414) dL_law_412 rfl rfl ?_
  refine g_iconst (q := 415) dL_law_414 rfl ⟨by decide, by decide⟩ ?_
  refine g_iadd (q := 416) dL_law_415 rfl (by constructor <;> omega) ?_
  refine g_sld (q := 417) dL_law_416 rfl (by omega) (by omega) ?_
  refine g_aload_n (i := 3) (q := 418) dL_law_417 rfl rfl rfl ?_
  refine g_fnW (as := [zR 0, zI (xs (i + 1).toNat), zI (xs (i + 2).toNat), zR 63]) (q := 421) (u' := 10 * n + 3) dL_law_418 rfl wk_119 rfl rfl (Nat.le_of_ble_eq_true rfl) ⟨Nat.le_of_ble_eq_true rfl, Nat.le_of_ble_eq_true rfl⟩ rfl (show 10 * n + 3 ≤ 6000 by omega) (w1) ?_
  refine g_istore (q := 423) dL_law_421 rfl (Nat.le_of_ble_eq_true rfl) ?_
  refine g_aload_n (i := 2) (q := 424) dL_law_423 rfl rfl rfl ?_
  refine g_aload_n (i := 0) (q := 425) dL_law_424 rfl rfl rfl ?_
  refine g_iload (q := 427) dL_law_425 rfl rfl ?_
  refine g_iconst (q := 428) dL_law_427 rfl ⟨by decide, by decide⟩ ?_
  refine g_iadd (q := 429) dL_law_428 rfl (by constructor <;> omega) ?_
  refine g_sld (q := 430) dL_law_429 rfl (by omega) (by omega) ?_
  refine g_aload_n (i := 0) (q := 431) dL_law_430 rfl rfl rfl ?_
  refine g_iload (q := 433) dL_law_431 rfl rfl ?_
  refine g_iconst (q := 434) dL_law_433 rfl ⟨by decide, by decide⟩ ?_
  refine g_iadd (q := 435) dL_law_434 rfl (by constructor <;> omega) ?_
  refine g_sld (q := 436) dL_law_435 rfl (by omega) (by omega) ?_
  refine g_fnV (as := [zI (xs (i + 1).toNat), zI (xs (i + 2).toNat)]) (q := 439) (u' := 10 * n + 3) dL_law_436 rfl ck_L_121 rfl rfl rfl (Nat.le_of_ble_eq_true rfl) ⟨Nat.le_of_ble_eq_true rfl, Nat.le_of_ble_eq_true rfl⟩ rfl (show 10 * n + 3 ≤ 6000 by omega) (t1) rfl ?_
  refine g_istore (q := 441) dL_law_439 rfl (Nat.le_of_ble_eq_true rfl) ?_
  refine g_aload_n (i := 2) (q := 442) dL_law_441 rfl rfl rfl ?_
  refine g_fnV (as := []) (q := 445) (u' := 10 * n + 3) dL_law_442 rfl ck_L_105 rfl rfl rfl (Nat.le_of_ble_eq_true rfl) ⟨Nat.le_of_ble_eq_true rfl, Nat.le_of_ble_eq_true rfl⟩ rfl (show 10 * n + 3 ≤ 6000 by omega) (t_thrown) rfl ?_
  refine g_iload (q := 447) dL_law_445 rfl rfl ?_
  refine g_icmp_eq (t := 452) (q := 450) dL_law_447 (by decide) rfl (fun h447 => ?_) (fun h447 => (False.elim (by omega)))
  refine g_iload (q := 454) dL_law_452 rfl rfl ?_
  refine g_if_ne (t := 469) (q := 457) dL_law_454 (by decide) rfl (fun h454 => ?_) (fun h454 => ?_)
  · refine g_goto (q := 0) (t := 1832) dL_law_469 (by decide) ?_
    exact z_G.widen (by omega) (hk S2 hI2 _ _)
  · refine g_aload_n (i := 3) (q := 458) dL_law_457 rfl rfl rfl ?_
    refine g_iconst (q := 459) dL_law_458 rfl ⟨by decide, by decide⟩ ?_
    refine g_lald (q := 460) dL_law_459 rfl ?_
    refine g_iload (q := 462) dL_law_460 rfl rfl ?_
    refine g_i2l (q := 463) dL_law_462 rfl ?_
    refine g_lcmp (q := 464) dL_law_463 rfl (fun z463 hz463 => ?_)
    refine g_if_eq (t := 469) (q := 467) dL_law_464 (by decide) rfl (fun h464 => ?_) (fun h464 => (False.elim (by omega)))
    refine g_goto (q := 0) (t := 1832) dL_law_469 (by decide) ?_
    exact z_G.widen (by omega) (hk S2 hI2 _ _)
theorem lc_emergency {Inv : Nat → zS → Prop} (st : st_emergency Inv) (hL0 : L ≤ 2560) {n : Nat} {S : zS} {i : Int} {v5 v6 : Option zV} (hn : n < 512) (hI : Inv n S) (hi : 0 ≤ i ∧ i + 5 ≤ L) (hx : ∀ j, z_in (xs j)) (hk : ∀ S2, Inv (n + 1) S2 → ∀ v5 v6, z_G (mLw hh) (zFL L xs c0 s0) (10 * n + 10) 1832 [some (zR 64), some (zR 0), some (zR 7), some (zR 63), some (zI i), v5, v6] [] S2) : z_G (mLw hh) (zFL L xs c0 s0) (10 * n) 472 [some (zR 64), some (zR 0), some (zR 7), some (zR 63), some (zI i), v5, v6] [] S := by
  obtain ⟨k, v, S1, S2, w1, t1, e5, e0, hI2⟩ := st n S (xs (i + 1).toNat) hn hI (hx _)
  have e0' : ¬ k = 0 ∨ S2.2.2 = v := by
    by_cases q : k = 0
    · exact .inr (e0 q)
    · exact .inl q
  refine g_aload_n (i := 1) (q := 473) dL_law_472 rfl rfl rfl ?_
  refine g_aload_n (i := 0) (q := 474) dL_law_473 rfl rfl rfl ?_
  refine g_iload (q := 476) dL_law_474 rfl rfl ?_
  refine g_iconst (q := 477) dL_law_476 rfl ⟨by decide, by decide⟩ ?_
  refine g_iadd (q := 478) dL_law_477 rfl (by constructor <;> omega) ?_
  refine g_sld (q := 479) dL_law_478 rfl (by omega) (by omega) ?_
  refine g_aload_n (i := 3) (q := 480) dL_law_479 rfl rfl rfl ?_
  refine g_fnW (as := [zR 0, zI (xs (i + 1).toNat), zR 63]) (q := 483) (u' := 10 * n + 2) dL_law_480 rfl wk_122 rfl rfl (Nat.le_of_ble_eq_true rfl) ⟨Nat.le_of_ble_eq_true rfl, Nat.le_of_ble_eq_true rfl⟩ rfl (show 10 * n + 2 ≤ 6000 by omega) (w1) ?_
  refine g_istore (q := 485) dL_law_483 rfl (Nat.le_of_ble_eq_true rfl) ?_
  refine g_aload_n (i := 2) (q := 486) dL_law_485 rfl rfl rfl ?_
  refine g_aload_n (i := 0) (q := 487) dL_law_486 rfl rfl rfl ?_
  refine g_iload (q := 489) dL_law_487 rfl rfl ?_
  refine g_iconst (q := 490) dL_law_489 rfl ⟨by decide, by decide⟩ ?_
  refine g_iadd (q := 491) dL_law_490 rfl (by constructor <;> omega) ?_
  refine g_sld (q := 492) dL_law_491 rfl (by omega) (by omega) ?_
  refine g_fnV (as := [zI (xs (i + 1).toNat)]) (q := 495) (u' := 10 * n + 2) dL_law_492 rfl ck_L_124 rfl rfl rfl (Nat.le_of_ble_eq_true rfl) ⟨Nat.le_of_ble_eq_true rfl, Nat.le_of_ble_eq_true rfl⟩ rfl (show 10 * n + 2 ≤ 6000 by omega) (t1) rfl ?_
  refine g_istore (q := 497) dL_law_495 rfl (Nat.le_of_ble_eq_true rfl) ?_
  refine g_aload_n (i := 2) (q := 498) dL_law_497 rfl rfl rfl ?_
  refine g_fnV (as := []) (q := 501) (u' := 10 * n + 2) dL_law_498 rfl ck_L_105 rfl rfl rfl (Nat.le_of_ble_eq_true rfl) ⟨Nat.le_of_ble_eq_true rfl, Nat.le_of_ble_eq_true rfl⟩ rfl (show 10 * n + 2 ≤ 6000 by omega) (t_thrown) rfl ?_
  refine g_iload (q := 503) dL_law_501 rfl rfl ?_
  refine g_icmp_eq (t := 508) (q := 506) dL_law_503 (by decide) rfl (fun h503 => ?_) (fun h503 => (False.elim (by omega)))
  refine g_iload (q := 510) dL_law_508 rfl rfl ?_
  refine g_if_ne (t := 525) (q := 513) dL_law_510 (by decide) rfl (fun h510 => ?_) (fun h510 => ?_)
  · refine g_goto (q := 0) (t := 1832) dL_law_525 (by decide) ?_
    exact z_G.widen (by omega) (hk S2 hI2 _ _)
  · refine g_aload_n (i := 3) (q := 514) dL_law_513 rfl rfl rfl ?_
    refine g_iconst (q := 515) dL_law_514 rfl ⟨by decide, by decide⟩ ?_
    refine g_lald (q := 516) dL_law_515 rfl ?_
    refine g_iload (q := 518) dL_law_516 rfl rfl ?_
    refine g_i2l (q := 519) dL_law_518 rfl ?_
    refine g_lcmp (q := 520) dL_law_519 rfl (fun z519 hz519 => ?_)
    refine g_if_eq (t := 525) (q := 523) dL_law_520 (by decide) rfl (fun h520 => ?_) (fun h520 => (False.elim (by omega)))
    refine g_goto (q := 0) (t := 1832) dL_law_525 (by decide) ?_
    exact z_G.widen (by omega) (hk S2 hI2 _ _)
theorem lc_endFirm {Inv : Nat → zS → Prop} (st : st_endFirm Inv) (hL0 : L ≤ 2560) {n : Nat} {S : zS} {i : Int} {v5 v6 : Option zV} (hn : n < 512) (hI : Inv n S) (hi : 0 ≤ i ∧ i + 5 ≤ L) (hx : ∀ j, z_in (xs j)) (hk : ∀ S2, Inv (n + 1) S2 → ∀ v5 v6, z_G (mLw hh) (zFL L xs c0 s0) (10 * n + 10) 1832 [some (zR 64), some (zR 0), some (zR 7), some (zR 63), some (zI i), v5, v6] [] S2) : z_G (mLw hh) (zFL L xs c0 s0) (10 * n) 528 [some (zR 64), some (zR 0), some (zR 7), some (zR 63), some (zI i), v5, v6] [] S := by
  obtain ⟨k, v, S1, S2, w1, t1, e5, e0, hI2⟩ := st n S (xs (i + 1).toNat) (xs (i + 2).toNat) hn hI (hx _) (hx _)
  have e0' : ¬ k = 0 ∨ S2.2.2 = v := by
    by_cases q : k = 0
    · exact .inr (e0 q)
    · exact .inl q
  refine g_aload_n (i := 1) (q := 529) dL_law_528 rfl rfl rfl ?_
  refine g_aload_n (i := 0) (q := 530) dL_law_529 rfl rfl rfl ?_
  refine g_iload (q := 532) dL_law_530 rfl rfl ?_
  refine g_iconst (q := 533) dL_law_532 rfl ⟨by decide, by decide⟩ ?_
  refine g_iadd (q := 534) dL_law_533 rfl (by constructor <;> omega) ?_
  refine g_sld (q := 535) dL_law_534 rfl (by omega) (by omega) ?_
  refine g_aload_n (i := 0) (q := 536) dL_law_535 rfl rfl rfl ?_
  refine g_iload (q := 538) dL_law_536 rfl rfl ?_
  refine g_iconst (q := 539) dL_law_538 rfl ⟨by decide, by decide⟩ ?_
  refine g_iadd (q := 540) dL_law_539 rfl (by constructor <;> omega) ?_
  refine g_sld (q := 541) dL_law_540 rfl (by omega) (by omega) ?_
  refine g_aload_n (i := 3) (q := 542) dL_law_541 rfl rfl rfl ?_
  refine g_fnW (as := [zR 0, zI (xs (i + 1).toNat), zI (xs (i + 2).toNat), zR 63]) (q := 545) (u' := 10 * n + 3) dL_law_542 rfl wk_125 rfl rfl (Nat.le_of_ble_eq_true rfl) ⟨Nat.le_of_ble_eq_true rfl, Nat.le_of_ble_eq_true rfl⟩ rfl (show 10 * n + 3 ≤ 6000 by omega) (w1) ?_
  refine g_istore (q := 547) dL_law_545 rfl (Nat.le_of_ble_eq_true rfl) ?_
  refine g_aload_n (i := 2) (q := 548) dL_law_547 rfl rfl rfl ?_
  refine g_aload_n (i := 0) (q := 549) dL_law_548 rfl rfl rfl ?_
  refine g_iload (q := 551) dL_law_549 rfl rfl ?_
  refine g_iconst (q := 552) dL_law_551 rfl ⟨by decide, by decide⟩ ?_
  refine g_iadd (q := 553) dL_law_552 rfl (by constructor <;> omega) ?_
  refine g_sld (q := 554) dL_law_553 rfl (by omega) (by omega) ?_
  refine g_aload_n (i := 0) (q := 555) dL_law_554 rfl rfl rfl ?_
  refine g_iload (q := 557) dL_law_555 rfl rfl ?_
  refine g_iconst (q := 558) dL_law_557 rfl ⟨by decide, by decide⟩ ?_
  refine g_iadd (q := 559) dL_law_558 rfl (by constructor <;> omega) ?_
  refine g_sld (q := 560) dL_law_559 rfl (by omega) (by omega) ?_
  refine g_fnV (as := [zI (xs (i + 1).toNat), zI (xs (i + 2).toNat)]) (q := 563) (u' := 10 * n + 3) dL_law_560 rfl ck_L_127 rfl rfl rfl (Nat.le_of_ble_eq_true rfl) ⟨Nat.le_of_ble_eq_true rfl, Nat.le_of_ble_eq_true rfl⟩ rfl (show 10 * n + 3 ≤ 6000 by omega) (t1) rfl ?_
  refine g_istore (q := 565) dL_law_563 rfl (Nat.le_of_ble_eq_true rfl) ?_
  refine g_aload_n (i := 2) (q := 566) dL_law_565 rfl rfl rfl ?_
  refine g_fnV (as := []) (q := 569) (u' := 10 * n + 3) dL_law_566 rfl ck_L_105 rfl rfl rfl (Nat.le_of_ble_eq_true rfl) ⟨Nat.le_of_ble_eq_true rfl, Nat.le_of_ble_eq_true rfl⟩ rfl (show 10 * n + 3 ≤ 6000 by omega) (t_thrown) rfl ?_
  refine g_iload (q := 571) dL_law_569 rfl rfl ?_
  refine g_icmp_eq (t := 576) (q := 574) dL_law_571 (by decide) rfl (fun h571 => ?_) (fun h571 => (False.elim (by omega)))
  refine g_iload (q := 578) dL_law_576 rfl rfl ?_
  refine g_if_ne (t := 593) (q := 581) dL_law_578 (by decide) rfl (fun h578 => ?_) (fun h578 => ?_)
  · refine g_goto (q := 0) (t := 1832) dL_law_593 (by decide) ?_
    exact z_G.widen (by omega) (hk S2 hI2 _ _)
  · refine g_aload_n (i := 3) (q := 582) dL_law_581 rfl rfl rfl ?_
    refine g_iconst (q := 583) dL_law_582 rfl ⟨by decide, by decide⟩ ?_
    refine g_lald (q := 584) dL_law_583 rfl ?_
    refine g_iload (q := 586) dL_law_584 rfl rfl ?_
    refine g_i2l (q := 587) dL_law_586 rfl ?_
    refine g_lcmp (q := 588) dL_law_587 rfl (fun z587 hz587 => ?_)
    refine g_if_eq (t := 593) (q := 591) dL_law_588 (by decide) rfl (fun h588 => ?_) (fun h588 => (False.elim (by omega)))
    refine g_goto (q := 0) (t := 1832) dL_law_593 (by decide) ?_
    exact z_G.widen (by omega) (hk S2 hI2 _ _)
theorem lc_order {Inv : Nat → zS → Prop} (st : st_order Inv) (hL0 : L ≤ 2560) {n : Nat} {S : zS} {i : Int} {v5 v6 : Option zV} (hn : n < 512) (hI : Inv n S) (hi : 0 ≤ i ∧ i + 5 ≤ L) (hx : ∀ j, z_in (xs j)) (hk : ∀ S2, Inv (n + 1) S2 → ∀ v5 v6, z_G (mLw hh) (zFL L xs c0 s0) (10 * n + 10) 1832 [some (zR 64), some (zR 0), some (zR 7), some (zR 63), some (zI i), v5, v6] [] S2) : z_G (mLw hh) (zFL L xs c0 s0) (10 * n) 596 [some (zR 64), some (zR 0), some (zR 7), some (zR 63), some (zI i), v5, v6] [] S := by
  obtain ⟨k, v, S1, S2, w1, t1, e5, e0, hI2⟩ := st n S (xs (i + 1).toNat) (xs (i + 2).toNat) (xs (i + 3).toNat) (xs (i + 4).toNat) hn hI (hx _) (hx _) (hx _) (hx _)
  have e0' : ¬ k = 0 ∨ S2.2.2 = v := by
    by_cases q : k = 0
    · exact .inr (e0 q)
    · exact .inl q
  refine g_aload_n (i := 1) (q := 597) dL_law_596 rfl rfl rfl ?_
  refine g_aload_n (i := 0) (q := 598) dL_law_597 rfl rfl rfl ?_
  refine g_iload (q := 600) dL_law_598 rfl rfl ?_
  refine g_iconst (q := 601) dL_law_600 rfl ⟨by decide, by decide⟩ ?_
  refine g_iadd (q := 602) dL_law_601 rfl (by constructor <;> omega) ?_
  refine g_sld (q := 603) dL_law_602 rfl (by omega) (by omega) ?_
  refine g_aload_n (i := 0) (q := 604) dL_law_603 rfl rfl rfl ?_
  refine g_iload (q := 606) dL_law_604 rfl rfl ?_
  refine g_iconst (q := 607) dL_law_606 rfl ⟨by decide, by decide⟩ ?_
  refine g_iadd (q := 608) dL_law_607 rfl (by constructor <;> omega) ?_
  refine g_sld (q := 609) dL_law_608 rfl (by omega) (by omega) ?_
  refine g_aload_n (i := 0) (q := 610) dL_law_609 rfl rfl rfl ?_
  refine g_iload (q := 612) dL_law_610 rfl rfl ?_
  refine g_iconst (q := 613) dL_law_612 rfl ⟨by decide, by decide⟩ ?_
  refine g_iadd (q := 614) dL_law_613 rfl (by constructor <;> omega) ?_
  refine g_sld (q := 615) dL_law_614 rfl (by omega) (by omega) ?_
  refine g_aload_n (i := 0) (q := 616) dL_law_615 rfl rfl rfl ?_
  refine g_iload (q := 618) dL_law_616 rfl rfl ?_
  refine g_iconst (q := 619) dL_law_618 rfl ⟨by decide, by decide⟩ ?_
  refine g_iadd (q := 620) dL_law_619 rfl (by constructor <;> omega) ?_
  refine g_sld (q := 621) dL_law_620 rfl (by omega) (by omega) ?_
  refine g_aload_n (i := 3) (q := 622) dL_law_621 rfl rfl rfl ?_
  refine g_fnW (as := [zR 0, zI (xs (i + 1).toNat), zI (xs (i + 2).toNat), zI (xs (i + 3).toNat), zI (xs (i + 4).toNat), zR 63]) (q := 625) (u' := 10 * n + 4) dL_law_622 rfl wk_128 rfl rfl (Nat.le_of_ble_eq_true rfl) ⟨Nat.le_of_ble_eq_true rfl, Nat.le_of_ble_eq_true rfl⟩ rfl (show 10 * n + 4 ≤ 6000 by omega) (w1) ?_
  refine g_istore (q := 627) dL_law_625 rfl (Nat.le_of_ble_eq_true rfl) ?_
  refine g_aload_n (i := 2) (q := 628) dL_law_627 rfl rfl rfl ?_
  refine g_aload_n (i := 0) (q := 629) dL_law_628 rfl rfl rfl ?_
  refine g_iload (q := 631) dL_law_629 rfl rfl ?_
  refine g_iconst (q := 632) dL_law_631 rfl ⟨by decide, by decide⟩ ?_
  refine g_iadd (q := 633) dL_law_632 rfl (by constructor <;> omega) ?_
  refine g_sld (q := 634) dL_law_633 rfl (by omega) (by omega) ?_
  refine g_aload_n (i := 0) (q := 635) dL_law_634 rfl rfl rfl ?_
  refine g_iload (q := 637) dL_law_635 rfl rfl ?_
  refine g_iconst (q := 638) dL_law_637 rfl ⟨by decide, by decide⟩ ?_
  refine g_iadd (q := 639) dL_law_638 rfl (by constructor <;> omega) ?_
  refine g_sld (q := 640) dL_law_639 rfl (by omega) (by omega) ?_
  refine g_aload_n (i := 0) (q := 641) dL_law_640 rfl rfl rfl ?_
  refine g_iload (q := 643) dL_law_641 rfl rfl ?_
  refine g_iconst (q := 644) dL_law_643 rfl ⟨by decide, by decide⟩ ?_
  refine g_iadd (q := 645) dL_law_644 rfl (by constructor <;> omega) ?_
  refine g_sld (q := 646) dL_law_645 rfl (by omega) (by omega) ?_
  refine g_aload_n (i := 0) (q := 647) dL_law_646 rfl rfl rfl ?_
  refine g_iload (q := 649) dL_law_647 rfl rfl ?_
  refine g_iconst (q := 650) dL_law_649 rfl ⟨by decide, by decide⟩ ?_
  refine g_iadd (q := 651) dL_law_650 rfl (by constructor <;> omega) ?_
  refine g_sld (q := 652) dL_law_651 rfl (by omega) (by omega) ?_
  refine g_fnV (as := [zI (xs (i + 1).toNat), zI (xs (i + 2).toNat), zI (xs (i + 3).toNat), zI (xs (i + 4).toNat)]) (q := 655) (u' := 10 * n + 4) dL_law_652 rfl ck_L_131 rfl rfl rfl (Nat.le_of_ble_eq_true rfl) ⟨Nat.le_of_ble_eq_true rfl, Nat.le_of_ble_eq_true rfl⟩ rfl (show 10 * n + 4 ≤ 6000 by omega) (t1) rfl ?_
  refine g_istore (q := 657) dL_law_655 rfl (Nat.le_of_ble_eq_true rfl) ?_
  refine g_aload_n (i := 2) (q := 658) dL_law_657 rfl rfl rfl ?_
  refine g_fnV (as := []) (q := 661) (u' := 10 * n + 4) dL_law_658 rfl ck_L_105 rfl rfl rfl (Nat.le_of_ble_eq_true rfl) ⟨Nat.le_of_ble_eq_true rfl, Nat.le_of_ble_eq_true rfl⟩ rfl (show 10 * n + 4 ≤ 6000 by omega) (t_thrown) rfl ?_
  refine g_iload (q := 663) dL_law_661 rfl rfl ?_
  refine g_icmp_eq (t := 668) (q := 666) dL_law_663 (by decide) rfl (fun h663 => ?_) (fun h663 => (False.elim (by omega)))
  refine g_iload (q := 670) dL_law_668 rfl rfl ?_
  refine g_if_ne (t := 685) (q := 673) dL_law_670 (by decide) rfl (fun h670 => ?_) (fun h670 => ?_)
  · refine g_goto (q := 0) (t := 1832) dL_law_685 (by decide) ?_
    exact z_G.widen (by omega) (hk S2 hI2 _ _)
  · refine g_aload_n (i := 3) (q := 674) dL_law_673 rfl rfl rfl ?_
    refine g_iconst (q := 675) dL_law_674 rfl ⟨by decide, by decide⟩ ?_
    refine g_lald (q := 676) dL_law_675 rfl ?_
    refine g_iload (q := 678) dL_law_676 rfl rfl ?_
    refine g_i2l (q := 679) dL_law_678 rfl ?_
    refine g_lcmp (q := 680) dL_law_679 rfl (fun z679 hz679 => ?_)
    refine g_if_eq (t := 685) (q := 683) dL_law_680 (by decide) rfl (fun h680 => ?_) (fun h680 => (False.elim (by omega)))
    refine g_goto (q := 0) (t := 1832) dL_law_685 (by decide) ?_
    exact z_G.widen (by omega) (hk S2 hI2 _ _)
theorem lc_cancel {Inv : Nat → zS → Prop} (st : st_cancel Inv) (hL0 : L ≤ 2560) {n : Nat} {S : zS} {i : Int} {v5 v6 : Option zV} (hn : n < 512) (hI : Inv n S) (hi : 0 ≤ i ∧ i + 5 ≤ L) (hx : ∀ j, z_in (xs j)) (hk : ∀ S2, Inv (n + 1) S2 → ∀ v5 v6, z_G (mLw hh) (zFL L xs c0 s0) (10 * n + 10) 1832 [some (zR 64), some (zR 0), some (zR 7), some (zR 63), some (zI i), v5, v6] [] S2) : z_G (mLw hh) (zFL L xs c0 s0) (10 * n) 688 [some (zR 64), some (zR 0), some (zR 7), some (zR 63), some (zI i), v5, v6] [] S := by
  obtain ⟨k, v, S1, S2, w1, t1, e5, e0, hI2⟩ := st n S (xs (i + 1).toNat) hn hI (hx _)
  have e0' : ¬ k = 0 ∨ S2.2.2 = v := by
    by_cases q : k = 0
    · exact .inr (e0 q)
    · exact .inl q
  refine g_aload_n (i := 1) (q := 689) dL_law_688 rfl rfl rfl ?_
  refine g_aload_n (i := 0) (q := 690) dL_law_689 rfl rfl rfl ?_
  refine g_iload (q := 692) dL_law_690 rfl rfl ?_
  refine g_iconst (q := 693) dL_law_692 rfl ⟨by decide, by decide⟩ ?_
  refine g_iadd (q := 694) dL_law_693 rfl (by constructor <;> omega) ?_
  refine g_sld (q := 695) dL_law_694 rfl (by omega) (by omega) ?_
  refine g_aload_n (i := 3) (q := 696) dL_law_695 rfl rfl rfl ?_
  refine g_fnW (as := [zR 0, zI (xs (i + 1).toNat), zR 63]) (q := 699) (u' := 10 * n + 2) dL_law_696 rfl wk_132 rfl rfl (Nat.le_of_ble_eq_true rfl) ⟨Nat.le_of_ble_eq_true rfl, Nat.le_of_ble_eq_true rfl⟩ rfl (show 10 * n + 2 ≤ 6000 by omega) (w1) ?_
  refine g_istore (q := 701) dL_law_699 rfl (Nat.le_of_ble_eq_true rfl) ?_
  refine g_aload_n (i := 2) (q := 702) dL_law_701 rfl rfl rfl ?_
  refine g_aload_n (i := 0) (q := 703) dL_law_702 rfl rfl rfl ?_
  refine g_iload (q := 705) dL_law_703 rfl rfl ?_
  refine g_iconst (q := 706) dL_law_705 rfl ⟨by decide, by decide⟩ ?_
  refine g_iadd (q := 707) dL_law_706 rfl (by constructor <;> omega) ?_
  refine g_sld (q := 708) dL_law_707 rfl (by omega) (by omega) ?_
  refine g_fnV (as := [zI (xs (i + 1).toNat)]) (q := 711) (u' := 10 * n + 2) dL_law_708 rfl ck_L_134 rfl rfl rfl (Nat.le_of_ble_eq_true rfl) ⟨Nat.le_of_ble_eq_true rfl, Nat.le_of_ble_eq_true rfl⟩ rfl (show 10 * n + 2 ≤ 6000 by omega) (t1) rfl ?_
  refine g_istore (q := 713) dL_law_711 rfl (Nat.le_of_ble_eq_true rfl) ?_
  refine g_aload_n (i := 2) (q := 714) dL_law_713 rfl rfl rfl ?_
  refine g_fnV (as := []) (q := 717) (u' := 10 * n + 2) dL_law_714 rfl ck_L_105 rfl rfl rfl (Nat.le_of_ble_eq_true rfl) ⟨Nat.le_of_ble_eq_true rfl, Nat.le_of_ble_eq_true rfl⟩ rfl (show 10 * n + 2 ≤ 6000 by omega) (t_thrown) rfl ?_
  refine g_iload (q := 719) dL_law_717 rfl rfl ?_
  refine g_icmp_eq (t := 724) (q := 722) dL_law_719 (by decide) rfl (fun h719 => ?_) (fun h719 => (False.elim (by omega)))
  refine g_iload (q := 726) dL_law_724 rfl rfl ?_
  refine g_if_ne (t := 741) (q := 729) dL_law_726 (by decide) rfl (fun h726 => ?_) (fun h726 => ?_)
  · refine g_goto (q := 0) (t := 1832) dL_law_741 (by decide) ?_
    exact z_G.widen (by omega) (hk S2 hI2 _ _)
  · refine g_aload_n (i := 3) (q := 730) dL_law_729 rfl rfl rfl ?_
    refine g_iconst (q := 731) dL_law_730 rfl ⟨by decide, by decide⟩ ?_
    refine g_lald (q := 732) dL_law_731 rfl ?_
    refine g_iload (q := 734) dL_law_732 rfl rfl ?_
    refine g_i2l (q := 735) dL_law_734 rfl ?_
    refine g_lcmp (q := 736) dL_law_735 rfl (fun z735 hz735 => ?_)
    refine g_if_eq (t := 741) (q := 739) dL_law_736 (by decide) rfl (fun h736 => ?_) (fun h736 => (False.elim (by omega)))
    refine g_goto (q := 0) (t := 1832) dL_law_741 (by decide) ?_
    exact z_G.widen (by omega) (hk S2 hI2 _ _)
theorem lc_reverse {Inv : Nat → zS → Prop} (st : st_reverse Inv) (hL0 : L ≤ 2560) {n : Nat} {S : zS} {i : Int} {v5 v6 : Option zV} (hn : n < 512) (hI : Inv n S) (hi : 0 ≤ i ∧ i + 5 ≤ L) (hx : ∀ j, z_in (xs j)) (hk : ∀ S2, Inv (n + 1) S2 → ∀ v5 v6, z_G (mLw hh) (zFL L xs c0 s0) (10 * n + 10) 1832 [some (zR 64), some (zR 0), some (zR 7), some (zR 63), some (zI i), v5, v6] [] S2) : z_G (mLw hh) (zFL L xs c0 s0) (10 * n) 744 [some (zR 64), some (zR 0), some (zR 7), some (zR 63), some (zI i), v5, v6] [] S := by
  obtain ⟨k, v, S1, S2, w1, t1, e5, e0, hI2⟩ := st n S (xs (i + 1).toNat) hn hI (hx _)
  have e0' : ¬ k = 0 ∨ S2.2.2 = v := by
    by_cases q : k = 0
    · exact .inr (e0 q)
    · exact .inl q
  refine g_aload_n (i := 1) (q := 745) dL_law_744 rfl rfl rfl ?_
  refine g_aload_n (i := 0) (q := 746) dL_law_745 rfl rfl rfl ?_
  refine g_iload (q := 748) dL_law_746 rfl rfl ?_
  refine g_iconst (q := 749) dL_law_748 rfl ⟨by decide, by decide⟩ ?_
  refine g_iadd (q := 750) dL_law_749 rfl (by constructor <;> omega) ?_
  refine g_sld (q := 751) dL_law_750 rfl (by omega) (by omega) ?_
  refine g_aload_n (i := 3) (q := 752) dL_law_751 rfl rfl rfl ?_
  refine g_fnW (as := [zR 0, zI (xs (i + 1).toNat), zR 63]) (q := 755) (u' := 10 * n + 2) dL_law_752 rfl wk_135 rfl rfl (Nat.le_of_ble_eq_true rfl) ⟨Nat.le_of_ble_eq_true rfl, Nat.le_of_ble_eq_true rfl⟩ rfl (show 10 * n + 2 ≤ 6000 by omega) (w1) ?_
  refine g_istore (q := 757) dL_law_755 rfl (Nat.le_of_ble_eq_true rfl) ?_
  refine g_aload_n (i := 2) (q := 758) dL_law_757 rfl rfl rfl ?_
  refine g_aload_n (i := 0) (q := 759) dL_law_758 rfl rfl rfl ?_
  refine g_iload (q := 761) dL_law_759 rfl rfl ?_
  refine g_iconst (q := 762) dL_law_761 rfl ⟨by decide, by decide⟩ ?_
  refine g_iadd (q := 763) dL_law_762 rfl (by constructor <;> omega) ?_
  refine g_sld (q := 764) dL_law_763 rfl (by omega) (by omega) ?_
  refine g_fnV (as := [zI (xs (i + 1).toNat)]) (q := 767) (u' := 10 * n + 2) dL_law_764 rfl ck_L_137 rfl rfl rfl (Nat.le_of_ble_eq_true rfl) ⟨Nat.le_of_ble_eq_true rfl, Nat.le_of_ble_eq_true rfl⟩ rfl (show 10 * n + 2 ≤ 6000 by omega) (t1) rfl ?_
  refine g_istore (q := 769) dL_law_767 rfl (Nat.le_of_ble_eq_true rfl) ?_
  refine g_aload_n (i := 2) (q := 770) dL_law_769 rfl rfl rfl ?_
  refine g_fnV (as := []) (q := 773) (u' := 10 * n + 2) dL_law_770 rfl ck_L_105 rfl rfl rfl (Nat.le_of_ble_eq_true rfl) ⟨Nat.le_of_ble_eq_true rfl, Nat.le_of_ble_eq_true rfl⟩ rfl (show 10 * n + 2 ≤ 6000 by omega) (t_thrown) rfl ?_
  refine g_iload (q := 775) dL_law_773 rfl rfl ?_
  refine g_icmp_eq (t := 780) (q := 778) dL_law_775 (by decide) rfl (fun h775 => ?_) (fun h775 => (False.elim (by omega)))
  refine g_iload (q := 782) dL_law_780 rfl rfl ?_
  refine g_if_ne (t := 797) (q := 785) dL_law_782 (by decide) rfl (fun h782 => ?_) (fun h782 => ?_)
  · refine g_goto (q := 0) (t := 1832) dL_law_797 (by decide) ?_
    exact z_G.widen (by omega) (hk S2 hI2 _ _)
  · refine g_aload_n (i := 3) (q := 786) dL_law_785 rfl rfl rfl ?_
    refine g_iconst (q := 787) dL_law_786 rfl ⟨by decide, by decide⟩ ?_
    refine g_lald (q := 788) dL_law_787 rfl ?_
    refine g_iload (q := 790) dL_law_788 rfl rfl ?_
    refine g_i2l (q := 791) dL_law_790 rfl ?_
    refine g_lcmp (q := 792) dL_law_791 rfl (fun z791 hz791 => ?_)
    refine g_if_eq (t := 797) (q := 795) dL_law_792 (by decide) rfl (fun h792 => ?_) (fun h792 => (False.elim (by omega)))
    refine g_goto (q := 0) (t := 1832) dL_law_797 (by decide) ?_
    exact z_G.widen (by omega) (hk S2 hI2 _ _)
theorem lc_pass {Inv : Nat → zS → Prop} (st : st_pass Inv) (hL0 : L ≤ 2560) {n : Nat} {S : zS} {i : Int} {v5 v6 : Option zV} (hn : n < 512) (hI : Inv n S) (hi : 0 ≤ i ∧ i + 5 ≤ L) (hx : ∀ j, z_in (xs j)) (hk : ∀ S2, Inv (n + 1) S2 → ∀ v5 v6, z_G (mLw hh) (zFL L xs c0 s0) (10 * n + 10) 1832 [some (zR 64), some (zR 0), some (zR 7), some (zR 63), some (zI i), v5, v6] [] S2) : z_G (mLw hh) (zFL L xs c0 s0) (10 * n) 800 [some (zR 64), some (zR 0), some (zR 7), some (zR 63), some (zI i), v5, v6] [] S := by
  obtain ⟨k, v, S1, S2, w1, t1, e5, e0, hI2⟩ := st n S (xs (i + 1).toNat) hn hI (hx _)
  have e0' : ¬ k = 0 ∨ S2.2.2 = v := by
    by_cases q : k = 0
    · exact .inr (e0 q)
    · exact .inl q
  refine g_aload_n (i := 1) (q := 801) dL_law_800 rfl rfl rfl ?_
  refine g_aload_n (i := 0) (q := 802) dL_law_801 rfl rfl rfl ?_
  refine g_iload (q := 804) dL_law_802 rfl rfl ?_
  refine g_iconst (q := 805) dL_law_804 rfl ⟨by decide, by decide⟩ ?_
  refine g_iadd (q := 806) dL_law_805 rfl (by constructor <;> omega) ?_
  refine g_sld (q := 807) dL_law_806 rfl (by omega) (by omega) ?_
  refine g_aload_n (i := 3) (q := 808) dL_law_807 rfl rfl rfl ?_
  refine g_fnW (as := [zR 0, zI (xs (i + 1).toNat), zR 63]) (q := 811) (u' := 10 * n + 1) dL_law_808 rfl wk_138 rfl rfl (Nat.le_of_ble_eq_true rfl) ⟨Nat.le_of_ble_eq_true rfl, Nat.le_of_ble_eq_true rfl⟩ rfl (show 10 * n + 1 ≤ 6000 by omega) (w1) ?_
  refine g_istore (q := 813) dL_law_811 rfl (Nat.le_of_ble_eq_true rfl) ?_
  refine g_aload_n (i := 2) (q := 814) dL_law_813 rfl rfl rfl ?_
  refine g_aload_n (i := 0) (q := 815) dL_law_814 rfl rfl rfl ?_
  refine g_iload (q := 817) dL_law_815 rfl rfl ?_
  refine g_iconst (q := 818) dL_law_817 rfl ⟨by decide, by decide⟩ ?_
  refine g_iadd (q := 819) dL_law_818 rfl (by constructor <;> omega) ?_
  refine g_sld (q := 820) dL_law_819 rfl (by omega) (by omega) ?_
  refine g_fnV (as := [zI (xs (i + 1).toNat)]) (q := 823) (u' := 10 * n + 1) dL_law_820 rfl ck_L_140 rfl rfl rfl (Nat.le_of_ble_eq_true rfl) ⟨Nat.le_of_ble_eq_true rfl, Nat.le_of_ble_eq_true rfl⟩ rfl (show 10 * n + 1 ≤ 6000 by omega) (t1) rfl ?_
  refine g_istore (q := 825) dL_law_823 rfl (Nat.le_of_ble_eq_true rfl) ?_
  refine g_aload_n (i := 2) (q := 826) dL_law_825 rfl rfl rfl ?_
  refine g_fnV (as := []) (q := 829) (u' := 10 * n + 1) dL_law_826 rfl ck_L_105 rfl rfl rfl (Nat.le_of_ble_eq_true rfl) ⟨Nat.le_of_ble_eq_true rfl, Nat.le_of_ble_eq_true rfl⟩ rfl (show 10 * n + 1 ≤ 6000 by omega) (t_thrown) rfl ?_
  refine g_iload (q := 831) dL_law_829 rfl rfl ?_
  refine g_icmp_eq (t := 836) (q := 834) dL_law_831 (by decide) rfl (fun h831 => ?_) (fun h831 => (False.elim (by omega)))
  refine g_iload (q := 838) dL_law_836 rfl rfl ?_
  refine g_if_ne (t := 853) (q := 841) dL_law_838 (by decide) rfl (fun h838 => ?_) (fun h838 => ?_)
  · refine g_goto (q := 0) (t := 1832) dL_law_853 (by decide) ?_
    exact z_G.widen (by omega) (hk S2 hI2 _ _)
  · refine g_aload_n (i := 3) (q := 842) dL_law_841 rfl rfl rfl ?_
    refine g_iconst (q := 843) dL_law_842 rfl ⟨by decide, by decide⟩ ?_
    refine g_lald (q := 844) dL_law_843 rfl ?_
    refine g_iload (q := 846) dL_law_844 rfl rfl ?_
    refine g_i2l (q := 847) dL_law_846 rfl ?_
    refine g_lcmp (q := 848) dL_law_847 rfl (fun z847 hz847 => ?_)
    refine g_if_eq (t := 853) (q := 851) dL_law_848 (by decide) rfl (fun h848 => ?_) (fun h848 => (False.elim (by omega)))
    refine g_goto (q := 0) (t := 1832) dL_law_853 (by decide) ?_
    exact z_G.widen (by omega) (hk S2 hI2 _ _)
theorem lc_setLag {Inv : Nat → zS → Prop} (st : st_setLag Inv) (hL0 : L ≤ 2560) {n : Nat} {S : zS} {i : Int} {v5 v6 : Option zV} (hn : n < 512) (hI : Inv n S) (hi : 0 ≤ i ∧ i + 5 ≤ L) (hx : ∀ j, z_in (xs j)) (hk : ∀ S2, Inv (n + 1) S2 → ∀ v5 v6, z_G (mLw hh) (zFL L xs c0 s0) (10 * n + 10) 1832 [some (zR 64), some (zR 0), some (zR 7), some (zR 63), some (zI i), v5, v6] [] S2) : z_G (mLw hh) (zFL L xs c0 s0) (10 * n) 856 [some (zR 64), some (zR 0), some (zR 7), some (zR 63), some (zI i), v5, v6] [] S := by
  obtain ⟨k, v, S1, S2, w1, t1, e5, e0, hI2⟩ := st n S (xs (i + 1).toNat) (xs (i + 2).toNat) hn hI (hx _) (hx _)
  have e0' : ¬ k = 0 ∨ S2.2.2 = v := by
    by_cases q : k = 0
    · exact .inr (e0 q)
    · exact .inl q
  refine g_aload_n (i := 1) (q := 857) dL_law_856 rfl rfl rfl ?_
  refine g_aload_n (i := 0) (q := 858) dL_law_857 rfl rfl rfl ?_
  refine g_iload (q := 860) dL_law_858 rfl rfl ?_
  refine g_iconst (q := 861) dL_law_860 rfl ⟨by decide, by decide⟩ ?_
  refine g_iadd (q := 862) dL_law_861 rfl (by constructor <;> omega) ?_
  refine g_sld (q := 863) dL_law_862 rfl (by omega) (by omega) ?_
  refine g_aload_n (i := 0) (q := 864) dL_law_863 rfl rfl rfl ?_
  refine g_iload (q := 866) dL_law_864 rfl rfl ?_
  refine g_iconst (q := 867) dL_law_866 rfl ⟨by decide, by decide⟩ ?_
  refine g_iadd (q := 868) dL_law_867 rfl (by constructor <;> omega) ?_
  refine g_sld (q := 869) dL_law_868 rfl (by omega) (by omega) ?_
  refine g_aload_n (i := 3) (q := 870) dL_law_869 rfl rfl rfl ?_
  refine g_fnW (as := [zR 0, zI (xs (i + 1).toNat), zI (xs (i + 2).toNat), zR 63]) (q := 873) (u' := 10 * n + 2) dL_law_870 rfl wk_141 rfl rfl (Nat.le_of_ble_eq_true rfl) ⟨Nat.le_of_ble_eq_true rfl, Nat.le_of_ble_eq_true rfl⟩ rfl (show 10 * n + 2 ≤ 6000 by omega) (w1) ?_
  refine g_istore (q := 875) dL_law_873 rfl (Nat.le_of_ble_eq_true rfl) ?_
  refine g_aload_n (i := 2) (q := 876) dL_law_875 rfl rfl rfl ?_
  refine g_aload_n (i := 0) (q := 877) dL_law_876 rfl rfl rfl ?_
  refine g_iload (q := 879) dL_law_877 rfl rfl ?_
  refine g_iconst (q := 880) dL_law_879 rfl ⟨by decide, by decide⟩ ?_
  refine g_iadd (q := 881) dL_law_880 rfl (by constructor <;> omega) ?_
  refine g_sld (q := 882) dL_law_881 rfl (by omega) (by omega) ?_
  refine g_aload_n (i := 0) (q := 883) dL_law_882 rfl rfl rfl ?_
  refine g_iload (q := 885) dL_law_883 rfl rfl ?_
  refine g_iconst (q := 886) dL_law_885 rfl ⟨by decide, by decide⟩ ?_
  refine g_iadd (q := 887) dL_law_886 rfl (by constructor <;> omega) ?_
  refine g_sld (q := 888) dL_law_887 rfl (by omega) (by omega) ?_
  refine g_fnV (as := [zI (xs (i + 1).toNat), zI (xs (i + 2).toNat)]) (q := 891) (u' := 10 * n + 2) dL_law_888 rfl ck_L_143 rfl rfl rfl (Nat.le_of_ble_eq_true rfl) ⟨Nat.le_of_ble_eq_true rfl, Nat.le_of_ble_eq_true rfl⟩ rfl (show 10 * n + 2 ≤ 6000 by omega) (t1) rfl ?_
  refine g_istore (q := 893) dL_law_891 rfl (Nat.le_of_ble_eq_true rfl) ?_
  refine g_aload_n (i := 2) (q := 894) dL_law_893 rfl rfl rfl ?_
  refine g_fnV (as := []) (q := 897) (u' := 10 * n + 2) dL_law_894 rfl ck_L_105 rfl rfl rfl (Nat.le_of_ble_eq_true rfl) ⟨Nat.le_of_ble_eq_true rfl, Nat.le_of_ble_eq_true rfl⟩ rfl (show 10 * n + 2 ≤ 6000 by omega) (t_thrown) rfl ?_
  refine g_iload (q := 899) dL_law_897 rfl rfl ?_
  refine g_icmp_eq (t := 904) (q := 902) dL_law_899 (by decide) rfl (fun h899 => ?_) (fun h899 => (False.elim (by omega)))
  refine g_iload (q := 906) dL_law_904 rfl rfl ?_
  refine g_if_ne (t := 921) (q := 909) dL_law_906 (by decide) rfl (fun h906 => ?_) (fun h906 => ?_)
  · refine g_goto (q := 0) (t := 1832) dL_law_921 (by decide) ?_
    exact z_G.widen (by omega) (hk S2 hI2 _ _)
  · refine g_aload_n (i := 3) (q := 910) dL_law_909 rfl rfl rfl ?_
    refine g_iconst (q := 911) dL_law_910 rfl ⟨by decide, by decide⟩ ?_
    refine g_lald (q := 912) dL_law_911 rfl ?_
    refine g_iload (q := 914) dL_law_912 rfl rfl ?_
    refine g_i2l (q := 915) dL_law_914 rfl ?_
    refine g_lcmp (q := 916) dL_law_915 rfl (fun z915 hz915 => ?_)
    refine g_if_eq (t := 921) (q := 919) dL_law_916 (by decide) rfl (fun h916 => ?_) (fun h916 => (False.elim (by omega)))
    refine g_goto (q := 0) (t := 1832) dL_law_921 (by decide) ?_
    exact z_G.widen (by omega) (hk S2 hI2 _ _)
theorem lc_setDown {Inv : Nat → zS → Prop} (st : st_setDown Inv) (hL0 : L ≤ 2560) {n : Nat} {S : zS} {i : Int} {v5 v6 : Option zV} (hn : n < 512) (hI : Inv n S) (hi : 0 ≤ i ∧ i + 5 ≤ L) (hx : ∀ j, z_in (xs j)) (hk : ∀ S2, Inv (n + 1) S2 → ∀ v5 v6, z_G (mLw hh) (zFL L xs c0 s0) (10 * n + 10) 1832 [some (zR 64), some (zR 0), some (zR 7), some (zR 63), some (zI i), v5, v6] [] S2) : z_G (mLw hh) (zFL L xs c0 s0) (10 * n) 924 [some (zR 64), some (zR 0), some (zR 7), some (zR 63), some (zI i), v5, v6] [] S := by
  by_cases e : xs (i + 2).toNat = 0
  · obtain ⟨k, v, S1, S2, w1, t1, e5, e0, hI2, hv⟩ := st n S (xs (i + 1).toNat) 0 hn hI (hx _) (.inl rfl)
    have e0' : ¬ k = 0 ∨ S2.2.2 = v := by
      by_cases q : k = 0
      · exact .inr (e0 q)
      · exact .inl q
    refine g_aload_n (i := 1) (q := 925) dL_law_924 rfl rfl rfl ?_
    refine g_aload_n (i := 0) (q := 926) dL_law_925 rfl rfl rfl ?_
    refine g_iload (q := 928) dL_law_926 rfl rfl ?_
    refine g_iconst (q := 929) dL_law_928 rfl ⟨by decide, by decide⟩ ?_
    refine g_iadd (q := 930) dL_law_929 rfl (by constructor <;> omega) ?_
    refine g_sld (q := 931) dL_law_930 rfl (by omega) (by omega) ?_
    refine g_aload_n (i := 0) (q := 932) dL_law_931 rfl rfl rfl ?_
    refine g_iload (q := 934) dL_law_932 rfl rfl ?_
    refine g_iconst (q := 935) dL_law_934 rfl ⟨by decide, by decide⟩ ?_
    refine g_iadd (q := 936) dL_law_935 rfl (by constructor <;> omega) ?_
    refine g_sld (q := 937) dL_law_936 rfl (by omega) (by omega) ?_
    refine g_if_eq (t := 944) (q := 940) dL_law_937 (by decide) rfl (fun h937 => ?_) (fun h937 => (False.elim (by omega)))
    refine g_iconst (q := 945) dL_law_944 rfl ⟨by decide, by decide⟩ ?_
    refine g_aload_n (i := 3) (q := 946) dL_law_945 rfl rfl rfl ?_
    refine g_fnW (as := [zR 0, zI (xs (i + 1).toNat), zI 0, zR 63]) (q := 949) (u' := 10 * n + 1) dL_law_946 rfl wk_144 rfl rfl (Nat.le_of_ble_eq_true rfl) ⟨Nat.le_of_ble_eq_true rfl, Nat.le_of_ble_eq_true rfl⟩ rfl (show 10 * n + 1 ≤ 6000 by omega) (w1) ?_
    refine g_istore (q := 951) dL_law_949 rfl (Nat.le_of_ble_eq_true rfl) ?_
    refine g_aload_n (i := 2) (q := 952) dL_law_951 rfl rfl rfl ?_
    refine g_aload_n (i := 0) (q := 953) dL_law_952 rfl rfl rfl ?_
    refine g_iload (q := 955) dL_law_953 rfl rfl ?_
    refine g_iconst (q := 956) dL_law_955 rfl ⟨by decide, by decide⟩ ?_
    refine g_iadd (q := 957) dL_law_956 rfl (by constructor <;> omega) ?_
    refine g_sld (q := 958) dL_law_957 rfl (by omega) (by omega) ?_
    refine g_aload_n (i := 0) (q := 959) dL_law_958 rfl rfl rfl ?_
    refine g_iload (q := 961) dL_law_959 rfl rfl ?_
    refine g_iconst (q := 962) dL_law_961 rfl ⟨by decide, by decide⟩ ?_
    refine g_iadd (q := 963) dL_law_962 rfl (by constructor <;> omega) ?_
    refine g_sld (q := 964) dL_law_963 rfl (by omega) (by omega) ?_
    refine g_if_eq (t := 971) (q := 967) dL_law_964 (by decide) rfl (fun h964 => ?_) (fun h964 => (False.elim (by omega)))
    refine g_iconst (q := 972) dL_law_971 rfl ⟨by decide, by decide⟩ ?_
    refine g_fnV (as := [zI (xs (i + 1).toNat), zI 0]) (q := 975) (u' := 10 * n + 1) dL_law_972 rfl ck_L_147 rfl rfl rfl (Nat.le_of_ble_eq_true rfl) ⟨Nat.le_of_ble_eq_true rfl, Nat.le_of_ble_eq_true rfl⟩ rfl (show 10 * n + 1 ≤ 6000 by omega) (t1) rfl ?_
    refine g_istore (q := 977) dL_law_975 rfl (Nat.le_of_ble_eq_true rfl) ?_
    refine g_aload_n (i := 2) (q := 978) dL_law_977 rfl rfl rfl ?_
    refine g_fnV (as := []) (q := 981) (u' := 10 * n + 1) dL_law_978 rfl ck_L_105 rfl rfl rfl (Nat.le_of_ble_eq_true rfl) ⟨Nat.le_of_ble_eq_true rfl, Nat.le_of_ble_eq_true rfl⟩ rfl (show 10 * n + 1 ≤ 6000 by omega) (t_thrown) rfl ?_
    refine g_iload (q := 983) dL_law_981 rfl rfl ?_
    refine g_icmp_eq (t := 988) (q := 986) dL_law_983 (by decide) rfl (fun h983 => ?_) (fun h983 => (False.elim (by omega)))
    refine g_iload (q := 990) dL_law_988 rfl rfl ?_
    refine g_if_ne (t := 1012) (q := 993) dL_law_990 (by decide) rfl (fun h990 => ?_) (fun h990 => ?_)
    · refine g_goto (q := 0) (t := 1832) dL_law_1012 (by decide) ?_
      exact z_G.widen (by omega) (hk S2 hI2 _ _)
    · refine g_aload_n (i := 3) (q := 994) dL_law_993 rfl rfl rfl ?_
      refine g_iconst (q := 995) dL_law_994 rfl ⟨by decide, by decide⟩ ?_
      refine g_lald (q := 996) dL_law_995 rfl ?_
      refine g_iload (q := 998) dL_law_996 rfl rfl ?_
      refine g_if_eq (t := 1005) (q := 1001) dL_law_998 (by decide) rfl (fun h998 => ?_) (fun h998 => ?_)
      · refine g_lconst (q := 1006) (z := 0) dL_law_1005 rfl ⟨by decide, by decide⟩ rfl ?_
        refine g_lcmp (q := 1007) dL_law_1006 rfl (fun z1006 hz1006 => ?_)
        refine g_if_eq (t := 1012) (q := 1010) dL_law_1007 (by decide) rfl (fun h1007 => ?_) (fun h1007 => (False.elim (by omega)))
        refine g_goto (q := 0) (t := 1832) dL_law_1012 (by decide) ?_
        exact z_G.widen (by omega) (hk S2 hI2 _ _)
      · refine g_lconst (q := 1002) (z := 1) dL_law_1001 rfl ⟨by decide, by decide⟩ rfl ?_
        refine g_goto (q := 0) (t := 1006) dL_law_1002 (by decide) ?_
        refine g_lcmp (q := 1007) dL_law_1006 rfl (fun z1006 hz1006 => ?_)
        refine g_if_eq (t := 1012) (q := 1010) dL_law_1007 (by decide) rfl (fun h1007 => ?_) (fun h1007 => (False.elim (by omega)))
        refine g_goto (q := 0) (t := 1832) dL_law_1012 (by decide) ?_
        exact z_G.widen (by omega) (hk S2 hI2 _ _)
  · obtain ⟨k, v, S1, S2, w1, t1, e5, e0, hI2, hv⟩ := st n S (xs (i + 1).toNat) 1 hn hI (hx _) (.inr rfl)
    have e0' : ¬ k = 0 ∨ S2.2.2 = v := by
      by_cases q : k = 0
      · exact .inr (e0 q)
      · exact .inl q
    refine g_aload_n (i := 1) (q := 925) dL_law_924 rfl rfl rfl ?_
    refine g_aload_n (i := 0) (q := 926) dL_law_925 rfl rfl rfl ?_
    refine g_iload (q := 928) dL_law_926 rfl rfl ?_
    refine g_iconst (q := 929) dL_law_928 rfl ⟨by decide, by decide⟩ ?_
    refine g_iadd (q := 930) dL_law_929 rfl (by constructor <;> omega) ?_
    refine g_sld (q := 931) dL_law_930 rfl (by omega) (by omega) ?_
    refine g_aload_n (i := 0) (q := 932) dL_law_931 rfl rfl rfl ?_
    refine g_iload (q := 934) dL_law_932 rfl rfl ?_
    refine g_iconst (q := 935) dL_law_934 rfl ⟨by decide, by decide⟩ ?_
    refine g_iadd (q := 936) dL_law_935 rfl (by constructor <;> omega) ?_
    refine g_sld (q := 937) dL_law_936 rfl (by omega) (by omega) ?_
    refine g_if_eq (t := 944) (q := 940) dL_law_937 (by decide) rfl (fun h937 => (False.elim (by omega))) (fun h937 => ?_)
    refine g_iconst (q := 941) dL_law_940 rfl ⟨by decide, by decide⟩ ?_
    refine g_goto (q := 0) (t := 945) dL_law_941 (by decide) ?_
    refine g_aload_n (i := 3) (q := 946) dL_law_945 rfl rfl rfl ?_
    refine g_fnW (as := [zR 0, zI (xs (i + 1).toNat), zI 1, zR 63]) (q := 949) (u' := 10 * n + 1) dL_law_946 rfl wk_144 rfl rfl (Nat.le_of_ble_eq_true rfl) ⟨Nat.le_of_ble_eq_true rfl, Nat.le_of_ble_eq_true rfl⟩ rfl (show 10 * n + 1 ≤ 6000 by omega) (w1) ?_
    refine g_istore (q := 951) dL_law_949 rfl (Nat.le_of_ble_eq_true rfl) ?_
    refine g_aload_n (i := 2) (q := 952) dL_law_951 rfl rfl rfl ?_
    refine g_aload_n (i := 0) (q := 953) dL_law_952 rfl rfl rfl ?_
    refine g_iload (q := 955) dL_law_953 rfl rfl ?_
    refine g_iconst (q := 956) dL_law_955 rfl ⟨by decide, by decide⟩ ?_
    refine g_iadd (q := 957) dL_law_956 rfl (by constructor <;> omega) ?_
    refine g_sld (q := 958) dL_law_957 rfl (by omega) (by omega) ?_
    refine g_aload_n (i := 0) (q := 959) dL_law_958 rfl rfl rfl ?_
    refine g_iload (q := 961) dL_law_959 rfl rfl ?_
    refine g_iconst (q := 962) dL_law_961 rfl ⟨by decide, by decide⟩ ?_
    refine g_iadd (q := 963) dL_law_962 rfl (by constructor <;> omega) ?_
    refine g_sld (q := 964) dL_law_963 rfl (by omega) (by omega) ?_
    refine g_if_eq (t := 971) (q := 967) dL_law_964 (by decide) rfl (fun h964 => (False.elim (by omega))) (fun h964 => ?_)
    refine g_iconst (q := 968) dL_law_967 rfl ⟨by decide, by decide⟩ ?_
    refine g_goto (q := 0) (t := 972) dL_law_968 (by decide) ?_
    refine g_fnV (as := [zI (xs (i + 1).toNat), zI 1]) (q := 975) (u' := 10 * n + 1) dL_law_972 rfl ck_L_147 rfl rfl rfl (Nat.le_of_ble_eq_true rfl) ⟨Nat.le_of_ble_eq_true rfl, Nat.le_of_ble_eq_true rfl⟩ rfl (show 10 * n + 1 ≤ 6000 by omega) (t1) rfl ?_
    refine g_istore (q := 977) dL_law_975 rfl (Nat.le_of_ble_eq_true rfl) ?_
    refine g_aload_n (i := 2) (q := 978) dL_law_977 rfl rfl rfl ?_
    refine g_fnV (as := []) (q := 981) (u' := 10 * n + 1) dL_law_978 rfl ck_L_105 rfl rfl rfl (Nat.le_of_ble_eq_true rfl) ⟨Nat.le_of_ble_eq_true rfl, Nat.le_of_ble_eq_true rfl⟩ rfl (show 10 * n + 1 ≤ 6000 by omega) (t_thrown) rfl ?_
    refine g_iload (q := 983) dL_law_981 rfl rfl ?_
    refine g_icmp_eq (t := 988) (q := 986) dL_law_983 (by decide) rfl (fun h983 => ?_) (fun h983 => (False.elim (by omega)))
    refine g_iload (q := 990) dL_law_988 rfl rfl ?_
    refine g_if_ne (t := 1012) (q := 993) dL_law_990 (by decide) rfl (fun h990 => ?_) (fun h990 => ?_)
    · refine g_goto (q := 0) (t := 1832) dL_law_1012 (by decide) ?_
      exact z_G.widen (by omega) (hk S2 hI2 _ _)
    · refine g_aload_n (i := 3) (q := 994) dL_law_993 rfl rfl rfl ?_
      refine g_iconst (q := 995) dL_law_994 rfl ⟨by decide, by decide⟩ ?_
      refine g_lald (q := 996) dL_law_995 rfl ?_
      refine g_iload (q := 998) dL_law_996 rfl rfl ?_
      refine g_if_eq (t := 1005) (q := 1001) dL_law_998 (by decide) rfl (fun h998 => ?_) (fun h998 => ?_)
      · refine g_lconst (q := 1006) (z := 0) dL_law_1005 rfl ⟨by decide, by decide⟩ rfl ?_
        refine g_lcmp (q := 1007) dL_law_1006 rfl (fun z1006 hz1006 => ?_)
        refine g_if_eq (t := 1012) (q := 1010) dL_law_1007 (by decide) rfl (fun h1007 => ?_) (fun h1007 => (False.elim (by omega)))
        refine g_goto (q := 0) (t := 1832) dL_law_1012 (by decide) ?_
        exact z_G.widen (by omega) (hk S2 hI2 _ _)
      · refine g_lconst (q := 1002) (z := 1) dL_law_1001 rfl ⟨by decide, by decide⟩ rfl ?_
        refine g_goto (q := 0) (t := 1006) dL_law_1002 (by decide) ?_
        refine g_lcmp (q := 1007) dL_law_1006 rfl (fun z1006 hz1006 => ?_)
        refine g_if_eq (t := 1012) (q := 1010) dL_law_1007 (by decide) rfl (fun h1007 => ?_) (fun h1007 => (False.elim (by omega)))
        refine g_goto (q := 0) (t := 1832) dL_law_1012 (by decide) ?_
        exact z_G.widen (by omega) (hk S2 hI2 _ _)
theorem lc_correct {Inv : Nat → zS → Prop} (st : st_correct Inv) (hL0 : L ≤ 2560) {n : Nat} {S : zS} {i : Int} {v5 v6 : Option zV} (hn : n < 512) (hI : Inv n S) (hi : 0 ≤ i ∧ i + 5 ≤ L) (hx : ∀ j, z_in (xs j)) (hk : ∀ S2, Inv (n + 1) S2 → ∀ v5 v6, z_G (mLw hh) (zFL L xs c0 s0) (10 * n + 10) 1832 [some (zR 64), some (zR 0), some (zR 7), some (zR 63), some (zI i), v5, v6] [] S2) : z_G (mLw hh) (zFL L xs c0 s0) (10 * n) 1015 [some (zR 64), some (zR 0), some (zR 7), some (zR 63), some (zI i), v5, v6] [] S := by
  obtain ⟨k, v, S1, S2, w1, t1, e5, e0, hI2⟩ := st n S (xs (i + 1).toNat) hn hI (hx _)
  have e0' : ¬ k = 0 ∨ S2.2.2 = v := by
    by_cases q : k = 0
    · exact .inr (e0 q)
    · exact .inl q
  refine g_aload_n (i := 1) (q := 1016) dL_law_1015 rfl rfl rfl ?_
  refine g_aload_n (i := 0) (q := 1017) dL_law_1016 rfl rfl rfl ?_
  refine g_iload (q := 1019) dL_law_1017 rfl rfl ?_
  refine g_iconst (q := 1020) dL_law_1019 rfl ⟨by decide, by decide⟩ ?_
  refine g_iadd (q := 1021) dL_law_1020 rfl (by constructor <;> omega) ?_
  refine g_sld (q := 1022) dL_law_1021 rfl (by omega) (by omega) ?_
  refine g_aload_n (i := 3) (q := 1023) dL_law_1022 rfl rfl rfl ?_
  refine g_fnW (as := [zR 0, zI (xs (i + 1).toNat), zR 63]) (q := 1026) (u' := 10 * n + 1) dL_law_1023 rfl wk_148 rfl rfl (Nat.le_of_ble_eq_true rfl) ⟨Nat.le_of_ble_eq_true rfl, Nat.le_of_ble_eq_true rfl⟩ rfl (show 10 * n + 1 ≤ 6000 by omega) (w1) ?_
  refine g_istore (q := 1028) dL_law_1026 rfl (Nat.le_of_ble_eq_true rfl) ?_
  refine g_aload_n (i := 2) (q := 1029) dL_law_1028 rfl rfl rfl ?_
  refine g_aload_n (i := 0) (q := 1030) dL_law_1029 rfl rfl rfl ?_
  refine g_iload (q := 1032) dL_law_1030 rfl rfl ?_
  refine g_iconst (q := 1033) dL_law_1032 rfl ⟨by decide, by decide⟩ ?_
  refine g_iadd (q := 1034) dL_law_1033 rfl (by constructor <;> omega) ?_
  refine g_sld (q := 1035) dL_law_1034 rfl (by omega) (by omega) ?_
  refine g_fnV (as := [zI (xs (i + 1).toNat)]) (q := 1038) (u' := 10 * n + 1) dL_law_1035 rfl ck_L_150 rfl rfl rfl (Nat.le_of_ble_eq_true rfl) ⟨Nat.le_of_ble_eq_true rfl, Nat.le_of_ble_eq_true rfl⟩ rfl (show 10 * n + 1 ≤ 6000 by omega) (t1) rfl ?_
  refine g_istore (q := 1040) dL_law_1038 rfl (Nat.le_of_ble_eq_true rfl) ?_
  refine g_aload_n (i := 2) (q := 1041) dL_law_1040 rfl rfl rfl ?_
  refine g_fnV (as := []) (q := 1044) (u' := 10 * n + 1) dL_law_1041 rfl ck_L_105 rfl rfl rfl (Nat.le_of_ble_eq_true rfl) ⟨Nat.le_of_ble_eq_true rfl, Nat.le_of_ble_eq_true rfl⟩ rfl (show 10 * n + 1 ≤ 6000 by omega) (t_thrown) rfl ?_
  refine g_iload (q := 1046) dL_law_1044 rfl rfl ?_
  refine g_icmp_eq (t := 1051) (q := 1049) dL_law_1046 (by decide) rfl (fun h1046 => ?_) (fun h1046 => (False.elim (by omega)))
  refine g_iload (q := 1053) dL_law_1051 rfl rfl ?_
  refine g_if_ne (t := 1068) (q := 1056) dL_law_1053 (by decide) rfl (fun h1053 => ?_) (fun h1053 => ?_)
  · refine g_goto (q := 0) (t := 1832) dL_law_1068 (by decide) ?_
    exact z_G.widen (by omega) (hk S2 hI2 _ _)
  · refine g_aload_n (i := 3) (q := 1057) dL_law_1056 rfl rfl rfl ?_
    refine g_iconst (q := 1058) dL_law_1057 rfl ⟨by decide, by decide⟩ ?_
    refine g_lald (q := 1059) dL_law_1058 rfl ?_
    refine g_iload (q := 1061) dL_law_1059 rfl rfl ?_
    refine g_i2l (q := 1062) dL_law_1061 rfl ?_
    refine g_lcmp (q := 1063) dL_law_1062 rfl (fun z1062 hz1062 => ?_)
    refine g_if_eq (t := 1068) (q := 1066) dL_law_1063 (by decide) rfl (fun h1063 => ?_) (fun h1063 => (False.elim (by omega)))
    refine g_goto (q := 0) (t := 1832) dL_law_1068 (by decide) ?_
    exact z_G.widen (by omega) (hk S2 hI2 _ _)
theorem lc_server {Inv : Nat → zS → Prop} (st : st_server Inv) (hL0 : L ≤ 2560) {n : Nat} {S : zS} {i : Int} {v5 v6 : Option zV} (hn : n < 512) (hI : Inv n S) (hi : 0 ≤ i ∧ i + 5 ≤ L) (hx : ∀ j, z_in (xs j)) (hk : ∀ S2, Inv (n + 1) S2 → ∀ v5 v6, z_G (mLw hh) (zFL L xs c0 s0) (10 * n + 10) 1832 [some (zR 64), some (zR 0), some (zR 7), some (zR 63), some (zI i), v5, v6] [] S2) : z_G (mLw hh) (zFL L xs c0 s0) (10 * n) 1071 [some (zR 64), some (zR 0), some (zR 7), some (zR 63), some (zI i), v5, v6] [] S := by
  obtain ⟨k, v, S1, S2, w1, t1, e5, e0, hI2⟩ := st n S (xs (i + 1).toNat) hn hI (hx _)
  have e0' : ¬ k = 0 ∨ S2.2.2 = v := by
    by_cases q : k = 0
    · exact .inr (e0 q)
    · exact .inl q
  refine g_aload_n (i := 1) (q := 1072) dL_law_1071 rfl rfl rfl ?_
  refine g_aload_n (i := 0) (q := 1073) dL_law_1072 rfl rfl rfl ?_
  refine g_iload (q := 1075) dL_law_1073 rfl rfl ?_
  refine g_iconst (q := 1076) dL_law_1075 rfl ⟨by decide, by decide⟩ ?_
  refine g_iadd (q := 1077) dL_law_1076 rfl (by constructor <;> omega) ?_
  refine g_sld (q := 1078) dL_law_1077 rfl (by omega) (by omega) ?_
  refine g_aload_n (i := 3) (q := 1079) dL_law_1078 rfl rfl rfl ?_
  refine g_fnW (as := [zR 0, zI (xs (i + 1).toNat), zR 63]) (q := 1082) (u' := 10 * n + 1) dL_law_1079 rfl wk_151 rfl rfl (Nat.le_of_ble_eq_true rfl) ⟨Nat.le_of_ble_eq_true rfl, Nat.le_of_ble_eq_true rfl⟩ rfl (show 10 * n + 1 ≤ 6000 by omega) (w1) ?_
  refine g_istore (q := 1084) dL_law_1082 rfl (Nat.le_of_ble_eq_true rfl) ?_
  refine g_aload_n (i := 2) (q := 1085) dL_law_1084 rfl rfl rfl ?_
  refine g_aload_n (i := 0) (q := 1086) dL_law_1085 rfl rfl rfl ?_
  refine g_iload (q := 1088) dL_law_1086 rfl rfl ?_
  refine g_iconst (q := 1089) dL_law_1088 rfl ⟨by decide, by decide⟩ ?_
  refine g_iadd (q := 1090) dL_law_1089 rfl (by constructor <;> omega) ?_
  refine g_sld (q := 1091) dL_law_1090 rfl (by omega) (by omega) ?_
  refine g_fnV (as := [zI (xs (i + 1).toNat)]) (q := 1094) (u' := 10 * n + 1) dL_law_1091 rfl ck_L_153 rfl rfl rfl (Nat.le_of_ble_eq_true rfl) ⟨Nat.le_of_ble_eq_true rfl, Nat.le_of_ble_eq_true rfl⟩ rfl (show 10 * n + 1 ≤ 6000 by omega) (t1) rfl ?_
  refine g_istore (q := 1096) dL_law_1094 rfl (Nat.le_of_ble_eq_true rfl) ?_
  refine g_aload_n (i := 2) (q := 1097) dL_law_1096 rfl rfl rfl ?_
  refine g_fnV (as := []) (q := 1100) (u' := 10 * n + 1) dL_law_1097 rfl ck_L_105 rfl rfl rfl (Nat.le_of_ble_eq_true rfl) ⟨Nat.le_of_ble_eq_true rfl, Nat.le_of_ble_eq_true rfl⟩ rfl (show 10 * n + 1 ≤ 6000 by omega) (t_thrown) rfl ?_
  refine g_iload (q := 1102) dL_law_1100 rfl rfl ?_
  refine g_icmp_eq (t := 1107) (q := 1105) dL_law_1102 (by decide) rfl (fun h1102 => ?_) (fun h1102 => (False.elim (by omega)))
  refine g_iload (q := 1109) dL_law_1107 rfl rfl ?_
  refine g_if_ne (t := 1124) (q := 1112) dL_law_1109 (by decide) rfl (fun h1109 => ?_) (fun h1109 => ?_)
  · refine g_goto (q := 0) (t := 1832) dL_law_1124 (by decide) ?_
    exact z_G.widen (by omega) (hk S2 hI2 _ _)
  · refine g_aload_n (i := 3) (q := 1113) dL_law_1112 rfl rfl rfl ?_
    refine g_iconst (q := 1114) dL_law_1113 rfl ⟨by decide, by decide⟩ ?_
    refine g_lald (q := 1115) dL_law_1114 rfl ?_
    refine g_iload (q := 1117) dL_law_1115 rfl rfl ?_
    refine g_i2l (q := 1118) dL_law_1117 rfl ?_
    refine g_lcmp (q := 1119) dL_law_1118 rfl (fun z1118 hz1118 => ?_)
    refine g_if_eq (t := 1124) (q := 1122) dL_law_1119 (by decide) rfl (fun h1119 => ?_) (fun h1119 => (False.elim (by omega)))
    refine g_goto (q := 0) (t := 1832) dL_law_1124 (by decide) ?_
    exact z_G.widen (by omega) (hk S2 hI2 _ _)
theorem lc_serverAnew {Inv : Nat → zS → Prop} (st : st_serverAnew Inv) (hL0 : L ≤ 2560) {n : Nat} {S : zS} {i : Int} {v5 v6 : Option zV} (hn : n < 512) (hI : Inv n S) (hi : 0 ≤ i ∧ i + 5 ≤ L) (hx : ∀ j, z_in (xs j)) (hk : ∀ S2, Inv (n + 1) S2 → ∀ v5 v6, z_G (mLw hh) (zFL L xs c0 s0) (10 * n + 10) 1832 [some (zR 64), some (zR 0), some (zR 7), some (zR 63), some (zI i), v5, v6] [] S2) : z_G (mLw hh) (zFL L xs c0 s0) (10 * n) 1127 [some (zR 64), some (zR 0), some (zR 7), some (zR 63), some (zI i), v5, v6] [] S := by
  obtain ⟨k, v, S1, S2, w1, t1, e5, e0, hI2⟩ := st n S (xs (i + 1).toNat) hn hI (hx _)
  have e0' : ¬ k = 0 ∨ S2.2.2 = v := by
    by_cases q : k = 0
    · exact .inr (e0 q)
    · exact .inl q
  refine g_aload_n (i := 1) (q := 1128) dL_law_1127 rfl rfl rfl ?_
  refine g_aload_n (i := 0) (q := 1129) dL_law_1128 rfl rfl rfl ?_
  refine g_iload (q := 1131) dL_law_1129 rfl rfl ?_
  refine g_iconst (q := 1132) dL_law_1131 rfl ⟨by decide, by decide⟩ ?_
  refine g_iadd (q := 1133) dL_law_1132 rfl (by constructor <;> omega) ?_
  refine g_sld (q := 1134) dL_law_1133 rfl (by omega) (by omega) ?_
  refine g_aload_n (i := 3) (q := 1135) dL_law_1134 rfl rfl rfl ?_
  refine g_fnW (as := [zR 0, zI (xs (i + 1).toNat), zR 63]) (q := 1138) (u' := 10 * n + 1) dL_law_1135 rfl wk_154 rfl rfl (Nat.le_of_ble_eq_true rfl) ⟨Nat.le_of_ble_eq_true rfl, Nat.le_of_ble_eq_true rfl⟩ rfl (show 10 * n + 1 ≤ 6000 by omega) (w1) ?_
  refine g_istore (q := 1140) dL_law_1138 rfl (Nat.le_of_ble_eq_true rfl) ?_
  refine g_aload_n (i := 2) (q := 1141) dL_law_1140 rfl rfl rfl ?_
  refine g_aload_n (i := 0) (q := 1142) dL_law_1141 rfl rfl rfl ?_
  refine g_iload (q := 1144) dL_law_1142 rfl rfl ?_
  refine g_iconst (q := 1145) dL_law_1144 rfl ⟨by decide, by decide⟩ ?_
  refine g_iadd (q := 1146) dL_law_1145 rfl (by constructor <;> omega) ?_
  refine g_sld (q := 1147) dL_law_1146 rfl (by omega) (by omega) ?_
  refine g_fnV (as := [zI (xs (i + 1).toNat)]) (q := 1150) (u' := 10 * n + 1) dL_law_1147 rfl ck_L_156 rfl rfl rfl (Nat.le_of_ble_eq_true rfl) ⟨Nat.le_of_ble_eq_true rfl, Nat.le_of_ble_eq_true rfl⟩ rfl (show 10 * n + 1 ≤ 6000 by omega) (t1) rfl ?_
  refine g_istore (q := 1152) dL_law_1150 rfl (Nat.le_of_ble_eq_true rfl) ?_
  refine g_aload_n (i := 2) (q := 1153) dL_law_1152 rfl rfl rfl ?_
  refine g_fnV (as := []) (q := 1156) (u' := 10 * n + 1) dL_law_1153 rfl ck_L_105 rfl rfl rfl (Nat.le_of_ble_eq_true rfl) ⟨Nat.le_of_ble_eq_true rfl, Nat.le_of_ble_eq_true rfl⟩ rfl (show 10 * n + 1 ≤ 6000 by omega) (t_thrown) rfl ?_
  refine g_iload (q := 1158) dL_law_1156 rfl rfl ?_
  refine g_icmp_eq (t := 1163) (q := 1161) dL_law_1158 (by decide) rfl (fun h1158 => ?_) (fun h1158 => (False.elim (by omega)))
  refine g_iload (q := 1165) dL_law_1163 rfl rfl ?_
  refine g_if_ne (t := 1180) (q := 1168) dL_law_1165 (by decide) rfl (fun h1165 => ?_) (fun h1165 => ?_)
  · refine g_goto (q := 0) (t := 1832) dL_law_1180 (by decide) ?_
    exact z_G.widen (by omega) (hk S2 hI2 _ _)
  · refine g_aload_n (i := 3) (q := 1169) dL_law_1168 rfl rfl rfl ?_
    refine g_iconst (q := 1170) dL_law_1169 rfl ⟨by decide, by decide⟩ ?_
    refine g_lald (q := 1171) dL_law_1170 rfl ?_
    refine g_iload (q := 1173) dL_law_1171 rfl rfl ?_
    refine g_i2l (q := 1174) dL_law_1173 rfl ?_
    refine g_lcmp (q := 1175) dL_law_1174 rfl (fun z1174 hz1174 => ?_)
    refine g_if_eq (t := 1180) (q := 1178) dL_law_1175 (by decide) rfl (fun h1175 => ?_) (fun h1175 => (False.elim (by omega)))
    refine g_goto (q := 0) (t := 1832) dL_law_1180 (by decide) ?_
    exact z_G.widen (by omega) (hk S2 hI2 _ _)
theorem lc_number {Inv : Nat → zS → Prop} (st : st_number Inv) (hL0 : L ≤ 2560) {n : Nat} {S : zS} {i : Int} {v5 v6 : Option zV} (hn : n < 512) (hI : Inv n S) (hi : 0 ≤ i ∧ i + 5 ≤ L) (hx : ∀ j, z_in (xs j)) (hk : ∀ S2, Inv (n + 1) S2 → ∀ v5 v6, z_G (mLw hh) (zFL L xs c0 s0) (10 * n + 10) 1832 [some (zR 64), some (zR 0), some (zR 7), some (zR 63), some (zI i), v5, v6] [] S2) : z_G (mLw hh) (zFL L xs c0 s0) (10 * n) 1183 [some (zR 64), some (zR 0), some (zR 7), some (zR 63), some (zI i), v5, v6] [] S := by
  obtain ⟨k, v, S1, S2, w1, t1, e5, e0, hI2⟩ := st n S (xs (i + 1).toNat) (xs (i + 2).toNat) hn hI (hx _) (hx _)
  have e0' : ¬ k = 0 ∨ S2.2.2 = v := by
    by_cases q : k = 0
    · exact .inr (e0 q)
    · exact .inl q
  refine g_aload_n (i := 1) (q := 1184) dL_law_1183 rfl rfl rfl ?_
  refine g_aload_n (i := 0) (q := 1185) dL_law_1184 rfl rfl rfl ?_
  refine g_iload (q := 1187) dL_law_1185 rfl rfl ?_
  refine g_iconst (q := 1188) dL_law_1187 rfl ⟨by decide, by decide⟩ ?_
  refine g_iadd (q := 1189) dL_law_1188 rfl (by constructor <;> omega) ?_
  refine g_sld (q := 1190) dL_law_1189 rfl (by omega) (by omega) ?_
  refine g_aload_n (i := 0) (q := 1191) dL_law_1190 rfl rfl rfl ?_
  refine g_iload (q := 1193) dL_law_1191 rfl rfl ?_
  refine g_iconst (q := 1194) dL_law_1193 rfl ⟨by decide, by decide⟩ ?_
  refine g_iadd (q := 1195) dL_law_1194 rfl (by constructor <;> omega) ?_
  refine g_sld (q := 1196) dL_law_1195 rfl (by omega) (by omega) ?_
  refine g_aload_n (i := 3) (q := 1197) dL_law_1196 rfl rfl rfl ?_
  refine g_fnW (as := [zR 0, zI (xs (i + 1).toNat), zI (xs (i + 2).toNat), zR 63]) (q := 1200) (u' := 10 * n + 2) dL_law_1197 rfl wk_157 rfl rfl (Nat.le_of_ble_eq_true rfl) ⟨Nat.le_of_ble_eq_true rfl, Nat.le_of_ble_eq_true rfl⟩ rfl (show 10 * n + 2 ≤ 6000 by omega) (w1) ?_
  refine g_istore (q := 1202) dL_law_1200 rfl (Nat.le_of_ble_eq_true rfl) ?_
  refine g_aload_n (i := 2) (q := 1203) dL_law_1202 rfl rfl rfl ?_
  refine g_aload_n (i := 0) (q := 1204) dL_law_1203 rfl rfl rfl ?_
  refine g_iload (q := 1206) dL_law_1204 rfl rfl ?_
  refine g_iconst (q := 1207) dL_law_1206 rfl ⟨by decide, by decide⟩ ?_
  refine g_iadd (q := 1208) dL_law_1207 rfl (by constructor <;> omega) ?_
  refine g_sld (q := 1209) dL_law_1208 rfl (by omega) (by omega) ?_
  refine g_aload_n (i := 0) (q := 1210) dL_law_1209 rfl rfl rfl ?_
  refine g_iload (q := 1212) dL_law_1210 rfl rfl ?_
  refine g_iconst (q := 1213) dL_law_1212 rfl ⟨by decide, by decide⟩ ?_
  refine g_iadd (q := 1214) dL_law_1213 rfl (by constructor <;> omega) ?_
  refine g_sld (q := 1215) dL_law_1214 rfl (by omega) (by omega) ?_
  refine g_fnV (as := [zI (xs (i + 1).toNat), zI (xs (i + 2).toNat)]) (q := 1218) (u' := 10 * n + 2) dL_law_1215 rfl ck_L_159 rfl rfl rfl (Nat.le_of_ble_eq_true rfl) ⟨Nat.le_of_ble_eq_true rfl, Nat.le_of_ble_eq_true rfl⟩ rfl (show 10 * n + 2 ≤ 6000 by omega) (t1) rfl ?_
  refine g_istore (q := 1220) dL_law_1218 rfl (Nat.le_of_ble_eq_true rfl) ?_
  refine g_aload_n (i := 2) (q := 1221) dL_law_1220 rfl rfl rfl ?_
  refine g_fnV (as := []) (q := 1224) (u' := 10 * n + 2) dL_law_1221 rfl ck_L_105 rfl rfl rfl (Nat.le_of_ble_eq_true rfl) ⟨Nat.le_of_ble_eq_true rfl, Nat.le_of_ble_eq_true rfl⟩ rfl (show 10 * n + 2 ≤ 6000 by omega) (t_thrown) rfl ?_
  refine g_iload (q := 1226) dL_law_1224 rfl rfl ?_
  refine g_icmp_eq (t := 1231) (q := 1229) dL_law_1226 (by decide) rfl (fun h1226 => ?_) (fun h1226 => (False.elim (by omega)))
  refine g_iload (q := 1233) dL_law_1231 rfl rfl ?_
  refine g_if_ne (t := 1248) (q := 1236) dL_law_1233 (by decide) rfl (fun h1233 => ?_) (fun h1233 => ?_)
  · refine g_goto (q := 0) (t := 1832) dL_law_1248 (by decide) ?_
    exact z_G.widen (by omega) (hk S2 hI2 _ _)
  · refine g_aload_n (i := 3) (q := 1237) dL_law_1236 rfl rfl rfl ?_
    refine g_iconst (q := 1238) dL_law_1237 rfl ⟨by decide, by decide⟩ ?_
    refine g_lald (q := 1239) dL_law_1238 rfl ?_
    refine g_iload (q := 1241) dL_law_1239 rfl rfl ?_
    refine g_i2l (q := 1242) dL_law_1241 rfl ?_
    refine g_lcmp (q := 1243) dL_law_1242 rfl (fun z1242 hz1242 => ?_)
    refine g_if_eq (t := 1248) (q := 1246) dL_law_1243 (by decide) rfl (fun h1243 => ?_) (fun h1243 => (False.elim (by omega)))
    refine g_goto (q := 0) (t := 1832) dL_law_1248 (by decide) ?_
    exact z_G.widen (by omega) (hk S2 hI2 _ _)
theorem lc_of {Inv : Nat → zS → Prop} (st : st_of Inv) (hL0 : L ≤ 2560) {n : Nat} {S : zS} {i : Int} {v5 v6 : Option zV} (hn : n < 512) (hI : Inv n S) (hi : 0 ≤ i ∧ i + 5 ≤ L) (hx : ∀ j, z_in (xs j)) (hk : ∀ S2, Inv (n + 1) S2 → ∀ v5 v6, z_G (mLw hh) (zFL L xs c0 s0) (10 * n + 10) 1832 [some (zR 64), some (zR 0), some (zR 7), some (zR 63), some (zI i), v5, v6] [] S2) : z_G (mLw hh) (zFL L xs c0 s0) (10 * n) 1251 [some (zR 64), some (zR 0), some (zR 7), some (zR 63), some (zI i), v5, v6] [] S := by
  obtain ⟨k, v, S1, S2, w1, t1, e5, e0, hI2⟩ := st n S (xs (i + 1).toNat) (xs (i + 2).toNat) hn hI (hx _) (hx _)
  have e0' : ¬ k = 0 ∨ S2.2.2 = v := by
    by_cases q : k = 0
    · exact .inr (e0 q)
    · exact .inl q
  refine g_aload_n (i := 1) (q := 1252) dL_law_1251 rfl rfl rfl ?_
  refine g_aload_n (i := 0) (q := 1253) dL_law_1252 rfl rfl rfl ?_
  refine g_iload (q := 1255) dL_law_1253 rfl rfl ?_
  refine g_iconst (q := 1256) dL_law_1255 rfl ⟨by decide, by decide⟩ ?_
  refine g_iadd (q := 1257) dL_law_1256 rfl (by constructor <;> omega) ?_
  refine g_sld (q := 1258) dL_law_1257 rfl (by omega) (by omega) ?_
  refine g_aload_n (i := 0) (q := 1259) dL_law_1258 rfl rfl rfl ?_
  refine g_iload (q := 1261) dL_law_1259 rfl rfl ?_
  refine g_iconst (q := 1262) dL_law_1261 rfl ⟨by decide, by decide⟩ ?_
  refine g_iadd (q := 1263) dL_law_1262 rfl (by constructor <;> omega) ?_
  refine g_sld (q := 1264) dL_law_1263 rfl (by omega) (by omega) ?_
  refine g_aload_n (i := 3) (q := 1265) dL_law_1264 rfl rfl rfl ?_
  refine g_fnW (as := [zR 0, zI (xs (i + 1).toNat), zI (xs (i + 2).toNat), zR 63]) (q := 1268) (u' := 10 * n + 2) dL_law_1265 rfl wk_160 rfl rfl (Nat.le_of_ble_eq_true rfl) ⟨Nat.le_of_ble_eq_true rfl, Nat.le_of_ble_eq_true rfl⟩ rfl (show 10 * n + 2 ≤ 6000 by omega) (w1) ?_
  refine g_istore (q := 1270) dL_law_1268 rfl (Nat.le_of_ble_eq_true rfl) ?_
  refine g_aload_n (i := 2) (q := 1271) dL_law_1270 rfl rfl rfl ?_
  refine g_aload_n (i := 0) (q := 1272) dL_law_1271 rfl rfl rfl ?_
  refine g_iload (q := 1274) dL_law_1272 rfl rfl ?_
  refine g_iconst (q := 1275) dL_law_1274 rfl ⟨by decide, by decide⟩ ?_
  refine g_iadd (q := 1276) dL_law_1275 rfl (by constructor <;> omega) ?_
  refine g_sld (q := 1277) dL_law_1276 rfl (by omega) (by omega) ?_
  refine g_aload_n (i := 0) (q := 1278) dL_law_1277 rfl rfl rfl ?_
  refine g_iload (q := 1280) dL_law_1278 rfl rfl ?_
  refine g_iconst (q := 1281) dL_law_1280 rfl ⟨by decide, by decide⟩ ?_
  refine g_iadd (q := 1282) dL_law_1281 rfl (by constructor <;> omega) ?_
  refine g_sld (q := 1283) dL_law_1282 rfl (by omega) (by omega) ?_
  refine g_fnV (as := [zI (xs (i + 1).toNat), zI (xs (i + 2).toNat)]) (q := 1286) (u' := 10 * n + 2) dL_law_1283 rfl ck_L_162 rfl rfl rfl (Nat.le_of_ble_eq_true rfl) ⟨Nat.le_of_ble_eq_true rfl, Nat.le_of_ble_eq_true rfl⟩ rfl (show 10 * n + 2 ≤ 6000 by omega) (t1) rfl ?_
  refine g_istore (q := 1288) dL_law_1286 rfl (Nat.le_of_ble_eq_true rfl) ?_
  refine g_aload_n (i := 2) (q := 1289) dL_law_1288 rfl rfl rfl ?_
  refine g_fnV (as := []) (q := 1292) (u' := 10 * n + 2) dL_law_1289 rfl ck_L_105 rfl rfl rfl (Nat.le_of_ble_eq_true rfl) ⟨Nat.le_of_ble_eq_true rfl, Nat.le_of_ble_eq_true rfl⟩ rfl (show 10 * n + 2 ≤ 6000 by omega) (t_thrown) rfl ?_
  refine g_iload (q := 1294) dL_law_1292 rfl rfl ?_
  refine g_icmp_eq (t := 1299) (q := 1297) dL_law_1294 (by decide) rfl (fun h1294 => ?_) (fun h1294 => (False.elim (by omega)))
  refine g_iload (q := 1301) dL_law_1299 rfl rfl ?_
  refine g_if_ne (t := 1316) (q := 1304) dL_law_1301 (by decide) rfl (fun h1301 => ?_) (fun h1301 => ?_)
  · refine g_goto (q := 0) (t := 1832) dL_law_1316 (by decide) ?_
    exact z_G.widen (by omega) (hk S2 hI2 _ _)
  · refine g_aload_n (i := 3) (q := 1305) dL_law_1304 rfl rfl rfl ?_
    refine g_iconst (q := 1306) dL_law_1305 rfl ⟨by decide, by decide⟩ ?_
    refine g_lald (q := 1307) dL_law_1306 rfl ?_
    refine g_iload (q := 1309) dL_law_1307 rfl rfl ?_
    refine g_i2l (q := 1310) dL_law_1309 rfl ?_
    refine g_lcmp (q := 1311) dL_law_1310 rfl (fun z1310 hz1310 => ?_)
    refine g_if_eq (t := 1316) (q := 1314) dL_law_1311 (by decide) rfl (fun h1311 => ?_) (fun h1311 => (False.elim (by omega)))
    refine g_goto (q := 0) (t := 1832) dL_law_1316 (by decide) ?_
    exact z_G.widen (by omega) (hk S2 hI2 _ _)
theorem lc_room {Inv : Nat → zS → Prop} (st : st_room Inv) (hL0 : L ≤ 2560) {n : Nat} {S : zS} {i : Int} {v5 v6 : Option zV} (hn : n < 512) (hI : Inv n S) (hi : 0 ≤ i ∧ i + 5 ≤ L) (hx : ∀ j, z_in (xs j)) (hk : ∀ S2, Inv (n + 1) S2 → ∀ v5 v6, z_G (mLw hh) (zFL L xs c0 s0) (10 * n + 10) 1832 [some (zR 64), some (zR 0), some (zR 7), some (zR 63), some (zI i), v5, v6] [] S2) : z_G (mLw hh) (zFL L xs c0 s0) (10 * n) 1319 [some (zR 64), some (zR 0), some (zR 7), some (zR 63), some (zI i), v5, v6] [] S := by
  obtain ⟨k, v, S1, S2, w1, t1, e5, e0, hI2⟩ := st n S (xs (i + 1).toNat) hn hI (hx _)
  have e0' : ¬ k = 0 ∨ S2.2.2 = v := by
    by_cases q : k = 0
    · exact .inr (e0 q)
    · exact .inl q
  refine g_aload_n (i := 1) (q := 1320) dL_law_1319 rfl rfl rfl ?_
  refine g_aload_n (i := 0) (q := 1321) dL_law_1320 rfl rfl rfl ?_
  refine g_iload (q := 1323) dL_law_1321 rfl rfl ?_
  refine g_iconst (q := 1324) dL_law_1323 rfl ⟨by decide, by decide⟩ ?_
  refine g_iadd (q := 1325) dL_law_1324 rfl (by constructor <;> omega) ?_
  refine g_sld (q := 1326) dL_law_1325 rfl (by omega) (by omega) ?_
  refine g_aload_n (i := 3) (q := 1327) dL_law_1326 rfl rfl rfl ?_
  refine g_fnW (as := [zR 0, zI (xs (i + 1).toNat), zR 63]) (q := 1330) (u' := 10 * n + 1) dL_law_1327 rfl wk_163 rfl rfl (Nat.le_of_ble_eq_true rfl) ⟨Nat.le_of_ble_eq_true rfl, Nat.le_of_ble_eq_true rfl⟩ rfl (show 10 * n + 1 ≤ 6000 by omega) (w1) ?_
  refine g_istore (q := 1332) dL_law_1330 rfl (Nat.le_of_ble_eq_true rfl) ?_
  refine g_aload_n (i := 2) (q := 1333) dL_law_1332 rfl rfl rfl ?_
  refine g_aload_n (i := 0) (q := 1334) dL_law_1333 rfl rfl rfl ?_
  refine g_iload (q := 1336) dL_law_1334 rfl rfl ?_
  refine g_iconst (q := 1337) dL_law_1336 rfl ⟨by decide, by decide⟩ ?_
  refine g_iadd (q := 1338) dL_law_1337 rfl (by constructor <;> omega) ?_
  refine g_sld (q := 1339) dL_law_1338 rfl (by omega) (by omega) ?_
  refine g_fnV (as := [zI (xs (i + 1).toNat)]) (q := 1342) (u' := 10 * n + 1) dL_law_1339 rfl ck_L_165 rfl rfl rfl (Nat.le_of_ble_eq_true rfl) ⟨Nat.le_of_ble_eq_true rfl, Nat.le_of_ble_eq_true rfl⟩ rfl (show 10 * n + 1 ≤ 6000 by omega) (t1) rfl ?_
  refine g_istore (q := 1344) dL_law_1342 rfl (Nat.le_of_ble_eq_true rfl) ?_
  refine g_aload_n (i := 2) (q := 1345) dL_law_1344 rfl rfl rfl ?_
  refine g_fnV (as := []) (q := 1348) (u' := 10 * n + 1) dL_law_1345 rfl ck_L_105 rfl rfl rfl (Nat.le_of_ble_eq_true rfl) ⟨Nat.le_of_ble_eq_true rfl, Nat.le_of_ble_eq_true rfl⟩ rfl (show 10 * n + 1 ≤ 6000 by omega) (t_thrown) rfl ?_
  refine g_iload (q := 1350) dL_law_1348 rfl rfl ?_
  refine g_icmp_eq (t := 1355) (q := 1353) dL_law_1350 (by decide) rfl (fun h1350 => ?_) (fun h1350 => (False.elim (by omega)))
  refine g_iload (q := 1357) dL_law_1355 rfl rfl ?_
  refine g_if_ne (t := 1372) (q := 1360) dL_law_1357 (by decide) rfl (fun h1357 => ?_) (fun h1357 => ?_)
  · refine g_goto (q := 0) (t := 1832) dL_law_1372 (by decide) ?_
    exact z_G.widen (by omega) (hk S2 hI2 _ _)
  · refine g_aload_n (i := 3) (q := 1361) dL_law_1360 rfl rfl rfl ?_
    refine g_iconst (q := 1362) dL_law_1361 rfl ⟨by decide, by decide⟩ ?_
    refine g_lald (q := 1363) dL_law_1362 rfl ?_
    refine g_iload (q := 1365) dL_law_1363 rfl rfl ?_
    refine g_i2l (q := 1366) dL_law_1365 rfl ?_
    refine g_lcmp (q := 1367) dL_law_1366 rfl (fun z1366 hz1366 => ?_)
    refine g_if_eq (t := 1372) (q := 1370) dL_law_1367 (by decide) rfl (fun h1367 => ?_) (fun h1367 => (False.elim (by omega)))
    refine g_goto (q := 0) (t := 1832) dL_law_1372 (by decide) ?_
    exact z_G.widen (by omega) (hk S2 hI2 _ _)
theorem lc_firm {Inv : Nat → zS → Prop} (st : st_firm Inv) (hL0 : L ≤ 2560) {n : Nat} {S : zS} {i : Int} {v5 v6 : Option zV} (hn : n < 512) (hI : Inv n S) (hi : 0 ≤ i ∧ i + 5 ≤ L) (hx : ∀ j, z_in (xs j)) (hk : ∀ S2, Inv (n + 1) S2 → ∀ v5 v6, z_G (mLw hh) (zFL L xs c0 s0) (10 * n + 10) 1832 [some (zR 64), some (zR 0), some (zR 7), some (zR 63), some (zI i), v5, v6] [] S2) : z_G (mLw hh) (zFL L xs c0 s0) (10 * n) 1375 [some (zR 64), some (zR 0), some (zR 7), some (zR 63), some (zI i), v5, v6] [] S := by
  obtain ⟨k, v, S1, S2, w1, t1, e5, e0, hI2⟩ := st n S (xs (i + 1).toNat) (xs (i + 2).toNat) hn hI (hx _) (hx _)
  have e0' : ¬ k = 0 ∨ S2.2.2 = v := by
    by_cases q : k = 0
    · exact .inr (e0 q)
    · exact .inl q
  refine g_aload_n (i := 1) (q := 1376) dL_law_1375 rfl rfl rfl ?_
  refine g_aload_n (i := 0) (q := 1377) dL_law_1376 rfl rfl rfl ?_
  refine g_iload (q := 1379) dL_law_1377 rfl rfl ?_
  refine g_iconst (q := 1380) dL_law_1379 rfl ⟨by decide, by decide⟩ ?_
  refine g_iadd (q := 1381) dL_law_1380 rfl (by constructor <;> omega) ?_
  refine g_sld (q := 1382) dL_law_1381 rfl (by omega) (by omega) ?_
  refine g_aload_n (i := 0) (q := 1383) dL_law_1382 rfl rfl rfl ?_
  refine g_iload (q := 1385) dL_law_1383 rfl rfl ?_
  refine g_iconst (q := 1386) dL_law_1385 rfl ⟨by decide, by decide⟩ ?_
  refine g_iadd (q := 1387) dL_law_1386 rfl (by constructor <;> omega) ?_
  refine g_sld (q := 1388) dL_law_1387 rfl (by omega) (by omega) ?_
  refine g_aload_n (i := 3) (q := 1389) dL_law_1388 rfl rfl rfl ?_
  refine g_fnW (as := [zR 0, zI (xs (i + 1).toNat), zI (xs (i + 2).toNat), zR 63]) (q := 1392) (u' := 10 * n + 2) dL_law_1389 rfl wk_166 rfl rfl (Nat.le_of_ble_eq_true rfl) ⟨Nat.le_of_ble_eq_true rfl, Nat.le_of_ble_eq_true rfl⟩ rfl (show 10 * n + 2 ≤ 6000 by omega) (w1) ?_
  refine g_istore (q := 1394) dL_law_1392 rfl (Nat.le_of_ble_eq_true rfl) ?_
  refine g_aload_n (i := 2) (q := 1395) dL_law_1394 rfl rfl rfl ?_
  refine g_aload_n (i := 0) (q := 1396) dL_law_1395 rfl rfl rfl ?_
  refine g_iload (q := 1398) dL_law_1396 rfl rfl ?_
  refine g_iconst (q := 1399) dL_law_1398 rfl ⟨by decide, by decide⟩ ?_
  refine g_iadd (q := 1400) dL_law_1399 rfl (by constructor <;> omega) ?_
  refine g_sld (q := 1401) dL_law_1400 rfl (by omega) (by omega) ?_
  refine g_aload_n (i := 0) (q := 1402) dL_law_1401 rfl rfl rfl ?_
  refine g_iload (q := 1404) dL_law_1402 rfl rfl ?_
  refine g_iconst (q := 1405) dL_law_1404 rfl ⟨by decide, by decide⟩ ?_
  refine g_iadd (q := 1406) dL_law_1405 rfl (by constructor <;> omega) ?_
  refine g_sld (q := 1407) dL_law_1406 rfl (by omega) (by omega) ?_
  refine g_fnV (as := [zI (xs (i + 1).toNat), zI (xs (i + 2).toNat)]) (q := 1410) (u' := 10 * n + 2) dL_law_1407 rfl ck_L_168 rfl rfl rfl (Nat.le_of_ble_eq_true rfl) ⟨Nat.le_of_ble_eq_true rfl, Nat.le_of_ble_eq_true rfl⟩ rfl (show 10 * n + 2 ≤ 6000 by omega) (t1) rfl ?_
  refine g_istore (q := 1412) dL_law_1410 rfl (Nat.le_of_ble_eq_true rfl) ?_
  refine g_aload_n (i := 2) (q := 1413) dL_law_1412 rfl rfl rfl ?_
  refine g_fnV (as := []) (q := 1416) (u' := 10 * n + 2) dL_law_1413 rfl ck_L_105 rfl rfl rfl (Nat.le_of_ble_eq_true rfl) ⟨Nat.le_of_ble_eq_true rfl, Nat.le_of_ble_eq_true rfl⟩ rfl (show 10 * n + 2 ≤ 6000 by omega) (t_thrown) rfl ?_
  refine g_iload (q := 1418) dL_law_1416 rfl rfl ?_
  refine g_icmp_eq (t := 1423) (q := 1421) dL_law_1418 (by decide) rfl (fun h1418 => ?_) (fun h1418 => (False.elim (by omega)))
  refine g_iload (q := 1425) dL_law_1423 rfl rfl ?_
  refine g_if_ne (t := 1440) (q := 1428) dL_law_1425 (by decide) rfl (fun h1425 => ?_) (fun h1425 => ?_)
  · refine g_goto (q := 0) (t := 1832) dL_law_1440 (by decide) ?_
    exact z_G.widen (by omega) (hk S2 hI2 _ _)
  · refine g_aload_n (i := 3) (q := 1429) dL_law_1428 rfl rfl rfl ?_
    refine g_iconst (q := 1430) dL_law_1429 rfl ⟨by decide, by decide⟩ ?_
    refine g_lald (q := 1431) dL_law_1430 rfl ?_
    refine g_iload (q := 1433) dL_law_1431 rfl rfl ?_
    refine g_i2l (q := 1434) dL_law_1433 rfl ?_
    refine g_lcmp (q := 1435) dL_law_1434 rfl (fun z1434 hz1434 => ?_)
    refine g_if_eq (t := 1440) (q := 1438) dL_law_1435 (by decide) rfl (fun h1435 => ?_) (fun h1435 => (False.elim (by omega)))
    refine g_goto (q := 0) (t := 1832) dL_law_1440 (by decide) ?_
    exact z_G.widen (by omega) (hk S2 hI2 _ _)
theorem lc_known {Inv : Nat → zS → Prop} (st : st_known Inv) (hL0 : L ≤ 2560) {n : Nat} {S : zS} {i : Int} {v5 v6 : Option zV} (hn : n < 512) (hI : Inv n S) (hi : 0 ≤ i ∧ i + 5 ≤ L) (hx : ∀ j, z_in (xs j)) (hk : ∀ S2, Inv (n + 1) S2 → ∀ v5 v6, z_G (mLw hh) (zFL L xs c0 s0) (10 * n + 10) 1832 [some (zR 64), some (zR 0), some (zR 7), some (zR 63), some (zI i), v5, v6] [] S2) : z_G (mLw hh) (zFL L xs c0 s0) (10 * n) 1443 [some (zR 64), some (zR 0), some (zR 7), some (zR 63), some (zI i), v5, v6] [] S := by
  obtain ⟨k, v, S1, S2, w1, t1, e5, e0, hI2⟩ := st n S (xs (i + 1).toNat) (xs (i + 2).toNat) hn hI (hx _) (hx _)
  have e0' : ¬ k = 0 ∨ S2.2.2 = v := by
    by_cases q : k = 0
    · exact .inr (e0 q)
    · exact .inl q
  refine g_aload_n (i := 1) (q := 1444) dL_law_1443 rfl rfl rfl ?_
  refine g_aload_n (i := 0) (q := 1445) dL_law_1444 rfl rfl rfl ?_
  refine g_iload (q := 1447) dL_law_1445 rfl rfl ?_
  refine g_iconst (q := 1448) dL_law_1447 rfl ⟨by decide, by decide⟩ ?_
  refine g_iadd (q := 1449) dL_law_1448 rfl (by constructor <;> omega) ?_
  refine g_sld (q := 1450) dL_law_1449 rfl (by omega) (by omega) ?_
  refine g_aload_n (i := 0) (q := 1451) dL_law_1450 rfl rfl rfl ?_
  refine g_iload (q := 1453) dL_law_1451 rfl rfl ?_
  refine g_iconst (q := 1454) dL_law_1453 rfl ⟨by decide, by decide⟩ ?_
  refine g_iadd (q := 1455) dL_law_1454 rfl (by constructor <;> omega) ?_
  refine g_sld (q := 1456) dL_law_1455 rfl (by omega) (by omega) ?_
  refine g_aload_n (i := 3) (q := 1457) dL_law_1456 rfl rfl rfl ?_
  refine g_fnW (as := [zR 0, zI (xs (i + 1).toNat), zI (xs (i + 2).toNat), zR 63]) (q := 1460) (u' := 10 * n + 2) dL_law_1457 rfl wk_169 rfl rfl (Nat.le_of_ble_eq_true rfl) ⟨Nat.le_of_ble_eq_true rfl, Nat.le_of_ble_eq_true rfl⟩ rfl (show 10 * n + 2 ≤ 6000 by omega) (w1) ?_
  refine g_istore (q := 1462) dL_law_1460 rfl (Nat.le_of_ble_eq_true rfl) ?_
  refine g_aload_n (i := 2) (q := 1463) dL_law_1462 rfl rfl rfl ?_
  refine g_aload_n (i := 0) (q := 1464) dL_law_1463 rfl rfl rfl ?_
  refine g_iload (q := 1466) dL_law_1464 rfl rfl ?_
  refine g_iconst (q := 1467) dL_law_1466 rfl ⟨by decide, by decide⟩ ?_
  refine g_iadd (q := 1468) dL_law_1467 rfl (by constructor <;> omega) ?_
  refine g_sld (q := 1469) dL_law_1468 rfl (by omega) (by omega) ?_
  refine g_aload_n (i := 0) (q := 1470) dL_law_1469 rfl rfl rfl ?_
  refine g_iload (q := 1472) dL_law_1470 rfl rfl ?_
  refine g_iconst (q := 1473) dL_law_1472 rfl ⟨by decide, by decide⟩ ?_
  refine g_iadd (q := 1474) dL_law_1473 rfl (by constructor <;> omega) ?_
  refine g_sld (q := 1475) dL_law_1474 rfl (by omega) (by omega) ?_
  refine g_fnV (as := [zI (xs (i + 1).toNat), zI (xs (i + 2).toNat)]) (q := 1478) (u' := 10 * n + 2) dL_law_1475 rfl ck_L_171 rfl rfl rfl (Nat.le_of_ble_eq_true rfl) ⟨Nat.le_of_ble_eq_true rfl, Nat.le_of_ble_eq_true rfl⟩ rfl (show 10 * n + 2 ≤ 6000 by omega) (t1) rfl ?_
  refine g_istore (q := 1480) dL_law_1478 rfl (Nat.le_of_ble_eq_true rfl) ?_
  refine g_aload_n (i := 2) (q := 1481) dL_law_1480 rfl rfl rfl ?_
  refine g_fnV (as := []) (q := 1484) (u' := 10 * n + 2) dL_law_1481 rfl ck_L_105 rfl rfl rfl (Nat.le_of_ble_eq_true rfl) ⟨Nat.le_of_ble_eq_true rfl, Nat.le_of_ble_eq_true rfl⟩ rfl (show 10 * n + 2 ≤ 6000 by omega) (t_thrown) rfl ?_
  refine g_iload (q := 1486) dL_law_1484 rfl rfl ?_
  refine g_icmp_eq (t := 1491) (q := 1489) dL_law_1486 (by decide) rfl (fun h1486 => ?_) (fun h1486 => (False.elim (by omega)))
  refine g_iload (q := 1493) dL_law_1491 rfl rfl ?_
  refine g_if_ne (t := 1508) (q := 1496) dL_law_1493 (by decide) rfl (fun h1493 => ?_) (fun h1493 => ?_)
  · refine g_goto (q := 0) (t := 1832) dL_law_1508 (by decide) ?_
    exact z_G.widen (by omega) (hk S2 hI2 _ _)
  · refine g_aload_n (i := 3) (q := 1497) dL_law_1496 rfl rfl rfl ?_
    refine g_iconst (q := 1498) dL_law_1497 rfl ⟨by decide, by decide⟩ ?_
    refine g_lald (q := 1499) dL_law_1498 rfl ?_
    refine g_iload (q := 1501) dL_law_1499 rfl rfl ?_
    refine g_i2l (q := 1502) dL_law_1501 rfl ?_
    refine g_lcmp (q := 1503) dL_law_1502 rfl (fun z1502 hz1502 => ?_)
    refine g_if_eq (t := 1508) (q := 1506) dL_law_1503 (by decide) rfl (fun h1503 => ?_) (fun h1503 => (False.elim (by omega)))
    refine g_goto (q := 0) (t := 1832) dL_law_1508 (by decide) ?_
    exact z_G.widen (by omega) (hk S2 hI2 _ _)
theorem lc_audit {Inv : Nat → zS → Prop} (st : st_audit Inv) (hL0 : L ≤ 2560) {n : Nat} {S : zS} {i : Int} {v5 v6 : Option zV} (hn : n < 512) (hI : Inv n S) (hi : 0 ≤ i ∧ i + 5 ≤ L) (hx : ∀ j, z_in (xs j)) (hk : ∀ S2, Inv (n + 1) S2 → ∀ v5 v6, z_G (mLw hh) (zFL L xs c0 s0) (10 * n + 10) 1832 [some (zR 64), some (zR 0), some (zR 7), some (zR 63), some (zI i), v5, v6] [] S2) : z_G (mLw hh) (zFL L xs c0 s0) (10 * n) 1511 [some (zR 64), some (zR 0), some (zR 7), some (zR 63), some (zI i), v5, v6] [] S := by
  obtain ⟨k, v, S1, S2, w1, t1, e5, e0, hI2⟩ := st n S (xs (i + 1).toNat) hn hI (hx _)
  have e0' : ¬ k = 0 ∨ S2.2.2 = v := by
    by_cases q : k = 0
    · exact .inr (e0 q)
    · exact .inl q
  refine g_aload_n (i := 1) (q := 1512) dL_law_1511 rfl rfl rfl ?_
  refine g_aload_n (i := 0) (q := 1513) dL_law_1512 rfl rfl rfl ?_
  refine g_iload (q := 1515) dL_law_1513 rfl rfl ?_
  refine g_iconst (q := 1516) dL_law_1515 rfl ⟨by decide, by decide⟩ ?_
  refine g_iadd (q := 1517) dL_law_1516 rfl (by constructor <;> omega) ?_
  refine g_sld (q := 1518) dL_law_1517 rfl (by omega) (by omega) ?_
  refine g_aload_n (i := 3) (q := 1519) dL_law_1518 rfl rfl rfl ?_
  refine g_fnW (as := [zR 0, zI (xs (i + 1).toNat), zR 63]) (q := 1522) (u' := 10 * n + 1) dL_law_1519 rfl wk_172 rfl rfl (Nat.le_of_ble_eq_true rfl) ⟨Nat.le_of_ble_eq_true rfl, Nat.le_of_ble_eq_true rfl⟩ rfl (show 10 * n + 1 ≤ 6000 by omega) (w1) ?_
  refine g_istore (q := 1524) dL_law_1522 rfl (Nat.le_of_ble_eq_true rfl) ?_
  refine g_aload_n (i := 2) (q := 1525) dL_law_1524 rfl rfl rfl ?_
  refine g_aload_n (i := 0) (q := 1526) dL_law_1525 rfl rfl rfl ?_
  refine g_iload (q := 1528) dL_law_1526 rfl rfl ?_
  refine g_iconst (q := 1529) dL_law_1528 rfl ⟨by decide, by decide⟩ ?_
  refine g_iadd (q := 1530) dL_law_1529 rfl (by constructor <;> omega) ?_
  refine g_sld (q := 1531) dL_law_1530 rfl (by omega) (by omega) ?_
  refine g_fnV (as := [zI (xs (i + 1).toNat)]) (q := 1534) (u' := 10 * n + 1) dL_law_1531 rfl ck_L_174 rfl rfl rfl (Nat.le_of_ble_eq_true rfl) ⟨Nat.le_of_ble_eq_true rfl, Nat.le_of_ble_eq_true rfl⟩ rfl (show 10 * n + 1 ≤ 6000 by omega) (t1) rfl ?_
  refine g_istore (q := 1536) dL_law_1534 rfl (Nat.le_of_ble_eq_true rfl) ?_
  refine g_aload_n (i := 2) (q := 1537) dL_law_1536 rfl rfl rfl ?_
  refine g_fnV (as := []) (q := 1540) (u' := 10 * n + 1) dL_law_1537 rfl ck_L_105 rfl rfl rfl (Nat.le_of_ble_eq_true rfl) ⟨Nat.le_of_ble_eq_true rfl, Nat.le_of_ble_eq_true rfl⟩ rfl (show 10 * n + 1 ≤ 6000 by omega) (t_thrown) rfl ?_
  refine g_iload (q := 1542) dL_law_1540 rfl rfl ?_
  refine g_icmp_eq (t := 1547) (q := 1545) dL_law_1542 (by decide) rfl (fun h1542 => ?_) (fun h1542 => (False.elim (by omega)))
  refine g_iload (q := 1549) dL_law_1547 rfl rfl ?_
  refine g_if_ne (t := 1564) (q := 1552) dL_law_1549 (by decide) rfl (fun h1549 => ?_) (fun h1549 => ?_)
  · refine g_goto (q := 0) (t := 1832) dL_law_1564 (by decide) ?_
    exact z_G.widen (by omega) (hk S2 hI2 _ _)
  · refine g_aload_n (i := 3) (q := 1553) dL_law_1552 rfl rfl rfl ?_
    refine g_iconst (q := 1554) dL_law_1553 rfl ⟨by decide, by decide⟩ ?_
    refine g_lald (q := 1555) dL_law_1554 rfl ?_
    refine g_iload (q := 1557) dL_law_1555 rfl rfl ?_
    refine g_i2l (q := 1558) dL_law_1557 rfl ?_
    refine g_lcmp (q := 1559) dL_law_1558 rfl (fun z1558 hz1558 => ?_)
    refine g_if_eq (t := 1564) (q := 1562) dL_law_1559 (by decide) rfl (fun h1559 => ?_) (fun h1559 => (False.elim (by omega)))
    refine g_goto (q := 0) (t := 1832) dL_law_1564 (by decide) ?_
    exact z_G.widen (by omega) (hk S2 hI2 _ _)
theorem lc_hop {Inv : Nat → zS → Prop} (st : st_hop Inv) (hL0 : L ≤ 2560) {n : Nat} {S : zS} {i : Int} {v5 v6 : Option zV} (hn : n < 512) (hI : Inv n S) (hi : 0 ≤ i ∧ i + 5 ≤ L) (hx : ∀ j, z_in (xs j)) (hk : ∀ S2, Inv (n + 1) S2 → ∀ v5 v6, z_G (mLw hh) (zFL L xs c0 s0) (10 * n + 10) 1832 [some (zR 64), some (zR 0), some (zR 7), some (zR 63), some (zI i), v5, v6] [] S2) : z_G (mLw hh) (zFL L xs c0 s0) (10 * n) 1567 [some (zR 64), some (zR 0), some (zR 7), some (zR 63), some (zI i), v5, v6] [] S := by
  obtain ⟨k, v, S1, S2, w1, t1, e5, e0, hI2⟩ := st n S (xs (i + 1).toNat) (xs (i + 2).toNat) (xs (i + 3).toNat) (xs (i + 4).toNat) hn hI (hx _) (hx _) (hx _) (hx _)
  have e0' : ¬ k = 0 ∨ S2.2.2 = v := by
    by_cases q : k = 0
    · exact .inr (e0 q)
    · exact .inl q
  refine g_aload_n (i := 1) (q := 1568) dL_law_1567 rfl rfl rfl ?_
  refine g_aload_n (i := 0) (q := 1569) dL_law_1568 rfl rfl rfl ?_
  refine g_iload (q := 1571) dL_law_1569 rfl rfl ?_
  refine g_iconst (q := 1572) dL_law_1571 rfl ⟨by decide, by decide⟩ ?_
  refine g_iadd (q := 1573) dL_law_1572 rfl (by constructor <;> omega) ?_
  refine g_sld (q := 1574) dL_law_1573 rfl (by omega) (by omega) ?_
  refine g_aload_n (i := 0) (q := 1575) dL_law_1574 rfl rfl rfl ?_
  refine g_iload (q := 1577) dL_law_1575 rfl rfl ?_
  refine g_iconst (q := 1578) dL_law_1577 rfl ⟨by decide, by decide⟩ ?_
  refine g_iadd (q := 1579) dL_law_1578 rfl (by constructor <;> omega) ?_
  refine g_sld (q := 1580) dL_law_1579 rfl (by omega) (by omega) ?_
  refine g_aload_n (i := 0) (q := 1581) dL_law_1580 rfl rfl rfl ?_
  refine g_iload (q := 1583) dL_law_1581 rfl rfl ?_
  refine g_iconst (q := 1584) dL_law_1583 rfl ⟨by decide, by decide⟩ ?_
  refine g_iadd (q := 1585) dL_law_1584 rfl (by constructor <;> omega) ?_
  refine g_sld (q := 1586) dL_law_1585 rfl (by omega) (by omega) ?_
  refine g_aload_n (i := 0) (q := 1587) dL_law_1586 rfl rfl rfl ?_
  refine g_iload (q := 1589) dL_law_1587 rfl rfl ?_
  refine g_iconst (q := 1590) dL_law_1589 rfl ⟨by decide, by decide⟩ ?_
  refine g_iadd (q := 1591) dL_law_1590 rfl (by constructor <;> omega) ?_
  refine g_sld (q := 1592) dL_law_1591 rfl (by omega) (by omega) ?_
  refine g_aload_n (i := 3) (q := 1593) dL_law_1592 rfl rfl rfl ?_
  refine g_fnW (as := [zR 0, zI (xs (i + 1).toNat), zI (xs (i + 2).toNat), zI (xs (i + 3).toNat), zI (xs (i + 4).toNat), zR 63]) (q := 1596) (u' := 10 * n + 4) dL_law_1593 rfl wk_175 rfl rfl (Nat.le_of_ble_eq_true rfl) ⟨Nat.le_of_ble_eq_true rfl, Nat.le_of_ble_eq_true rfl⟩ rfl (show 10 * n + 4 ≤ 6000 by omega) (w1) ?_
  refine g_istore (q := 1598) dL_law_1596 rfl (Nat.le_of_ble_eq_true rfl) ?_
  refine g_aload_n (i := 2) (q := 1599) dL_law_1598 rfl rfl rfl ?_
  refine g_aload_n (i := 0) (q := 1600) dL_law_1599 rfl rfl rfl ?_
  refine g_iload (q := 1602) dL_law_1600 rfl rfl ?_
  refine g_iconst (q := 1603) dL_law_1602 rfl ⟨by decide, by decide⟩ ?_
  refine g_iadd (q := 1604) dL_law_1603 rfl (by constructor <;> omega) ?_
  refine g_sld (q := 1605) dL_law_1604 rfl (by omega) (by omega) ?_
  refine g_aload_n (i := 0) (q := 1606) dL_law_1605 rfl rfl rfl ?_
  refine g_iload (q := 1608) dL_law_1606 rfl rfl ?_
  refine g_iconst (q := 1609) dL_law_1608 rfl ⟨by decide, by decide⟩ ?_
  refine g_iadd (q := 1610) dL_law_1609 rfl (by constructor <;> omega) ?_
  refine g_sld (q := 1611) dL_law_1610 rfl (by omega) (by omega) ?_
  refine g_aload_n (i := 0) (q := 1612) dL_law_1611 rfl rfl rfl ?_
  refine g_iload (q := 1614) dL_law_1612 rfl rfl ?_
  refine g_iconst (q := 1615) dL_law_1614 rfl ⟨by decide, by decide⟩ ?_
  refine g_iadd (q := 1616) dL_law_1615 rfl (by constructor <;> omega) ?_
  refine g_sld (q := 1617) dL_law_1616 rfl (by omega) (by omega) ?_
  refine g_aload_n (i := 0) (q := 1618) dL_law_1617 rfl rfl rfl ?_
  refine g_iload (q := 1620) dL_law_1618 rfl rfl ?_
  refine g_iconst (q := 1621) dL_law_1620 rfl ⟨by decide, by decide⟩ ?_
  refine g_iadd (q := 1622) dL_law_1621 rfl (by constructor <;> omega) ?_
  refine g_sld (q := 1623) dL_law_1622 rfl (by omega) (by omega) ?_
  refine g_fnV (as := [zI (xs (i + 1).toNat), zI (xs (i + 2).toNat), zI (xs (i + 3).toNat), zI (xs (i + 4).toNat)]) (q := 1626) (u' := 10 * n + 4) dL_law_1623 rfl ck_L_177 rfl rfl rfl (Nat.le_of_ble_eq_true rfl) ⟨Nat.le_of_ble_eq_true rfl, Nat.le_of_ble_eq_true rfl⟩ rfl (show 10 * n + 4 ≤ 6000 by omega) (t1) rfl ?_
  refine g_istore (q := 1628) dL_law_1626 rfl (Nat.le_of_ble_eq_true rfl) ?_
  refine g_aload_n (i := 2) (q := 1629) dL_law_1628 rfl rfl rfl ?_
  refine g_fnV (as := []) (q := 1632) (u' := 10 * n + 4) dL_law_1629 rfl ck_L_105 rfl rfl rfl (Nat.le_of_ble_eq_true rfl) ⟨Nat.le_of_ble_eq_true rfl, Nat.le_of_ble_eq_true rfl⟩ rfl (show 10 * n + 4 ≤ 6000 by omega) (t_thrown) rfl ?_
  refine g_iload (q := 1634) dL_law_1632 rfl rfl ?_
  refine g_icmp_eq (t := 1639) (q := 1637) dL_law_1634 (by decide) rfl (fun h1634 => ?_) (fun h1634 => (False.elim (by omega)))
  refine g_iload (q := 1641) dL_law_1639 rfl rfl ?_
  refine g_if_ne (t := 1656) (q := 1644) dL_law_1641 (by decide) rfl (fun h1641 => ?_) (fun h1641 => ?_)
  · refine g_goto (q := 0) (t := 1832) dL_law_1656 (by decide) ?_
    exact z_G.widen (by omega) (hk S2 hI2 _ _)
  · refine g_aload_n (i := 3) (q := 1645) dL_law_1644 rfl rfl rfl ?_
    refine g_iconst (q := 1646) dL_law_1645 rfl ⟨by decide, by decide⟩ ?_
    refine g_lald (q := 1647) dL_law_1646 rfl ?_
    refine g_iload (q := 1649) dL_law_1647 rfl rfl ?_
    refine g_i2l (q := 1650) dL_law_1649 rfl ?_
    refine g_lcmp (q := 1651) dL_law_1650 rfl (fun z1650 hz1650 => ?_)
    refine g_if_eq (t := 1656) (q := 1654) dL_law_1651 (by decide) rfl (fun h1651 => ?_) (fun h1651 => (False.elim (by omega)))
    refine g_goto (q := 0) (t := 1832) dL_law_1656 (by decide) ?_
    exact z_G.widen (by omega) (hk S2 hI2 _ _)
theorem lc_why {Inv : Nat → zS → Prop} (st : st_why Inv) (hL0 : L ≤ 2560) {n : Nat} {S : zS} {i : Int} {v5 v6 : Option zV} (hn : n < 512) (hI : Inv n S) (hi : 0 ≤ i ∧ i + 5 ≤ L) (hx : ∀ j, z_in (xs j)) (hk : ∀ S2, Inv (n + 1) S2 → ∀ v5 v6, z_G (mLw hh) (zFL L xs c0 s0) (10 * n + 10) 1832 [some (zR 64), some (zR 0), some (zR 7), some (zR 63), some (zI i), v5, v6] [] S2) : z_G (mLw hh) (zFL L xs c0 s0) (10 * n) 1659 [some (zR 64), some (zR 0), some (zR 7), some (zR 63), some (zI i), v5, v6] [] S := by
  obtain ⟨k, v, S1, S2, w1, t1, e5, e0, hI2⟩ := st n S (xs (i + 1).toNat) (xs (i + 2).toNat) (xs (i + 3).toNat) hn hI (hx _) (hx _) (hx _)
  have e0' : ¬ k = 0 ∨ S2.2.2 = v := by
    by_cases q : k = 0
    · exact .inr (e0 q)
    · exact .inl q
  refine g_aload_n (i := 1) (q := 1660) dL_law_1659 rfl rfl rfl ?_
  refine g_aload_n (i := 0) (q := 1661) dL_law_1660 rfl rfl rfl ?_
  refine g_iload (q := 1663) dL_law_1661 rfl rfl ?_
  refine g_iconst (q := 1664) dL_law_1663 rfl ⟨by decide, by decide⟩ ?_
  refine g_iadd (q := 1665) dL_law_1664 rfl (by constructor <;> omega) ?_
  refine g_sld (q := 1666) dL_law_1665 rfl (by omega) (by omega) ?_
  refine g_aload_n (i := 0) (q := 1667) dL_law_1666 rfl rfl rfl ?_
  refine g_iload (q := 1669) dL_law_1667 rfl rfl ?_
  refine g_iconst (q := 1670) dL_law_1669 rfl ⟨by decide, by decide⟩ ?_
  refine g_iadd (q := 1671) dL_law_1670 rfl (by constructor <;> omega) ?_
  refine g_sld (q := 1672) dL_law_1671 rfl (by omega) (by omega) ?_
  refine g_aload_n (i := 0) (q := 1673) dL_law_1672 rfl rfl rfl ?_
  refine g_iload (q := 1675) dL_law_1673 rfl rfl ?_
  refine g_iconst (q := 1676) dL_law_1675 rfl ⟨by decide, by decide⟩ ?_
  refine g_iadd (q := 1677) dL_law_1676 rfl (by constructor <;> omega) ?_
  refine g_sld (q := 1678) dL_law_1677 rfl (by omega) (by omega) ?_
  refine g_aload_n (i := 3) (q := 1679) dL_law_1678 rfl rfl rfl ?_
  refine g_fnW (as := [zR 0, zI (xs (i + 1).toNat), zI (xs (i + 2).toNat), zI (xs (i + 3).toNat), zR 63]) (q := 1682) (u' := 10 * n + 3) dL_law_1679 rfl wk_178 rfl rfl (Nat.le_of_ble_eq_true rfl) ⟨Nat.le_of_ble_eq_true rfl, Nat.le_of_ble_eq_true rfl⟩ rfl (show 10 * n + 3 ≤ 6000 by omega) (w1) ?_
  refine g_istore (q := 1684) dL_law_1682 rfl (Nat.le_of_ble_eq_true rfl) ?_
  refine g_aload_n (i := 2) (q := 1685) dL_law_1684 rfl rfl rfl ?_
  refine g_aload_n (i := 0) (q := 1686) dL_law_1685 rfl rfl rfl ?_
  refine g_iload (q := 1688) dL_law_1686 rfl rfl ?_
  refine g_iconst (q := 1689) dL_law_1688 rfl ⟨by decide, by decide⟩ ?_
  refine g_iadd (q := 1690) dL_law_1689 rfl (by constructor <;> omega) ?_
  refine g_sld (q := 1691) dL_law_1690 rfl (by omega) (by omega) ?_
  refine g_aload_n (i := 0) (q := 1692) dL_law_1691 rfl rfl rfl ?_
  refine g_iload (q := 1694) dL_law_1692 rfl rfl ?_
  refine g_iconst (q := 1695) dL_law_1694 rfl ⟨by decide, by decide⟩ ?_
  refine g_iadd (q := 1696) dL_law_1695 rfl (by constructor <;> omega) ?_
  refine g_sld (q := 1697) dL_law_1696 rfl (by omega) (by omega) ?_
  refine g_aload_n (i := 0) (q := 1698) dL_law_1697 rfl rfl rfl ?_
  refine g_iload (q := 1700) dL_law_1698 rfl rfl ?_
  refine g_iconst (q := 1701) dL_law_1700 rfl ⟨by decide, by decide⟩ ?_
  refine g_iadd (q := 1702) dL_law_1701 rfl (by constructor <;> omega) ?_
  refine g_sld (q := 1703) dL_law_1702 rfl (by omega) (by omega) ?_
  refine g_fnV (as := [zI (xs (i + 1).toNat), zI (xs (i + 2).toNat), zI (xs (i + 3).toNat)]) (q := 1706) (u' := 10 * n + 3) dL_law_1703 rfl ck_L_181 rfl rfl rfl (Nat.le_of_ble_eq_true rfl) ⟨Nat.le_of_ble_eq_true rfl, Nat.le_of_ble_eq_true rfl⟩ rfl (show 10 * n + 3 ≤ 6000 by omega) (t1) rfl ?_
  refine g_istore (q := 1708) dL_law_1706 rfl (Nat.le_of_ble_eq_true rfl) ?_
  refine g_aload_n (i := 2) (q := 1709) dL_law_1708 rfl rfl rfl ?_
  refine g_fnV (as := []) (q := 1712) (u' := 10 * n + 3) dL_law_1709 rfl ck_L_105 rfl rfl rfl (Nat.le_of_ble_eq_true rfl) ⟨Nat.le_of_ble_eq_true rfl, Nat.le_of_ble_eq_true rfl⟩ rfl (show 10 * n + 3 ≤ 6000 by omega) (t_thrown) rfl ?_
  refine g_iload (q := 1714) dL_law_1712 rfl rfl ?_
  refine g_icmp_eq (t := 1719) (q := 1717) dL_law_1714 (by decide) rfl (fun h1714 => ?_) (fun h1714 => (False.elim (by omega)))
  refine g_iload (q := 1721) dL_law_1719 rfl rfl ?_
  refine g_if_ne (t := 1736) (q := 1724) dL_law_1721 (by decide) rfl (fun h1721 => ?_) (fun h1721 => ?_)
  · refine g_goto (q := 0) (t := 1832) dL_law_1736 (by decide) ?_
    exact z_G.widen (by omega) (hk S2 hI2 _ _)
  · refine g_aload_n (i := 3) (q := 1725) dL_law_1724 rfl rfl rfl ?_
    refine g_iconst (q := 1726) dL_law_1725 rfl ⟨by decide, by decide⟩ ?_
    refine g_lald (q := 1727) dL_law_1726 rfl ?_
    refine g_iload (q := 1729) dL_law_1727 rfl rfl ?_
    refine g_i2l (q := 1730) dL_law_1729 rfl ?_
    refine g_lcmp (q := 1731) dL_law_1730 rfl (fun z1730 hz1730 => ?_)
    refine g_if_eq (t := 1736) (q := 1734) dL_law_1731 (by decide) rfl (fun h1731 => ?_) (fun h1731 => (False.elim (by omega)))
    refine g_goto (q := 0) (t := 1832) dL_law_1736 (by decide) ?_
    exact z_G.widen (by omega) (hk S2 hI2 _ _)
theorem lc_dial {Inv : Nat → zS → Prop} (st : st_dial Inv) (hL0 : L ≤ 2560) {n : Nat} {S : zS} {i : Int} {v5 v6 : Option zV} (hn : n < 512) (hI : Inv n S) (hi : 0 ≤ i ∧ i + 5 ≤ L) (hx : ∀ j, z_in (xs j)) (hk : ∀ S2, Inv (n + 1) S2 → ∀ v5 v6, z_G (mLw hh) (zFL L xs c0 s0) (10 * n + 10) 1832 [some (zR 64), some (zR 0), some (zR 7), some (zR 63), some (zI i), v5, v6] [] S2) : z_G (mLw hh) (zFL L xs c0 s0) (10 * n) 1739 [some (zR 64), some (zR 0), some (zR 7), some (zR 63), some (zI i), v5, v6] [] S := by
  obtain ⟨k, v, S1, S2, w1, t1, e5, e0, hI2⟩ := st n S (xs (i + 1).toNat) (xs (i + 2).toNat) (xs (i + 3).toNat) hn hI (hx _) (hx _) (hx _)
  have e0' : ¬ k = 0 ∨ S2.2.2 = v := by
    by_cases q : k = 0
    · exact .inr (e0 q)
    · exact .inl q
  refine g_aload_n (i := 1) (q := 1740) dL_law_1739 rfl rfl rfl ?_
  refine g_aload_n (i := 0) (q := 1741) dL_law_1740 rfl rfl rfl ?_
  refine g_iload (q := 1743) dL_law_1741 rfl rfl ?_
  refine g_iconst (q := 1744) dL_law_1743 rfl ⟨by decide, by decide⟩ ?_
  refine g_iadd (q := 1745) dL_law_1744 rfl (by constructor <;> omega) ?_
  refine g_sld (q := 1746) dL_law_1745 rfl (by omega) (by omega) ?_
  refine g_aload_n (i := 0) (q := 1747) dL_law_1746 rfl rfl rfl ?_
  refine g_iload (q := 1749) dL_law_1747 rfl rfl ?_
  refine g_iconst (q := 1750) dL_law_1749 rfl ⟨by decide, by decide⟩ ?_
  refine g_iadd (q := 1751) dL_law_1750 rfl (by constructor <;> omega) ?_
  refine g_sld (q := 1752) dL_law_1751 rfl (by omega) (by omega) ?_
  refine g_aload_n (i := 0) (q := 1753) dL_law_1752 rfl rfl rfl ?_
  refine g_iload (q := 1755) dL_law_1753 rfl rfl ?_
  refine g_iconst (q := 1756) dL_law_1755 rfl ⟨by decide, by decide⟩ ?_
  refine g_iadd (q := 1757) dL_law_1756 rfl (by constructor <;> omega) ?_
  refine g_sld (q := 1758) dL_law_1757 rfl (by omega) (by omega) ?_
  refine g_aload_n (i := 3) (q := 1759) dL_law_1758 rfl rfl rfl ?_
  refine g_fnW (as := [zR 0, zI (xs (i + 1).toNat), zI (xs (i + 2).toNat), zI (xs (i + 3).toNat), zR 63]) (q := 1762) (u' := 10 * n + 4) dL_law_1759 rfl wk_182 rfl rfl (Nat.le_of_ble_eq_true rfl) ⟨Nat.le_of_ble_eq_true rfl, Nat.le_of_ble_eq_true rfl⟩ rfl (show 10 * n + 4 ≤ 6000 by omega) (w1) ?_
  refine g_istore (q := 1764) dL_law_1762 rfl (Nat.le_of_ble_eq_true rfl) ?_
  refine g_aload_n (i := 2) (q := 1765) dL_law_1764 rfl rfl rfl ?_
  refine g_aload_n (i := 0) (q := 1766) dL_law_1765 rfl rfl rfl ?_
  refine g_iload (q := 1768) dL_law_1766 rfl rfl ?_
  refine g_iconst (q := 1769) dL_law_1768 rfl ⟨by decide, by decide⟩ ?_
  refine g_iadd (q := 1770) dL_law_1769 rfl (by constructor <;> omega) ?_
  refine g_sld (q := 1771) dL_law_1770 rfl (by omega) (by omega) ?_
  refine g_aload_n (i := 0) (q := 1772) dL_law_1771 rfl rfl rfl ?_
  refine g_iload (q := 1774) dL_law_1772 rfl rfl ?_
  refine g_iconst (q := 1775) dL_law_1774 rfl ⟨by decide, by decide⟩ ?_
  refine g_iadd (q := 1776) dL_law_1775 rfl (by constructor <;> omega) ?_
  refine g_sld (q := 1777) dL_law_1776 rfl (by omega) (by omega) ?_
  refine g_aload_n (i := 0) (q := 1778) dL_law_1777 rfl rfl rfl ?_
  refine g_iload (q := 1780) dL_law_1778 rfl rfl ?_
  refine g_iconst (q := 1781) dL_law_1780 rfl ⟨by decide, by decide⟩ ?_
  refine g_iadd (q := 1782) dL_law_1781 rfl (by constructor <;> omega) ?_
  refine g_sld (q := 1783) dL_law_1782 rfl (by omega) (by omega) ?_
  refine g_fnV (as := [zI (xs (i + 1).toNat), zI (xs (i + 2).toNat), zI (xs (i + 3).toNat)]) (q := 1786) (u' := 10 * n + 4) dL_law_1783 rfl ck_L_184 rfl rfl rfl (Nat.le_of_ble_eq_true rfl) ⟨Nat.le_of_ble_eq_true rfl, Nat.le_of_ble_eq_true rfl⟩ rfl (show 10 * n + 4 ≤ 6000 by omega) (t1) rfl ?_
  refine g_istore (q := 1788) dL_law_1786 rfl (Nat.le_of_ble_eq_true rfl) ?_
  refine g_aload_n (i := 2) (q := 1789) dL_law_1788 rfl rfl rfl ?_
  refine g_fnV (as := []) (q := 1792) (u' := 10 * n + 4) dL_law_1789 rfl ck_L_105 rfl rfl rfl (Nat.le_of_ble_eq_true rfl) ⟨Nat.le_of_ble_eq_true rfl, Nat.le_of_ble_eq_true rfl⟩ rfl (show 10 * n + 4 ≤ 6000 by omega) (t_thrown) rfl ?_
  refine g_iload (q := 1794) dL_law_1792 rfl rfl ?_
  refine g_icmp_eq (t := 1799) (q := 1797) dL_law_1794 (by decide) rfl (fun h1794 => ?_) (fun h1794 => (False.elim (by omega)))
  refine g_iload (q := 1801) dL_law_1799 rfl rfl ?_
  refine g_if_ne (t := 1816) (q := 1804) dL_law_1801 (by decide) rfl (fun h1801 => ?_) (fun h1801 => ?_)
  · refine g_goto (q := 0) (t := 1832) dL_law_1816 (by decide) ?_
    exact z_G.widen (by omega) (hk S2 hI2 _ _)
  · refine g_aload_n (i := 3) (q := 1805) dL_law_1804 rfl rfl rfl ?_
    refine g_iconst (q := 1806) dL_law_1805 rfl ⟨by decide, by decide⟩ ?_
    refine g_lald (q := 1807) dL_law_1806 rfl ?_
    refine g_iload (q := 1809) dL_law_1807 rfl rfl ?_
    refine g_i2l (q := 1810) dL_law_1809 rfl ?_
    refine g_lcmp (q := 1811) dL_law_1810 rfl (fun z1810 hz1810 => ?_)
    refine g_if_eq (t := 1816) (q := 1814) dL_law_1811 (by decide) rfl (fun h1811 => ?_) (fun h1811 => (False.elim (by omega)))
    refine g_goto (q := 0) (t := 1832) dL_law_1816 (by decide) ?_
    exact z_G.widen (by omega) (hk S2 hI2 _ _)
theorem lc_minute {Inv : Nat → zS → Prop} (st : st_minute Inv) (hL0 : L ≤ 2560) {n : Nat} {S : zS} {i : Int} {v5 v6 : Option zV} (hn : n < 512) (hI : Inv n S) (hi : 0 ≤ i ∧ i + 5 ≤ L) (hx : ∀ j, z_in (xs j)) (hk : ∀ S2, Inv (n + 1) S2 → ∀ v5 v6, z_G (mLw hh) (zFL L xs c0 s0) (10 * n + 10) 1832 [some (zR 64), some (zR 0), some (zR 7), some (zR 63), some (zI i), v5, v6] [] S2) : z_G (mLw hh) (zFL L xs c0 s0) (10 * n) 1819 [some (zR 64), some (zR 0), some (zR 7), some (zR 63), some (zI i), v5, v6] [] S := by
  obtain ⟨v, S2, w1, t1, hI2⟩ := st n S hn hI
  refine g_aload_n (i := 1) (q := 1820) dL_law_1819 rfl rfl rfl ?_
  refine g_fnV (as := []) (q := 1823) (u' := 10 * n + 0) dL_law_1820 rfl ck_L_185 rfl rfl rfl (Nat.le_of_ble_eq_true rfl) ⟨Nat.le_of_ble_eq_true rfl, Nat.le_of_ble_eq_true rfl⟩ rfl (show 10 * n + 0 ≤ 6000 by omega) (w1) rfl ?_
  refine g_aload_n (i := 2) (q := 1824) dL_law_1823 rfl rfl rfl ?_
  refine g_fnV (as := []) (q := 1827) (u' := 10 * n + 0) dL_law_1824 rfl ck_L_188 rfl rfl rfl (Nat.le_of_ble_eq_true rfl) ⟨Nat.le_of_ble_eq_true rfl, Nat.le_of_ble_eq_true rfl⟩ rfl (show 10 * n + 0 ≤ 6000 by omega) (t1) rfl ?_
  refine g_icmp_eq (t := 1832) (q := 1830) dL_law_1827 (by decide) rfl (fun h1827 => ?_) (fun h1827 => (False.elim (by omega)))
  exact z_G.widen (by omega) (hk S2 hI2 _ _)
end
