/-! ===== the simulation: money, in whatever order it is paid ===== -/
theorem wr_add (x y : Int) : z_wr (z_wr x + y) = z_wr (x + y) := by
  unfold z_wr
  simp
theorem wr_sub (x y : Int) : z_wr (z_wr x - y) = z_wr (x - y) := by
  unfold z_wr
  simp
def zpay (A : Int → Int) (p t m : Int) : Int → Int := fun f => if f = t then z_wr ((if t = p then z_wr (A p - m) else A t) + m) else if f = p then z_wr (A p - m) else A f
theorem x_pay_z (S : zS) (p t m : Int) : (x_pay S p t m).2.1 12 = zpay (S.2.1 12) p t m := by
  funext f
  unfold x_pay zpay
  simp [za_sA]
theorem y_pay_z (S : zS) (p t m : Int) : (y_pay S p t m).2.1 61 = zpay (S.2.1 61) p t m := by
  funext f
  unfold y_pay zpay
  simp [za_sA]
theorem zpay_comm (A : Int → Int) (p t m t' m' : Int) : zpay (zpay A p t m) p t' m' = zpay (zpay A p t' m') p t m := by
  funext f
  unfold zpay
  by_cases a : t = p <;> by_cases b : t' = p <;> by_cases c : t = t' <;> by_cases d : f = p <;> by_cases e : f = t <;> by_cases g : f = t' <;> (try subst a) <;> (try subst b) <;> (try subst c) <;> (try subst d) <;> (try subst e) <;> (try subst g) <;> simp_all [wr_add, wr_sub] <;> (try (congr 1; omega)) <;> omega
def zit (A h : Int → Int) : Nat → Nat → Int → Int
  | _, 0 => A
  | i, k + 1 => zit (zpay A (h 0) (h i) 1) h (i + 1) k
theorem zit_comm (h : Int → Int) (t m : Int) : ∀ (k i : Nat) (A : Int → Int), zit (zpay A (h 0) t m) h i k = zpay (zit A h i k) (h 0) t m
  | 0, _, _ => rfl
  | k + 1, i, A => by rw [zit, zit, zpay_comm, zit_comm h t m k (i + 1)]
theorem zpay_cong {A B : Int → Int} {p t m : Int} (hp : 0 ≤ p ∧ p < 6) (ht : 0 ≤ t ∧ t < 6) (e : ∀ f : Int, 0 ≤ f → f < 6 → A f = B f) : ∀ f : Int, 0 ≤ f → f < 6 → zpay A p t m f = zpay B p t m f := fun f a b => by
  unfold zpay
  rw [e p hp.1 hp.2, e t ht.1 ht.2, e f a b]
theorem zit_cong {h h' : Int → Int} {len : Nat} (hh : ∀ j : Int, 0 ≤ j → j < len → h j = h' j ∧ 0 ≤ h j ∧ h j < 6) : ∀ (k i : Nat) (A B : Int → Int), 1 ≤ len → i + k ≤ len → (∀ f : Int, 0 ≤ f → f < 6 → A f = B f) → ∀ f : Int, 0 ≤ f → f < 6 → zit A h i k f = zit B h' i k f
  | 0, _, _, _, _, _, e => e
  | k + 1, i, A, B, h1, hi, e => by
    have q0 := hh 0 (by omega) (by omega)
    have q1 := hh i (by omega) (by omega)
    rw [zit, zit, ← q0.1, ← q1.1]
    exact zit_cong hh k (i + 1) _ _ h1 (by omega) (zpay_cong q0.2 q1.2 e)
theorem x_pay_fr {S : zS} {p t m : Int} : (x_pay S p t m).1 = S.1 ∧ (x_pay S p t m).2.2 = S.2.2 ∧ ∀ q, q ≠ 12 → (x_pay S p t m).2.1 q = S.2.1 q := ⟨rfl, rfl, fun q h => funext fun j => by unfold x_pay; rw [za_ne h, za_ne h]⟩
theorem y_pay_fr {S : zS} {p t m : Int} : (y_pay S p t m).1 = S.1 ∧ (y_pay S p t m).2.2 = S.2.2 ∧ ∀ q, q ≠ 61 → (y_pay S p t m).2.1 q = S.2.1 q := ⟨rfl, rfl, fun q h => funext fun j => by unfold y_pay; rw [za_ne h, za_ne h]⟩
theorem x_pfl_z : ∀ (k i : Nat) (S : zS), (x_pfl S i k).2.1 12 = zit (S.2.1 12) (S.2.1 39) i k ∧ (x_pfl S i k).1 = S.1 ∧ (x_pfl S i k).2.2 = S.2.2 ∧ ∀ q, q ≠ 12 → (x_pfl S i k).2.1 q = S.2.1 q
  | 0, _, _ => ⟨rfl, rfl, rfl, fun _ _ => rfl⟩
  | k + 1, i, S => by
    obtain ⟨h1, h2, h3, h4⟩ := x_pfl_z k (i + 1) (x_pay S (S.2.1 39 0) (S.2.1 39 i) 1)
    obtain ⟨g1, g2, g3⟩ := x_pay_fr (S := S) (p := S.2.1 39 0) (t := S.2.1 39 i) (m := 1)
    rw [x_pfl, zit]
    exact ⟨by rw [h1, x_pay_z, g3 39 (by omega)], h2.trans g1, h3.trans g2, fun q hq => (h4 q hq).trans (g3 q hq)⟩
theorem y_pfl_fr {len : Nat} : ∀ (k i : Nat) (S : zS), (y_pfl S len i k).1 = S.1 ∧ (y_pfl S len i k).2.2 = S.2.2 ∧ ∀ q, q ≠ 61 → (y_pfl S len i k).2.1 q = S.2.1 q
  | 0, _, _ => ⟨rfl, rfl, fun _ _ => rfl⟩
  | k + 1, i, S => by
    rw [y_pfl]
    obtain ⟨h2, h3, h4⟩ := y_pfl_fr (len := len) k (i + 1) (y_pay S (S.2.1 62 0) (S.2.1 62 i) (if i + 1 = len then 3 else 1))
    obtain ⟨g1, g2, g3⟩ := y_pay_fr (S := S) (p := S.2.1 62 0) (t := S.2.1 62 i) (m := if i + 1 = len then 3 else 1)
    exact ⟨h2.trans g1, h3.trans g2, fun q hq => (h4 q hq).trans (g3 q hq)⟩
theorem y_pfl_z {len : Nat} : ∀ (k i : Nat) (S : zS), i + (k + 1) = len → (y_pfl S len i (k + 1)).2.1 61 = zpay (zit (S.2.1 61) (S.2.1 62) i k) (S.2.1 62 0) (S.2.1 62 ((len : Int) - 1)) 3
  | 0, i, S, hi => by
    rw [y_pfl, y_pfl, if_pos (by omega), y_pay_z, zit, show (i : Int) = (len : Int) - 1 by omega]
  | k + 1, i, S, hi => by
    have g3 := (y_pay_fr (S := S) (p := S.2.1 62 0) (t := S.2.1 62 i) (m := 1)).2.2
    rw [y_pfl, if_neg (by omega), y_pfl_z k (i + 1) _ (by omega), y_pay_z, g3 62 (by omega), zit]
/-- the same is paid for a call -/
theorem pf_eq {S T : zS} (e4 : S.1 4 = T.1 9) (hl : 1 ≤ S.1 4) (hh : ∀ j : Int, 0 ≤ j → j < S.1 4 → S.2.1 39 j = T.2.1 62 j ∧ 0 ≤ S.2.1 39 j ∧ S.2.1 39 j < 6) (ea : ∀ f : Int, 0 ≤ f → f < 6 → S.2.1 12 f = T.2.1 61 f) : ∀ f : Int, 0 ≤ f → f < 6 → (x_pf S).2.1 12 f = (y_pf T).2.1 61 f := by
  intro f a b
  unfold x_pf y_pf
  by_cases c : S.1 4 - 1 < 1
  · rw [if_pos c, show (T.1 9).toNat - 1 = 0 by omega, y_pfl]
    exact ea f a b
  · obtain ⟨len, hlen⟩ : ∃ len : Nat, S.1 4 = len := ⟨(S.1 4).toNat, by omega⟩
    have q0 := hh 0 (by omega) (by omega)
    have q1 := hh ((len : Int) - 1) (by omega) (by omega)
    rw [if_neg c, (x_pfl_z _ _ _).1, x_pay_z, x_pay_fr.2.2 39 (by omega), zit_comm, ← e4, hlen, Int.toNat_natCast, show len - 1 = (len - 2) + 1 by omega, y_pfl_z (len - 2) 1 T (by omega), show ((len : Int) - 2).toNat = len - 2 by omega, ← q0.1, ← q1.1]
    exact zpay_cong q0.2 q1.2 (zit_cong (len := len) (fun j x y => hh j x (by omega)) (len - 2) 1 _ _ (by omega) (by omega) ea) f a b
