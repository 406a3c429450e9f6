/-! ===== the simulation: the class's part of a state against the reference's part of another ===== -/
/-- the last change of n among the first k -/
def zlast (a b : Int → Int) (n : Int) : Nat → Int
  | 0 => 6
  | k + 1 => if a k = n then b k else zlast a b n k
theorem y_last_z (S : zS) (n : Int) : ∀ k, y_last S n k = zlast (S.2.1 56) (S.2.1 57) n k
  | 0 => rfl
  | k + 1 => by rw [y_last, zlast, y_last_z S n k]
/-- the history, replayed -/
def zrep (a b d : Int → Int) (n : Int) : Nat → Nat → Int → Int
  | _, 0, s => s
  | i, k + 1, s => zrep a b d n (i + 1) k (if b i = (if a i = 0 then n else s) then d i else s)
theorem x_rep_z (S : zS) (n : Int) : ∀ (k i : Nat) (s : Int), x_rep S n i k s = zrep (S.2.1 36) (S.2.1 37) (S.2.1 38) n i k s
  | 0, _, _ => rfl
  | k + 1, i, s => by rw [x_rep, zrep, x_rep_z S n k (i + 1)]
/-- served elsewhere than at its holder -/
def zaway (a h : Int → Int) (n : Nat) : Bool := decide (¬ a n = -1 ∧ ¬ a n = h ((n : Int) / 10))
def zdone (a : Int → Int) (o : Nat) : Bool := decide (a o = 2 ∨ a o = 4)
def zback (a : Int → Int) (o : Nat) : Bool := decide (a o = 4)
def zgone (a : Int → Int) (o : Nat) : Bool := decide (a o = 1)
/-- n calls are behind: the class's part of S, the reference's part of T -/
abbrev zRel (n : Nat) (S T : zS) : Prop :=
  (S.1 0 = T.1 6) ∧
  (0 ≤ S.1 0 ∧ S.1 0 ≤ 9999) ∧
  (S.1 1 = T.1 7) ∧
  (0 ≤ S.1 1 ∧ S.1 1 ≤ 60) ∧
  (S.1 2 = T.1 8) ∧
  (0 ≤ S.1 2) ∧
  (∀ b : Int, 0 ≤ b → b < 20 → S.2.1 8 b = T.2.1 40 b ∧ (-1 ≤ S.2.1 8 b ∧ S.2.1 8 b < 6)) ∧
  (∀ f : Int, 0 ≤ f → f < 6 → S.2.1 9 f = T.2.1 41 f ∧ (S.2.1 9 f = 0 ∨ S.2.1 9 f = 1)) ∧
  (∀ f : Int, 0 ≤ f → f < 6 → S.2.1 10 f = T.2.1 60 f ∧ (S.2.1 10 f = 0 ∨ S.2.1 10 f = 1)) ∧
  (∀ f : Int, 0 ≤ f → f < 6 → S.2.1 11 f = T.2.1 59 f ∧ (0 ≤ S.2.1 11 f ∧ S.2.1 11 f ≤ 50)) ∧
  (∀ f : Int, 0 ≤ f → f < 6 → S.2.1 12 f = T.2.1 61 f) ∧
  (∀ f : Int, 0 ≤ f → f < 6 → S.2.1 28 f = T.2.1 58 f ∧ (0 ≤ S.2.1 28 f ∧ S.2.1 28 f ≤ S.1 2)) ∧
  (∀ n : Int, 0 ≤ n → n < 200 → S.2.1 13 n = T.2.1 42 n ∧ (-1 ≤ S.2.1 13 n ∧ S.2.1 13 n < 6)) ∧
  (∀ n : Int, 0 ≤ n → n < 200 → S.2.1 14 n = T.2.1 43 n) ∧
  (∀ n : Int, 0 ≤ n → n < 200 → (S.2.1 15 n = T.2.1 44 n + 99 ∧ 0 ≤ T.2.1 44 n ∧ T.2.1 44 n ≤ 9999) ∨ (S.2.1 15 n = -1 ∧ T.2.1 44 n = -1000)) ∧
  (∀ n : Int, 0 ≤ n → n < 200 → (S.2.1 16 n = T.2.1 45 n + 49 ∧ 0 ≤ T.2.1 45 n ∧ T.2.1 45 n ≤ 9999) ∨ (S.2.1 16 n = -1 ∧ T.2.1 45 n = -1000)) ∧
  (∀ n : Int, 0 ≤ n → n < 200 → (S.2.1 17 n = T.2.1 46 n + 30 ∧ 0 ≤ T.2.1 46 n ∧ T.2.1 46 n ≤ 9999) ∨ (S.2.1 17 n = -1 ∧ T.2.1 46 n = -1000)) ∧
  (∀ n : Int, 0 ≤ n → n < 200 → ¬ S.2.1 13 n = -1 → S.2.1 18 n = T.2.1 47 n) ∧
  (∀ n : Int, 0 ≤ n → n < 200 → S.2.1 13 n = -1 → S.2.1 18 n = -1) ∧
  (∀ n : Int, 0 ≤ n → n < 200 → ¬ S.2.1 13 n = -1 → ¬ S.2.1 8 (n / 10) = -1) ∧
  (∀ j : Int, 0 ≤ j → j < S.1 2 → S.2.1 25 j = T.2.1 55 j ∧ S.2.1 26 j = T.2.1 56 j ∧ S.2.1 27 j = T.2.1 57 j ∧ (0 ≤ S.2.1 26 j ∧ S.2.1 26 j < 200) ∧ (0 ≤ S.2.1 27 j ∧ S.2.1 27 j ≤ 6)) ∧
  (∀ j : Int, 0 ≤ j → 0 ≤ T.2.1 57 j ∧ T.2.1 57 j ≤ 6) ∧
  (∀ o : Int, 0 ≤ o → o < S.1 1 → S.2.1 19 o = T.2.1 48 o ∧ S.2.1 20 o = T.2.1 49 o ∧ S.2.1 21 o = T.2.1 50 o ∧ S.2.1 22 o = T.2.1 51 o ∧ S.2.1 23 o = T.2.1 52 o ∧ S.2.1 24 o = T.2.1 53 o) ∧
  (∀ o : Int, 0 ≤ o → o < S.1 1 → (0 ≤ S.2.1 21 o ∧ S.2.1 21 o < 200) ∧ (0 ≤ S.2.1 22 o ∧ S.2.1 22 o < 6) ∧ (0 ≤ S.2.1 24 o ∧ S.2.1 24 o ≤ 20000)) ∧
  (∀ o : Int, 0 ≤ o → o < S.1 1 → S.2.1 19 o = 1 → ¬ S.2.1 13 (S.2.1 21 o) = -1) ∧
  (∀ o : Int, 0 ≤ o → o < S.1 1 → S.2.1 19 o = 2 → T.2.1 54 o = S.2.1 24 o ∧ (0 ≤ S.2.1 23 o ∧ S.2.1 23 o < 6) ∧ S.2.1 24 o ≤ 9999) ∧
  (∀ o p : Int, 0 ≤ o → o < S.1 1 → 0 ≤ p → p < S.1 1 → S.2.1 19 o = 1 → S.2.1 19 p = 1 → S.2.1 21 o = S.2.1 21 p → o = p) ∧
  (∀ f n : Int, 0 ≤ f → f < 6 → 0 ≤ n → n < 200 → S.2.1 (30 + f.toNat) n = zlast (S.2.1 26) (S.2.1 27) n (S.2.1 28 f).toNat) ∧
  (∀ n : Int, 0 ≤ n → n < 200 → zrep (S.2.1 36) (S.2.1 37) (S.2.1 38) n 0 (S.1 3).toNat (-1) = S.2.1 13 n) ∧
  (0 ≤ S.1 3 ∧ S.1 3 ≤ n + z_ct (zdone (S.2.1 19)) (S.1 1).toNat) ∧
  (S.1 2 + z_ct (zaway (S.2.1 13) (S.2.1 8)) 200 ≤ 2 * z_ct (zdone (S.2.1 19)) (S.1 1).toNat + 2 * z_ct (zback (S.2.1 19)) (S.1 1).toNat + 60 * z_ct (zgone (S.2.1 9)) 6) ∧
  (∃ f : Int, 0 ≤ f ∧ f < 6 ∧ S.2.1 9 f = 0) ∧
  (∀ k : Nat, k < 200 → zaway (S.2.1 13) (S.2.1 8) k = true → ∃ o : Nat, (o : Int) < S.1 1 ∧ zdone (S.2.1 19) o = true ∧ S.2.1 21 o = k)
theorem zRel.now {n9 : Nat} {S T : zS} (h : zRel n9 S T) : S.1 0 = T.1 6 := h.1
theorem zRel.nowr {n9 : Nat} {S T : zS} (h : zRel n9 S T) : 0 ≤ S.1 0 ∧ S.1 0 ≤ 9999 := h.2.1
theorem zRel.ord {n9 : Nat} {S T : zS} (h : zRel n9 S T) : S.1 1 = T.1 7 := h.2.2.1
theorem zRel.ordr {n9 : Nat} {S T : zS} (h : zRel n9 S T) : 0 ≤ S.1 1 ∧ S.1 1 ≤ 60 := h.2.2.2.1
theorem zRel.chg {n9 : Nat} {S T : zS} (h : zRel n9 S T) : S.1 2 = T.1 8 := h.2.2.2.2.1
theorem zRel.chgr {n9 : Nat} {S T : zS} (h : zRel n9 S T) : 0 ≤ S.1 2 := h.2.2.2.2.2.1
theorem zRel.hold {n9 : Nat} {S T : zS} (h : zRel n9 S T) : ∀ b : Int, 0 ≤ b → b < 20 → S.2.1 8 b = T.2.1 40 b ∧ (-1 ≤ S.2.1 8 b ∧ S.2.1 8 b < 6) := h.2.2.2.2.2.2.1
theorem zRel.gone {n9 : Nat} {S T : zS} (h : zRel n9 S T) : ∀ f : Int, 0 ≤ f → f < 6 → S.2.1 9 f = T.2.1 41 f ∧ (S.2.1 9 f = 0 ∨ S.2.1 9 f = 1) := h.2.2.2.2.2.2.2.1
theorem zRel.down {n9 : Nat} {S T : zS} (h : zRel n9 S T) : ∀ f : Int, 0 ≤ f → f < 6 → S.2.1 10 f = T.2.1 60 f ∧ (S.2.1 10 f = 0 ∨ S.2.1 10 f = 1) := h.2.2.2.2.2.2.2.2.1
theorem zRel.lag {n9 : Nat} {S T : zS} (h : zRel n9 S T) : ∀ f : Int, 0 ≤ f → f < 6 → S.2.1 11 f = T.2.1 59 f ∧ (0 ≤ S.2.1 11 f ∧ S.2.1 11 f ≤ 50) := h.2.2.2.2.2.2.2.2.2.1
theorem zRel.acc {n9 : Nat} {S T : zS} (h : zRel n9 S T) : ∀ f : Int, 0 ≤ f → f < 6 → S.2.1 12 f = T.2.1 61 f := h.2.2.2.2.2.2.2.2.2.2.1
theorem zRel.lrn {n9 : Nat} {S T : zS} (h : zRel n9 S T) : ∀ f : Int, 0 ≤ f → f < 6 → S.2.1 28 f = T.2.1 58 f ∧ (0 ≤ S.2.1 28 f ∧ S.2.1 28 f ≤ S.1 2) := h.2.2.2.2.2.2.2.2.2.2.2.1
theorem zRel.serv {n9 : Nat} {S T : zS} (h : zRel n9 S T) : ∀ n : Int, 0 ≤ n → n < 200 → S.2.1 13 n = T.2.1 42 n ∧ (-1 ≤ S.2.1 13 n ∧ S.2.1 13 n < 6) := h.2.2.2.2.2.2.2.2.2.2.2.2.1
theorem zRel.secr {n9 : Nat} {S T : zS} (h : zRel n9 S T) : ∀ n : Int, 0 ≤ n → n < 200 → S.2.1 14 n = T.2.1 43 n := h.2.2.2.2.2.2.2.2.2.2.2.2.2.1
theorem zRel.quar {n9 : Nat} {S T : zS} (h : zRel n9 S T) : ∀ n : Int, 0 ≤ n → n < 200 → (S.2.1 15 n = T.2.1 44 n + 99 ∧ 0 ≤ T.2.1 44 n ∧ T.2.1 44 n ≤ 9999) ∨ (S.2.1 15 n = -1 ∧ T.2.1 44 n = -1000) := h.2.2.2.2.2.2.2.2.2.2.2.2.2.2.1
theorem zRel.sile {n9 : Nat} {S T : zS} (h : zRel n9 S T) : ∀ n : Int, 0 ≤ n → n < 200 → (S.2.1 16 n = T.2.1 45 n + 49 ∧ 0 ≤ T.2.1 45 n ∧ T.2.1 45 n ≤ 9999) ∨ (S.2.1 16 n = -1 ∧ T.2.1 45 n = -1000) := h.2.2.2.2.2.2.2.2.2.2.2.2.2.2.2.1
theorem zRel.call {n9 : Nat} {S T : zS} (h : zRel n9 S T) : ∀ n : Int, 0 ≤ n → n < 200 → (S.2.1 17 n = T.2.1 46 n + 30 ∧ 0 ≤ T.2.1 46 n ∧ T.2.1 46 n ≤ 9999) ∨ (S.2.1 17 n = -1 ∧ T.2.1 46 n = -1000) := h.2.2.2.2.2.2.2.2.2.2.2.2.2.2.2.2.1
theorem zRel.last {n9 : Nat} {S T : zS} (h : zRel n9 S T) : ∀ n : Int, 0 ≤ n → n < 200 → ¬ S.2.1 13 n = -1 → S.2.1 18 n = T.2.1 47 n := h.2.2.2.2.2.2.2.2.2.2.2.2.2.2.2.2.2.1
theorem zRel.lastn {n9 : Nat} {S T : zS} (h : zRel n9 S T) : ∀ n : Int, 0 ≤ n → n < 200 → S.2.1 13 n = -1 → S.2.1 18 n = -1 := h.2.2.2.2.2.2.2.2.2.2.2.2.2.2.2.2.2.2.1
theorem zRel.held {n9 : Nat} {S T : zS} (h : zRel n9 S T) : ∀ n : Int, 0 ≤ n → n < 200 → ¬ S.2.1 13 n = -1 → ¬ S.2.1 8 (n / 10) = -1 := h.2.2.2.2.2.2.2.2.2.2.2.2.2.2.2.2.2.2.2.1
theorem zRel.cat {n9 : Nat} {S T : zS} (h : zRel n9 S T) : ∀ j : Int, 0 ≤ j → j < S.1 2 → S.2.1 25 j = T.2.1 55 j ∧ S.2.1 26 j = T.2.1 56 j ∧ S.2.1 27 j = T.2.1 57 j ∧ (0 ≤ S.2.1 26 j ∧ S.2.1 26 j < 200) ∧ (0 ≤ S.2.1 27 j ∧ S.2.1 27 j ≤ 6) := h.2.2.2.2.2.2.2.2.2.2.2.2.2.2.2.2.2.2.2.2.1
theorem zRel.to6 {n9 : Nat} {S T : zS} (h : zRel n9 S T) : ∀ j : Int, 0 ≤ j → 0 ≤ T.2.1 57 j ∧ T.2.1 57 j ≤ 6 := h.2.2.2.2.2.2.2.2.2.2.2.2.2.2.2.2.2.2.2.2.2.1
theorem zRel.ords {n9 : Nat} {S T : zS} (h : zRel n9 S T) : ∀ o : Int, 0 ≤ o → o < S.1 1 → S.2.1 19 o = T.2.1 48 o ∧ S.2.1 20 o = T.2.1 49 o ∧ S.2.1 21 o = T.2.1 50 o ∧ S.2.1 22 o = T.2.1 51 o ∧ S.2.1 23 o = T.2.1 52 o ∧ S.2.1 24 o = T.2.1 53 o := h.2.2.2.2.2.2.2.2.2.2.2.2.2.2.2.2.2.2.2.2.2.2.1
theorem zRel.ordv {n9 : Nat} {S T : zS} (h : zRel n9 S T) : ∀ o : Int, 0 ≤ o → o < S.1 1 → (0 ≤ S.2.1 21 o ∧ S.2.1 21 o < 200) ∧ (0 ≤ S.2.1 22 o ∧ S.2.1 22 o < 6) ∧ (0 ≤ S.2.1 24 o ∧ S.2.1 24 o ≤ 20000) := h.2.2.2.2.2.2.2.2.2.2.2.2.2.2.2.2.2.2.2.2.2.2.2.1
theorem zRel.ordw {n9 : Nat} {S T : zS} (h : zRel n9 S T) : ∀ o : Int, 0 ≤ o → o < S.1 1 → S.2.1 19 o = 1 → ¬ S.2.1 13 (S.2.1 21 o) = -1 := h.2.2.2.2.2.2.2.2.2.2.2.2.2.2.2.2.2.2.2.2.2.2.2.2.1
theorem zRel.ordd {n9 : Nat} {S T : zS} (h : zRel n9 S T) : ∀ o : Int, 0 ≤ o → o < S.1 1 → S.2.1 19 o = 2 → T.2.1 54 o = S.2.1 24 o ∧ (0 ≤ S.2.1 23 o ∧ S.2.1 23 o < 6) ∧ S.2.1 24 o ≤ 9999 := h.2.2.2.2.2.2.2.2.2.2.2.2.2.2.2.2.2.2.2.2.2.2.2.2.2.1
theorem zRel.uniq {n9 : Nat} {S T : zS} (h : zRel n9 S T) : ∀ o p : Int, 0 ≤ o → o < S.1 1 → 0 ≤ p → p < S.1 1 → S.2.1 19 o = 1 → S.2.1 19 p = 1 → S.2.1 21 o = S.2.1 21 p → o = p := h.2.2.2.2.2.2.2.2.2.2.2.2.2.2.2.2.2.2.2.2.2.2.2.2.2.2.1
theorem zRel.tab {n9 : Nat} {S T : zS} (h : zRel n9 S T) : ∀ f n : Int, 0 ≤ f → f < 6 → 0 ≤ n → n < 200 → S.2.1 (30 + f.toNat) n = zlast (S.2.1 26) (S.2.1 27) n (S.2.1 28 f).toNat := h.2.2.2.2.2.2.2.2.2.2.2.2.2.2.2.2.2.2.2.2.2.2.2.2.2.2.2.1
theorem zRel.repl {n9 : Nat} {S T : zS} (h : zRel n9 S T) : ∀ n : Int, 0 ≤ n → n < 200 → zrep (S.2.1 36) (S.2.1 37) (S.2.1 38) n 0 (S.1 3).toNat (-1) = S.2.1 13 n := h.2.2.2.2.2.2.2.2.2.2.2.2.2.2.2.2.2.2.2.2.2.2.2.2.2.2.2.2.1
theorem zRel.hisr {n9 : Nat} {S T : zS} (h : zRel n9 S T) : 0 ≤ S.1 3 ∧ S.1 3 ≤ n9 + z_ct (zdone (S.2.1 19)) (S.1 1).toNat := h.2.2.2.2.2.2.2.2.2.2.2.2.2.2.2.2.2.2.2.2.2.2.2.2.2.2.2.2.2.1
theorem zRel.phi {n9 : Nat} {S T : zS} (h : zRel n9 S T) : S.1 2 + z_ct (zaway (S.2.1 13) (S.2.1 8)) 200 ≤ 2 * z_ct (zdone (S.2.1 19)) (S.1 1).toNat + 2 * z_ct (zback (S.2.1 19)) (S.1 1).toNat + 60 * z_ct (zgone (S.2.1 9)) 6 := h.2.2.2.2.2.2.2.2.2.2.2.2.2.2.2.2.2.2.2.2.2.2.2.2.2.2.2.2.2.2.1
theorem zRel.stay {n9 : Nat} {S T : zS} (h : zRel n9 S T) : ∃ f : Int, 0 ≤ f ∧ f < 6 ∧ S.2.1 9 f = 0 := h.2.2.2.2.2.2.2.2.2.2.2.2.2.2.2.2.2.2.2.2.2.2.2.2.2.2.2.2.2.2.2.1
theorem zRel.awo {n9 : Nat} {S T : zS} (h : zRel n9 S T) : ∀ k : Nat, k < 200 → zaway (S.2.1 13) (S.2.1 8) k = true → ∃ o : Nat, (o : Int) < S.1 1 ∧ zdone (S.2.1 19) o = true ∧ S.2.1 21 o = k := h.2.2.2.2.2.2.2.2.2.2.2.2.2.2.2.2.2.2.2.2.2.2.2.2.2.2.2.2.2.2.2.2
theorem z_ct_lt {p : Nat → Bool} : ∀ {n k : Nat}, k < n → p k = false → z_ct p n + 1 ≤ n
  | 0, _, h, _ => absurd h (by omega)
  | n + 1, k, h, e => by
    have hl := z_ct_le p n
    rw [z_ct]
    by_cases hk : k = n
    · subst hk
      rw [e]
      simp
      omega
    · have := z_ct_lt (p := p) (n := n) (k := k) (by omega) e
      split <;> omega
theorem zRel.gone5 {n : Nat} {S T : zS} (h : zRel n S T) : z_ct (zgone (S.2.1 9)) 6 ≤ 5 := by
  obtain ⟨f, a, b, e⟩ := h.stay
  have := z_ct_lt (p := zgone (S.2.1 9)) (n := 6) (k := f.toNat) (by omega) (by
    unfold zgone
    rw [show ((f.toNat : Nat) : Int) = f by omega, e]
    rfl)
  omega
theorem zRel.chg540 {n : Nat} {S T : zS} (h : zRel n S T) : S.1 2 + z_ct (zaway (S.2.1 13) (S.2.1 8)) 200 ≤ 540 := by
  have h1 := h.phi
  have h2 := h.gone5
  have h3 := z_ct_le (zdone (S.2.1 19)) (S.1 1).toNat
  have h4 := z_ct_le (zback (S.2.1 19)) (S.1 1).toNat
  have h5 := h.ordr
  omega
theorem zRel.his572 {n : Nat} {S T : zS} (h : zRel n S T) (hn : n < 512) : 0 ≤ S.1 3 ∧ S.1 3 < 572 := by
  have h1 := h.hisr
  have h3 := z_ct_le (zdone (S.2.1 19)) (S.1 1).toNat
  have h5 := h.ordr
  omega
theorem zRel.up {n : Nat} {S T : zS} (h : zRel n S T) : zRel (n + 1) S T := ⟨h.now, h.nowr, h.ord, h.ordr, h.chg, h.chgr, h.hold, h.gone, h.down, h.lag, h.acc, h.lrn, h.serv, h.secr, h.quar, h.sile, h.call, h.last, h.lastn, h.held, h.cat, h.to6, h.ords, h.ordv, h.ordw, h.ordd, h.uniq, h.tab, h.repl, ⟨h.hisr.1, by have := h.hisr.2; omega⟩, h.phi, h.stay, h.awo⟩
/-- what was thrown, the law's long: nothing looks at them -/
theorem zRel.thr {n : Nat} {S T : zS} (h : zRel n S T) (k : Int) : zRel n (z_sS S 5 k) (z_sS T 5 k) :=
  ⟨h.now, h.nowr, h.ord, h.ordr, h.chg, h.chgr, h.hold, h.gone, h.down, h.lag, h.acc, h.lrn, h.serv, h.secr, h.quar, h.sile, h.call, h.last, h.lastn, h.held, h.cat, h.to6, h.ords, h.ordv, h.ordw, h.ordd, h.uniq, h.tab, h.repl, h.hisr, h.phi, h.stay, h.awo⟩
theorem zRel.lng {n : Nat} {S T : zS} (h : zRel n S T) (k k' : Int) : zRel n (z_sL S k) (z_sL T k') :=
  ⟨h.now, h.nowr, h.ord, h.ordr, h.chg, h.chgr, h.hold, h.gone, h.down, h.lag, h.acc, h.lrn, h.serv, h.secr, h.quar, h.sile, h.call, h.last, h.lastn, h.held, h.cat, h.to6, h.ords, h.ordv, h.ordw, h.ordd, h.uniq, h.tab, h.repl, h.hisr, h.phi, h.stay, h.awo⟩
/-- S: the class's part alone counts -/
theorem zRel.cls {n : Nat} {S S' T : zS} (h : zRel n S T) (h1 : ∀ i, i < 5 → S'.1 i = S.1 i) (h2 : ∀ k, k < 40 → S'.2.1 k = S.2.1 k) : zRel n S' T := by
  have g : ∀ f : Int, 0 ≤ f → f < 6 → S'.2.1 (30 + f.toNat) = S.2.1 (30 + f.toNat) := fun f a b => h2 _ (by omega)
  refine ⟨?_, ?_, ?_, ?_, ?_, ?_, ?_, ?_, ?_, ?_, ?_, ?_, ?_, ?_, ?_, ?_, ?_, ?_, ?_, ?_, ?_, ?_, ?_, ?_, ?_, ?_, ?_, ?_, ?_, ?_, ?_, ?_, ?_⟩ <;> (try rw [h1 0 (by omega)]) <;> (try rw [h1 1 (by omega)]) <;> (try rw [h1 2 (by omega)]) <;> (try rw [h1 3 (by omega)])
  all_goals (try rw [h2 8 (by omega)])
  all_goals (try rw [h2 9 (by omega)])
  all_goals (try rw [h2 10 (by omega)])
  all_goals (try rw [h2 11 (by omega)])
  all_goals (try rw [h2 12 (by omega)])
  all_goals (try rw [h2 13 (by omega)])
  all_goals (try rw [h2 14 (by omega)])
  all_goals (try rw [h2 15 (by omega)])
  all_goals (try rw [h2 16 (by omega)])
  all_goals (try rw [h2 17 (by omega)])
  all_goals (try rw [h2 18 (by omega)])
  all_goals (try rw [h2 19 (by omega)])
  all_goals (try rw [h2 20 (by omega)])
  all_goals (try rw [h2 21 (by omega)])
  all_goals (try rw [h2 22 (by omega)])
  all_goals (try rw [h2 23 (by omega)])
  all_goals (try rw [h2 24 (by omega)])
  all_goals (try rw [h2 25 (by omega)])
  all_goals (try rw [h2 26 (by omega)])
  all_goals (try rw [h2 27 (by omega)])
  all_goals (try rw [h2 28 (by omega)])
  all_goals (try rw [h2 36 (by omega)])
  all_goals (try rw [h2 37 (by omega)])
  all_goals (try rw [h2 38 (by omega)])
  · exact h.now
  · exact h.nowr
  · exact h.ord
  · exact h.ordr
  · exact h.chg
  · exact h.chgr
  · exact h.hold
  · exact h.gone
  · exact h.down
  · exact h.lag
  · exact h.acc
  · exact h.lrn
  · exact h.serv
  · exact h.secr
  · exact h.quar
  · exact h.sile
  · exact h.call
  · exact h.last
  · exact h.lastn
  · exact h.held
  · exact h.cat
  · exact h.to6
  · exact h.ords
  · exact h.ordv
  · exact h.ordw
  · exact h.ordd
  · exact h.uniq
  · exact fun f n a b c d => by rw [g f a b]; exact h.tab f n a b c d
  · exact h.repl
  · exact h.hisr
  · exact h.phi
  · exact h.stay
  · exact h.awo
/-- T: the reference's part alone counts -/
theorem zRel.mdl {n : Nat} {S T T' : zS} (h : zRel n S T) (h1 : ∀ i, 6 ≤ i → i < 9 → T'.1 i = T.1 i) (h2 : ∀ k, 40 ≤ k → k < 62 → T'.2.1 k = T.2.1 k) : zRel n S T' := by
  refine ⟨?_, ?_, ?_, ?_, ?_, ?_, ?_, ?_, ?_, ?_, ?_, ?_, ?_, ?_, ?_, ?_, ?_, ?_, ?_, ?_, ?_, ?_, ?_, ?_, ?_, ?_, ?_, ?_, ?_, ?_, ?_, ?_, ?_⟩ <;> (try rw [h1 6 (by omega) (by omega)]) <;> (try rw [h1 7 (by omega) (by omega)]) <;> (try rw [h1 8 (by omega) (by omega)])
  all_goals (try rw [h2 40 (by omega) (by omega)])
  all_goals (try rw [h2 41 (by omega) (by omega)])
  all_goals (try rw [h2 42 (by omega) (by omega)])
  all_goals (try rw [h2 43 (by omega) (by omega)])
  all_goals (try rw [h2 44 (by omega) (by omega)])
  all_goals (try rw [h2 45 (by omega) (by omega)])
  all_goals (try rw [h2 46 (by omega) (by omega)])
  all_goals (try rw [h2 47 (by omega) (by omega)])
  all_goals (try rw [h2 48 (by omega) (by omega)])
  all_goals (try rw [h2 49 (by omega) (by omega)])
  all_goals (try rw [h2 50 (by omega) (by omega)])
  all_goals (try rw [h2 51 (by omega) (by omega)])
  all_goals (try rw [h2 52 (by omega) (by omega)])
  all_goals (try rw [h2 53 (by omega) (by omega)])
  all_goals (try rw [h2 54 (by omega) (by omega)])
  all_goals (try rw [h2 55 (by omega) (by omega)])
  all_goals (try rw [h2 56 (by omega) (by omega)])
  all_goals (try rw [h2 57 (by omega) (by omega)])
  all_goals (try rw [h2 58 (by omega) (by omega)])
  all_goals (try rw [h2 59 (by omega) (by omega)])
  all_goals (try rw [h2 60 (by omega) (by omega)])
  all_goals (try rw [h2 61 (by omega) (by omega)])
  · exact h.now
  · exact h.nowr
  · exact h.ord
  · exact h.ordr
  · exact h.chg
  · exact h.chgr
  · exact h.hold
  · exact h.gone
  · exact h.down
  · exact h.lag
  · exact h.acc
  · exact h.lrn
  · exact h.serv
  · exact h.secr
  · exact h.quar
  · exact h.sile
  · exact h.call
  · exact h.last
  · exact h.lastn
  · exact h.held
  · exact h.cat
  · exact h.to6
  · exact h.ords
  · exact h.ordv
  · exact h.ordw
  · exact h.ordd
  · exact h.uniq
  · exact h.tab
  · exact h.repl
  · exact h.hisr
  · exact h.phi
  · exact h.stay
  · exact h.awo
