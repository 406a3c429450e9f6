/-! ===== the class's rows S against the law's rows T ===== -/
theorem za_sL (S : zS) (i v : Int) : (z_sL S i v).2.1 = S.2.1 := rfl
theorem zv_sL (S : zS) (i v : Int) : (z_sL S i v).1 = S.1 := rfl
theorem zl_sL (S : zS) (i v j : Int) : (z_sL S i v).2.2 j = if j = i then v else S.2.2 j := rfl
/-- the history, replayed -/
def zrep (a b d : Int → Int) (n : Int) : Nat → Nat → Int → Int
  | _, 0, s => s
  | i, k + 1, s => zrep a b d n (i + 1) k (if b i = (if a i = 0 then n else s) then d i else s)
theorem x_rep_z (S : zS) (n : Int) : ∀ (k i : Nat) (s : Int), x_rep S n i k s = zrep (S.2.1 36) (S.2.1 37) (S.2.1 38) n i k s
  | 0, _, _ => rfl
  | k + 1, i, s => by rw [x_rep, zrep, x_rep_z S n k (i + 1)]
theorem zrep_app {a b d : Int → Int} {m : Int} : ∀ (k i : Nat) (s : Int), zrep a b d m i (k + 1) s = if b ((i + k : Nat) : Int) = (if a ((i + k : Nat) : Int) = 0 then m else zrep a b d m i k s) then d ((i + k : Nat) : Int) else zrep a b d m i k s
  | 0, i, s => by rw [zrep, zrep, zrep]; rfl
  | k + 1, i, s => by
    rw [zrep, zrep_app k (i + 1), show zrep a b d m i (k + 1) s = zrep a b d m (i + 1) k (if b i = (if a i = 0 then m else s) then d i else s) from rfl, show i + 1 + k = i + (k + 1) by omega]
theorem zrep_cong {a b d a' b' d' : Int → Int} {m : Int} : ∀ (k i : Nat) (s : Int), (∀ j : Nat, i ≤ j → j < i + k → a' j = a j ∧ b' j = b j ∧ d' j = d j) → zrep a' b' d' m i k s = zrep a b d m i k s
  | 0, _, _, _ => rfl
  | k + 1, i, s, h => by
    have q := h i (by omega) (by omega)
    rw [zrep, zrep, q.1, q.2.1, q.2.2, zrep_cong k (i + 1) _ (fun j x y => h j (by omega) (by omega))]
theorem zrep_note {a b d a' b' d' : Int → Int} {c : Nat} {x y z m : Int} (ha : ∀ j, a' j = if j = (c : Int) then x else a j) (hb : ∀ j, b' j = if j = (c : Int) then y else b j) (hd : ∀ j, d' j = if j = (c : Int) then z else d j) :
    zrep a' b' d' m 0 (c + 1) (-1) = if y = (if x = 0 then m else zrep a b d m 0 c (-1)) then z else zrep a b d m 0 c (-1) := by
  rw [zrep_app c 0 (-1), zrep_cong (a := a) (b := b) (d := d) c 0 (-1) (fun j _ h => by
    have hne : ¬ (j : Int) = c := by omega
    rw [ha, hb, hd, if_neg hne, if_neg hne, if_neg hne]
    exact ⟨rfl, rfl, rfl⟩), Nat.zero_add, ha, hb, hd, if_pos rfl, if_pos rfl, if_pos rfl]
theorem note_rep {S U : zS} {bb nn xx m : Int} (h3 : 0 ≤ S.1 3) (u36 : U.2.1 36 = S.2.1 36) (u37 : U.2.1 37 = S.2.1 37) (u38 : U.2.1 38 = S.2.1 38) (u3 : U.1 3 = S.1 3) : zrep ((x_note U bb nn xx).2.1 36) ((x_note U bb nn xx).2.1 37) ((x_note U bb nn xx).2.1 38) m 0 ((x_note U bb nn xx).1 3).toNat (-1) =
    if nn = (if bb = 0 then m else zrep (S.2.1 36) (S.2.1 37) (S.2.1 38) m 0 (S.1 3).toNat (-1)) then xx else zrep (S.2.1 36) (S.2.1 37) (S.2.1 38) m 0 (S.1 3).toNat (-1) := by
  have e : ((x_note U bb nn xx).1 3).toNat = (S.1 3).toNat + 1 := by
    show (U.1 3 + 1).toNat = _
    omega
  rw [e]
  refine zrep_note (c := (S.1 3).toNat) (x := bb) (y := nn) (z := xx) (fun j => ?_) (fun j => ?_) (fun j => ?_)
  · rw [show (((S.1 3).toNat : Nat) : Int) = U.1 3 by omega, ← u36]
    simp [x_note, za_sA, za_sS, za_sL, zv_sA, zv_sS, zv_sL]
  · rw [show (((S.1 3).toNat : Nat) : Int) = U.1 3 by omega, ← u37]
    simp [x_note, za_sA, za_sS, za_sL, zv_sA, zv_sS, zv_sL]
  · rw [show (((S.1 3).toNat : Nat) : Int) = U.1 3 by omega, ← u38]
    simp [x_note, za_sA, za_sS, za_sL, zv_sA, zv_sS, zv_sL]
abbrev Rel (S T : zS) : Prop :=
  (T.2.1 47 0 = S.1 0) ∧
  (0 ≤ S.1 0 ∧ S.1 0 ≤ 9999) ∧
  (T.2.1 47 1 = S.1 1) ∧
  (0 ≤ S.1 1 ∧ S.1 1 ≤ 50) ∧
  (T.2.1 47 2 = S.1 2) ∧
  (0 ≤ S.1 2) ∧
  (∀ b : Int, 0 ≤ b → b < 4 → T.2.1 7 b = S.2.1 8 b ∧ (-1 ≤ S.2.1 8 b ∧ S.2.1 8 b < 6)) ∧
  (∀ b : Int, 4 ≤ b → b < 20 → S.2.1 8 b = -1) ∧
  (∀ f : Int, 0 ≤ f → f < 6 → (S.2.1 9 f = 0 ∨ S.2.1 9 f = 1) ∧ (S.2.1 10 f = 0 ∨ S.2.1 10 f = 1) ∧ (0 ≤ S.2.1 11 f ∧ S.2.1 11 f ≤ 50)) ∧
  (∀ f : Int, 0 ≤ f → f < 6 → T.2.1 46 f = (S.2.1 12 f + 4096) * 1024 + S.2.1 9 f * 128 + S.2.1 10 f * 64 + S.2.1 11 f) ∧
  (∀ f : Int, 0 ≤ f → f < 6 → T.2.1 45 f = S.2.1 28 f ∧ (0 ≤ S.2.1 28 f ∧ S.2.1 28 f ≤ S.1 2)) ∧
  (∀ i : Int, 0 ≤ i → i < 12 → T.2.1 40 i = S.2.1 13 (zdg i) ∧ (-1 ≤ S.2.1 13 (zdg i) ∧ S.2.1 13 (zdg i) < 6)) ∧
  (∀ i : Int, 0 ≤ i → i < 12 → T.2.1 40 (12 + i) = S.2.1 14 (zdg i) ∧ (0 ≤ S.2.1 14 (zdg i) ∧ S.2.1 14 (zdg i) ≤ 1)) ∧
  (∀ i : Int, 0 ≤ i → i < 12 → T.2.1 40 (24 + i) = S.2.1 15 (zdg i)) ∧
  (∀ i : Int, 0 ≤ i → i < 12 → T.2.1 40 (36 + i) = S.2.1 16 (zdg i)) ∧
  (∀ i : Int, 0 ≤ i → i < 12 → T.2.1 40 (48 + i) = S.2.1 17 (zdg i)) ∧
  (∀ i : Int, 0 ≤ i → i < 12 → ¬ S.2.1 13 (zdg i) = -1 → T.2.1 41 i = S.2.1 18 (zdg i)) ∧
  (∀ i : Int, 0 ≤ i → i < 12 → S.2.1 13 (zdg i) = -1 → S.2.1 18 (zdg i) = -1) ∧
  (∀ i : Int, 0 ≤ i → i < 12 → ¬ S.2.1 13 (zdg i) = -1 → ¬ S.2.1 8 (i / 3) = -1) ∧
  (∀ m : Int, 0 ≤ m → m < 200 → (∀ i : Int, 0 ≤ i → i < 12 → ¬ m = zdg i) → S.2.1 13 m = -1 ∧ S.2.1 15 m = -1) ∧
  (∀ a : Int, 0 ≤ a → a < S.1 1 → (0 ≤ T.2.1 42 a ∧ T.2.1 42 a < 2147483648) ∧ T.2.1 42 a % 8 ≤ 4 ∧ T.2.1 42 a / 64 % 16 < 12 ∧ T.2.1 42 a / 1024 % 8 < 6 ∧ T.2.1 42 a / 8192 % 8 ≤ 6 ∧ T.2.1 42 a / 65536 ≤ 20000) ∧
  (∀ a : Int, 0 ≤ a → a < S.1 1 → S.2.1 19 a = T.2.1 42 a % 8 ∧ S.2.1 20 a = T.2.1 42 a / 8 % 8 ∧ S.2.1 21 a = zdg (T.2.1 42 a / 64 % 16) ∧ S.2.1 22 a = T.2.1 42 a / 1024 % 8 ∧ S.2.1 23 a = T.2.1 42 a / 8192 % 8 - 1 ∧ S.2.1 24 a = T.2.1 42 a / 65536) ∧
  (∀ a : Int, 0 ≤ a → a < S.1 1 → S.2.1 19 a = 1 → ¬ S.2.1 13 (S.2.1 21 a) = -1) ∧
  (∀ a : Int, 0 ≤ a → a < S.1 1 → S.2.1 19 a = 2 → T.2.1 43 a = S.2.1 24 a ∧ (0 ≤ S.2.1 23 a ∧ S.2.1 23 a < 6) ∧ S.2.1 24 a ≤ 9999) ∧
  (∀ a b : Int, 0 ≤ a → a < S.1 1 → 0 ≤ b → b < S.1 1 → S.2.1 19 a = 1 → S.2.1 19 b = 1 → S.2.1 21 a = S.2.1 21 b → a = b) ∧
  (∀ j : Int, 0 ≤ j → j < S.1 2 → (0 ≤ T.2.1 44 j ∧ T.2.1 44 j < 2097152) ∧ T.2.1 44 j / 16384 % 16 < 12 ∧ T.2.1 44 j / 262144 ≤ 6 ∧ S.2.1 25 j = T.2.1 44 j % 16384 ∧ S.2.1 26 j = zdg (T.2.1 44 j / 16384 % 16) ∧ S.2.1 27 j = T.2.1 44 j / 262144) ∧
  (∀ f i : Int, 0 ≤ f → f < 6 → 0 ≤ i → i < 12 → S.2.1 (30 + f.toNat) (zdg i) = zdig (T.2.2 f) i) ∧
  (∀ f m : Int, 0 ≤ f → f < 6 → 0 ≤ m → m < 200 → 0 ≤ S.2.1 (30 + f.toNat) m ∧ S.2.1 (30 + f.toNat) m ≤ 6) ∧
  (∀ f : Int, 0 ≤ f → f < 6 → 0 ≤ T.2.2 f ∧ T.2.2 f < 68719476736) ∧
  (∀ m : Int, 0 ≤ m → m < 200 → zrep (S.2.1 36) (S.2.1 37) (S.2.1 38) m 0 (S.1 3).toNat (-1) = S.2.1 13 m) ∧
  (0 ≤ S.1 3)
theorem Rel.now {S T : zS} (h : Rel S T) : T.2.1 47 0 = S.1 0 := h.1
theorem Rel.nowr {S T : zS} (h : Rel S T) : 0 ≤ S.1 0 ∧ S.1 0 ≤ 9999 := h.2.1
theorem Rel.ord {S T : zS} (h : Rel S T) : T.2.1 47 1 = S.1 1 := h.2.2.1
theorem Rel.ordr {S T : zS} (h : Rel S T) : 0 ≤ S.1 1 ∧ S.1 1 ≤ 50 := h.2.2.2.1
theorem Rel.chg {S T : zS} (h : Rel S T) : T.2.1 47 2 = S.1 2 := h.2.2.2.2.1
theorem Rel.chgr {S T : zS} (h : Rel S T) : 0 ≤ S.1 2 := h.2.2.2.2.2.1
theorem Rel.hold {S T : zS} (h : Rel S T) : ∀ b : Int, 0 ≤ b → b < 4 → T.2.1 7 b = S.2.1 8 b ∧ (-1 ≤ S.2.1 8 b ∧ S.2.1 8 b < 6) := h.2.2.2.2.2.2.1
theorem Rel.holdo {S T : zS} (h : Rel S T) : ∀ b : Int, 4 ≤ b → b < 20 → S.2.1 8 b = -1 := h.2.2.2.2.2.2.2.1
theorem Rel.flag {S T : zS} (h : Rel S T) : ∀ f : Int, 0 ≤ f → f < 6 → (S.2.1 9 f = 0 ∨ S.2.1 9 f = 1) ∧ (S.2.1 10 f = 0 ∨ S.2.1 10 f = 1) ∧ (0 ≤ S.2.1 11 f ∧ S.2.1 11 f ≤ 50) := h.2.2.2.2.2.2.2.2.1
theorem Rel.firm {S T : zS} (h : Rel S T) : ∀ f : Int, 0 ≤ f → f < 6 → T.2.1 46 f = (S.2.1 12 f + 4096) * 1024 + S.2.1 9 f * 128 + S.2.1 10 f * 64 + S.2.1 11 f := h.2.2.2.2.2.2.2.2.2.1
theorem Rel.lrn {S T : zS} (h : Rel S T) : ∀ f : Int, 0 ≤ f → f < 6 → T.2.1 45 f = S.2.1 28 f ∧ (0 ≤ S.2.1 28 f ∧ S.2.1 28 f ≤ S.1 2) := h.2.2.2.2.2.2.2.2.2.2.1
theorem Rel.serv {S T : zS} (h : Rel S T) : ∀ i : Int, 0 ≤ i → i < 12 → T.2.1 40 i = S.2.1 13 (zdg i) ∧ (-1 ≤ S.2.1 13 (zdg i) ∧ S.2.1 13 (zdg i) < 6) := h.2.2.2.2.2.2.2.2.2.2.2.1
theorem Rel.secr {S T : zS} (h : Rel S T) : ∀ i : Int, 0 ≤ i → i < 12 → T.2.1 40 (12 + i) = S.2.1 14 (zdg i) ∧ (0 ≤ S.2.1 14 (zdg i) ∧ S.2.1 14 (zdg i) ≤ 1) := h.2.2.2.2.2.2.2.2.2.2.2.2.1
theorem Rel.quar {S T : zS} (h : Rel S T) : ∀ i : Int, 0 ≤ i → i < 12 → T.2.1 40 (24 + i) = S.2.1 15 (zdg i) := h.2.2.2.2.2.2.2.2.2.2.2.2.2.1
theorem Rel.sile {S T : zS} (h : Rel S T) : ∀ i : Int, 0 ≤ i → i < 12 → T.2.1 40 (36 + i) = S.2.1 16 (zdg i) := h.2.2.2.2.2.2.2.2.2.2.2.2.2.2.1
theorem Rel.call {S T : zS} (h : Rel S T) : ∀ i : Int, 0 ≤ i → i < 12 → T.2.1 40 (48 + i) = S.2.1 17 (zdg i) := h.2.2.2.2.2.2.2.2.2.2.2.2.2.2.2.1
theorem Rel.by {S T : zS} (h : Rel S T) : ∀ i : Int, 0 ≤ i → i < 12 → ¬ S.2.1 13 (zdg i) = -1 → T.2.1 41 i = S.2.1 18 (zdg i) := h.2.2.2.2.2.2.2.2.2.2.2.2.2.2.2.2.1
theorem Rel.byn {S T : zS} (h : Rel S T) : ∀ i : Int, 0 ≤ i → i < 12 → S.2.1 13 (zdg i) = -1 → S.2.1 18 (zdg i) = -1 := h.2.2.2.2.2.2.2.2.2.2.2.2.2.2.2.2.2.1
theorem Rel.held {S T : zS} (h : Rel S T) : ∀ i : Int, 0 ≤ i → i < 12 → ¬ S.2.1 13 (zdg i) = -1 → ¬ S.2.1 8 (i / 3) = -1 := h.2.2.2.2.2.2.2.2.2.2.2.2.2.2.2.2.2.2.1
theorem Rel.oth {S T : zS} (h : Rel S T) : ∀ m : Int, 0 ≤ m → m < 200 → (∀ i : Int, 0 ≤ i → i < 12 → ¬ m = zdg i) → S.2.1 13 m = -1 ∧ S.2.1 15 m = -1 := h.2.2.2.2.2.2.2.2.2.2.2.2.2.2.2.2.2.2.2.1
theorem Rel.orv {S T : zS} (h : Rel S T) : ∀ a : Int, 0 ≤ a → a < S.1 1 → (0 ≤ T.2.1 42 a ∧ T.2.1 42 a < 2147483648) ∧ T.2.1 42 a % 8 ≤ 4 ∧ T.2.1 42 a / 64 % 16 < 12 ∧ T.2.1 42 a / 1024 % 8 < 6 ∧ T.2.1 42 a / 8192 % 8 ≤ 6 ∧ T.2.1 42 a / 65536 ≤ 20000 := h.2.2.2.2.2.2.2.2.2.2.2.2.2.2.2.2.2.2.2.2.1
theorem Rel.ors {S T : zS} (h : Rel S T) : ∀ a : Int, 0 ≤ a → a < S.1 1 → S.2.1 19 a = T.2.1 42 a % 8 ∧ S.2.1 20 a = T.2.1 42 a / 8 % 8 ∧ S.2.1 21 a = zdg (T.2.1 42 a / 64 % 16) ∧ S.2.1 22 a = T.2.1 42 a / 1024 % 8 ∧ S.2.1 23 a = T.2.1 42 a / 8192 % 8 - 1 ∧ S.2.1 24 a = T.2.1 42 a / 65536 := h.2.2.2.2.2.2.2.2.2.2.2.2.2.2.2.2.2.2.2.2.2.1
theorem Rel.orw {S T : zS} (h : Rel S T) : ∀ a : Int, 0 ≤ a → a < S.1 1 → S.2.1 19 a = 1 → ¬ S.2.1 13 (S.2.1 21 a) = -1 := h.2.2.2.2.2.2.2.2.2.2.2.2.2.2.2.2.2.2.2.2.2.2.1
theorem Rel.ordd {S T : zS} (h : Rel S T) : ∀ a : Int, 0 ≤ a → a < S.1 1 → S.2.1 19 a = 2 → T.2.1 43 a = S.2.1 24 a ∧ (0 ≤ S.2.1 23 a ∧ S.2.1 23 a < 6) ∧ S.2.1 24 a ≤ 9999 := h.2.2.2.2.2.2.2.2.2.2.2.2.2.2.2.2.2.2.2.2.2.2.2.1
theorem Rel.uniq {S T : zS} (h : Rel S T) : ∀ a b : Int, 0 ≤ a → a < S.1 1 → 0 ≤ b → b < S.1 1 → S.2.1 19 a = 1 → S.2.1 19 b = 1 → S.2.1 21 a = S.2.1 21 b → a = b := h.2.2.2.2.2.2.2.2.2.2.2.2.2.2.2.2.2.2.2.2.2.2.2.2.1
theorem Rel.cat {S T : zS} (h : Rel S T) : ∀ j : Int, 0 ≤ j → j < S.1 2 → (0 ≤ T.2.1 44 j ∧ T.2.1 44 j < 2097152) ∧ T.2.1 44 j / 16384 % 16 < 12 ∧ T.2.1 44 j / 262144 ≤ 6 ∧ S.2.1 25 j = T.2.1 44 j % 16384 ∧ S.2.1 26 j = zdg (T.2.1 44 j / 16384 % 16) ∧ S.2.1 27 j = T.2.1 44 j / 262144 := h.2.2.2.2.2.2.2.2.2.2.2.2.2.2.2.2.2.2.2.2.2.2.2.2.2.1
theorem Rel.tab {S T : zS} (h : Rel S T) : ∀ f i : Int, 0 ≤ f → f < 6 → 0 ≤ i → i < 12 → S.2.1 (30 + f.toNat) (zdg i) = zdig (T.2.2 f) i := h.2.2.2.2.2.2.2.2.2.2.2.2.2.2.2.2.2.2.2.2.2.2.2.2.2.2.1
theorem Rel.tabr {S T : zS} (h : Rel S T) : ∀ f m : Int, 0 ≤ f → f < 6 → 0 ≤ m → m < 200 → 0 ≤ S.2.1 (30 + f.toNat) m ∧ S.2.1 (30 + f.toNat) m ≤ 6 := h.2.2.2.2.2.2.2.2.2.2.2.2.2.2.2.2.2.2.2.2.2.2.2.2.2.2.2.1
theorem Rel.trng {S T : zS} (h : Rel S T) : ∀ f : Int, 0 ≤ f → f < 6 → 0 ≤ T.2.2 f ∧ T.2.2 f < 68719476736 := h.2.2.2.2.2.2.2.2.2.2.2.2.2.2.2.2.2.2.2.2.2.2.2.2.2.2.2.2.1
theorem Rel.repl {S T : zS} (h : Rel S T) : ∀ m : Int, 0 ≤ m → m < 200 → zrep (S.2.1 36) (S.2.1 37) (S.2.1 38) m 0 (S.1 3).toNat (-1) = S.2.1 13 m := h.2.2.2.2.2.2.2.2.2.2.2.2.2.2.2.2.2.2.2.2.2.2.2.2.2.2.2.2.2.1
theorem Rel.hisr {S T : zS} (h : Rel S T) : 0 ≤ S.1 3 := h.2.2.2.2.2.2.2.2.2.2.2.2.2.2.2.2.2.2.2.2.2.2.2.2.2.2.2.2.2.2
/-- the class's part -/
abbrev zcl (U X : zS) : Prop := (∀ i, i ≠ 4 → U.1 i = X.1 i) ∧ ∀ k, 8 ≤ k → k < 40 → k ≠ 39 → U.2.1 k = X.2.1 k
/-- the law's part -/
abbrev zlw (U Y : zS) : Prop := (∀ k, k = 7 ∨ 40 ≤ k → U.2.1 k = Y.2.1 k) ∧ U.2.2 = Y.2.2
theorem zcl.rf {X : zS} : zcl X X := ⟨fun _ _ => rfl, fun _ _ _ _ => rfl⟩
theorem zlw.rf {X : zS} : zlw X X := ⟨fun _ _ => rfl, rfl⟩
theorem zcl.tr {X Y Z : zS} (h : zcl X Y) (g : zcl Y Z) : zcl X Z := ⟨fun i c => (h.1 i c).trans (g.1 i c), fun k a b c => (h.2 k a b c).trans (g.2 k a b c)⟩
theorem zcl.sy {X Y : zS} (h : zcl X Y) : zcl Y X := ⟨fun i c => (h.1 i c).symm, fun k a b c => (h.2 k a b c).symm⟩
theorem zlw.tr {X Y Z : zS} (h : zlw X Y) (g : zlw Y Z) : zlw X Z := ⟨fun k a => (h.1 k a).trans (g.1 k a), h.2.trans g.2⟩
theorem zlw.sy {X Y : zS} (h : zlw X Y) : zlw Y X := ⟨fun k a => (h.1 k a).symm, h.2.symm⟩
theorem zcl_w {U X : zS} {k : Nat} {i v : Int} (h : zcl U X) (hk : k < 8 ∨ 40 ≤ k) : zcl (z_sA U k i v) X := ⟨h.1, fun q a b c => (funext fun j => za_ne (by omega)).trans (h.2 q a b c)⟩
theorem zcl_l {U X : zS} {i v : Int} (h : zcl U X) : zcl (z_sL U i v) X := h
theorem zcl_c {U X : zS} {k : Nat} {i v : Int} (h : zcl U X) : zcl (z_sA U k i v) (z_sA X k i v) := ⟨h.1, fun q a b c => funext fun j => by rw [za_sA, za_sA, h.2 q a b c]⟩
theorem zcl_s {U X : zS} {i : Nat} {v : Int} (h : zcl U X) : zcl (z_sS U i v) (z_sS X i v) := ⟨fun j c => by rw [zv_sS, zv_sS, h.1 j c], h.2⟩
theorem zlw_c {U Y : zS} {k : Nat} {i v : Int} (h : zlw U Y) (hk : 8 ≤ k ∧ k < 40) : zlw (z_sA U k i v) Y := ⟨fun q a => (funext fun j => za_ne (by omega)).trans (h.1 q a), h.2⟩
theorem zlw_s {U Y : zS} {i : Nat} {v : Int} (h : zlw U Y) : zlw (z_sS U i v) Y := h
theorem zlw_w {U Y : zS} {k : Nat} {i v : Int} (h : zlw U Y) : zlw (z_sA U k i v) (z_sA Y k i v) := ⟨fun q a => funext fun j => by rw [za_sA, za_sA, h.1 q a], h.2⟩
theorem zlw_l {U Y : zS} {i v : Int} (h : zlw U Y) : zlw (z_sL U i v) (z_sL Y i v) := ⟨h.1, funext fun j => by show (if j = i then v else U.2.2 j) = if j = i then v else Y.2.2 j; rw [h.2]⟩
theorem Rel.cls {S S' T : zS} (h : Rel S T) (e : zcl S' S) : Rel S' T := by
  obtain ⟨h1, h2⟩ := e
  have e8 := h2 8 (by omega) (by omega) (by omega)
  have e9 := h2 9 (by omega) (by omega) (by omega)
  have e10 := h2 10 (by omega) (by omega) (by omega)
  have e11 := h2 11 (by omega) (by omega) (by omega)
  have e12 := h2 12 (by omega) (by omega) (by omega)
  have e13 := h2 13 (by omega) (by omega) (by omega)
  have e14 := h2 14 (by omega) (by omega) (by omega)
  have e15 := h2 15 (by omega) (by omega) (by omega)
  have e16 := h2 16 (by omega) (by omega) (by omega)
  have e17 := h2 17 (by omega) (by omega) (by omega)
  have e18 := h2 18 (by omega) (by omega) (by omega)
  have e19 := h2 19 (by omega) (by omega) (by omega)
  have e20 := h2 20 (by omega) (by omega) (by omega)
  have e21 := h2 21 (by omega) (by omega) (by omega)
  have e22 := h2 22 (by omega) (by omega) (by omega)
  have e23 := h2 23 (by omega) (by omega) (by omega)
  have e24 := h2 24 (by omega) (by omega) (by omega)
  have e25 := h2 25 (by omega) (by omega) (by omega)
  have e26 := h2 26 (by omega) (by omega) (by omega)
  have e27 := h2 27 (by omega) (by omega) (by omega)
  have e28 := h2 28 (by omega) (by omega) (by omega)
  have e36 := h2 36 (by omega) (by omega) (by omega)
  have e37 := h2 37 (by omega) (by omega) (by omega)
  have e38 := h2 38 (by omega) (by omega) (by omega)
  have s0 := h1 0 (by omega)
  have s1 := h1 1 (by omega)
  have s2 := h1 2 (by omega)
  have s3 := h1 3 (by omega)
  have g : ∀ f : Int, 0 ≤ f → f < 6 → S'.2.1 (30 + f.toNat) = S.2.1 (30 + f.toNat) := fun f a b => h2 _ (by omega) (by omega) (by omega)
  refine ⟨?_, ?_, ?_, ?_, ?_, ?_, ?_, ?_, ?_, ?_, ?_, ?_, ?_, ?_, ?_, ?_, ?_, ?_, ?_, ?_, ?_, ?_, ?_, ?_, ?_, ?_, ?_, ?_, ?_, ?_, ?_⟩
  · rw [s0]; exact h.now
  · rw [s0]; exact h.nowr
  · rw [s1]; exact h.ord
  · rw [s1]; exact h.ordr
  · rw [s2]; exact h.chg
  · rw [s2]; exact h.chgr
  · rw [e8]; exact h.hold
  · rw [e8]; exact h.holdo
  · rw [e9, e10, e11]; exact h.flag
  · rw [e9, e10, e11, e12]; exact h.firm
  · rw [e28, s2]; exact h.lrn
  · rw [e13]; exact h.serv
  · rw [e14]; exact h.secr
  · rw [e15]; exact h.quar
  · rw [e16]; exact h.sile
  · rw [e17]; exact h.call
  · rw [e13, e18]; exact h.by
  · rw [e13, e18]; exact h.byn
  · rw [e8, e13]; exact h.held
  · rw [e13, e15]; exact h.oth
  · rw [s1]; exact h.orv
  · rw [e19, e20, e21, e22, e23, e24, s1]; exact h.ors
  · rw [e13, e19, e21, s1]; exact h.orw
  · rw [e19, e23, e24, s1]; exact h.ordd
  · rw [e19, e21, s1]; exact h.uniq
  · rw [e25, e26, e27, s2]; exact h.cat
  · exact fun f i a b c d => by rw [g f a b]; exact h.tab f i a b c d
  · exact fun f m a b c d => by rw [g f a b]; exact h.tabr f m a b c d
  · exact h.trng
  · rw [e13, e36, e37, e38, s3]; exact h.repl
  · rw [s3]; exact h.hisr
theorem Rel.law {S T T' : zS} (h : Rel S T) (e : zlw T' T) : Rel S T' := by
  obtain ⟨h1, h2⟩ := e
  have e7 := h1 7 (by omega)
  have e40 := h1 40 (by omega)
  have e41 := h1 41 (by omega)
  have e42 := h1 42 (by omega)
  have e43 := h1 43 (by omega)
  have e44 := h1 44 (by omega)
  have e45 := h1 45 (by omega)
  have e46 := h1 46 (by omega)
  have e47 := h1 47 (by omega)
  refine ⟨?_, ?_, ?_, ?_, ?_, ?_, ?_, ?_, ?_, ?_, ?_, ?_, ?_, ?_, ?_, ?_, ?_, ?_, ?_, ?_, ?_, ?_, ?_, ?_, ?_, ?_, ?_, ?_, ?_, ?_, ?_⟩
  · rw [e47]; exact h.now
  · exact h.nowr
  · rw [e47]; exact h.ord
  · exact h.ordr
  · rw [e47]; exact h.chg
  · exact h.chgr
  · rw [e7]; exact h.hold
  · exact h.holdo
  · exact h.flag
  · rw [e46]; exact h.firm
  · rw [e45]; exact h.lrn
  · rw [e40]; exact h.serv
  · rw [e40]; exact h.secr
  · rw [e40]; exact h.quar
  · rw [e40]; exact h.sile
  · rw [e40]; exact h.call
  · rw [e41]; exact h.by
  · exact h.byn
  · exact h.held
  · exact h.oth
  · rw [e42]; exact h.orv
  · rw [e42]; exact h.ors
  · exact h.orw
  · rw [e43]; exact h.ordd
  · exact h.uniq
  · rw [e44]; exact h.cat
  · rw [h2]; exact h.tab
  · exact h.tabr
  · rw [h2]; exact h.trng
  · exact h.repl
  · exact h.hisr
theorem Rel.both {U X Y : zS} (h : Rel X Y) (hc : zcl U X) (hl : zlw U Y) : Rel U U := (h.cls hc).law hl
/-- what is in the locals, forgotten -/
def zsub : List (Option zV) → List (Option zV) → Prop
  | [], [] => True
  | a :: l, b :: m => (a = none ∨ a = b) ∧ zsub l m
  | _, _ => False
theorem z_sub_0 : zsub [] [] := trivial
theorem z_sub_r {a : Option zV} {l m : List (Option zV)} (h : zsub l m) : zsub (a :: l) (a :: m) := ⟨.inr rfl, h⟩
theorem z_sub_n {b : Option zV} {l m : List (Option zV)} (h : zsub l m) : zsub (none :: l) (b :: m) := ⟨.inl rfl, h⟩
theorem zsub.len : ∀ {l m : List (Option zV)}, zsub l m → l.length = m.length
  | [], [], _ => rfl
  | _ :: _, _ :: _, h => by rw [List.length_cons, List.length_cons, zsub.len h.2]
  | [], _ :: _, h => h.elim
  | _ :: _, [], h => h.elim
theorem zsub.at : ∀ {l m : List (Option zV)}, zsub l m → ∀ (i : Nat) (v : zV), l[i]? = some (some v) → m[i]? = some (some v)
  | [], [], _, i, v, h => by simp at h
  | a :: l, b :: m, h, 0, v, e => by
    have e1 : a = some v := by simpa using e
    rcases h.1 with h1 | h1
    · rw [h1] at e1; cases e1
    · subst h1; subst e1; rfl
  | a :: l, b :: m, h, i + 1, v, e => by
    have e1 : l[i]? = some (some v) := by simpa using e
    have := zsub.at h.2 i v e1
    simpa using this
  | [], _ :: _, h, _, _, _ => h.elim
  | _ :: _, [], h, _, _, _ => h.elim
theorem g_forget {M : zM} {F : zF} {u pc : Nat} {al al' : List (Option zV)} {st : List zV} {S : zS} (h : zsub al' al) (k : z_G M F u pc al' st S) : z_G M F u pc al st S := by
  intro E p l e R s m args below meth c C H locs ls hW hS hL hst
  exact k E p l e R s m args below meth c C H locs ls hW hS ⟨hL.1, hL.2.1, by rw [h.len]; exact hL.2.2.1, fun i v hi => hL.2.2.2 i v (h.at i v hi)⟩ hst
theorem Rel.learn {S S' T T' : zS} (h : Rel S T) (e1 : ∀ i, S'.1 i = S.1 i) (e2 : ∀ k, 8 ≤ k → k < 40 → k ≠ 28 → ¬ (30 ≤ k ∧ k < 36) → S'.2.1 k = S.2.1 k) (e3 : ∀ k, k = 7 ∨ 40 ≤ k → k ≠ 45 → T'.2.1 k = T.2.1 k)
    (q1 : ∀ f : Int, 0 ≤ f → f < 6 → T'.2.1 45 f = S'.2.1 28 f ∧ (0 ≤ S'.2.1 28 f ∧ S'.2.1 28 f ≤ S.1 2)) (q2 : ∀ f i : Int, 0 ≤ f → f < 6 → 0 ≤ i → i < 12 → S'.2.1 (30 + f.toNat) (zdg i) = zdig (T'.2.2 f) i) (q3 : ∀ f m : Int, 0 ≤ f → f < 6 → 0 ≤ m → m < 200 → 0 ≤ S'.2.1 (30 + f.toNat) m ∧ S'.2.1 (30 + f.toNat) m ≤ 6) (q4 : ∀ f : Int, 0 ≤ f → f < 6 → 0 ≤ T'.2.2 f ∧ T'.2.2 f < 68719476736) : Rel S' T' := by
  have e8 := e2 8 (by omega) (by omega) (by omega) (by omega)
  have e9 := e2 9 (by omega) (by omega) (by omega) (by omega)
  have e10 := e2 10 (by omega) (by omega) (by omega) (by omega)
  have e11 := e2 11 (by omega) (by omega) (by omega) (by omega)
  have e12 := e2 12 (by omega) (by omega) (by omega) (by omega)
  have e13 := e2 13 (by omega) (by omega) (by omega) (by omega)
  have e14 := e2 14 (by omega) (by omega) (by omega) (by omega)
  have e15 := e2 15 (by omega) (by omega) (by omega) (by omega)
  have e16 := e2 16 (by omega) (by omega) (by omega) (by omega)
  have e17 := e2 17 (by omega) (by omega) (by omega) (by omega)
  have e18 := e2 18 (by omega) (by omega) (by omega) (by omega)
  have e19 := e2 19 (by omega) (by omega) (by omega) (by omega)
  have e20 := e2 20 (by omega) (by omega) (by omega) (by omega)
  have e21 := e2 21 (by omega) (by omega) (by omega) (by omega)
  have e22 := e2 22 (by omega) (by omega) (by omega) (by omega)
  have e23 := e2 23 (by omega) (by omega) (by omega) (by omega)
  have e24 := e2 24 (by omega) (by omega) (by omega) (by omega)
  have e25 := e2 25 (by omega) (by omega) (by omega) (by omega)
  have e26 := e2 26 (by omega) (by omega) (by omega) (by omega)
  have e27 := e2 27 (by omega) (by omega) (by omega) (by omega)
  have e36 := e2 36 (by omega) (by omega) (by omega) (by omega)
  have e37 := e2 37 (by omega) (by omega) (by omega) (by omega)
  have e38 := e2 38 (by omega) (by omega) (by omega) (by omega)
  have s0 := e1 0
  have s1 := e1 1
  have s2 := e1 2
  have s3 := e1 3
  have e7 := e3 7 (by omega) (by omega)
  have e40 := e3 40 (by omega) (by omega)
  have e41 := e3 41 (by omega) (by omega)
  have e42 := e3 42 (by omega) (by omega)
  have e43 := e3 43 (by omega) (by omega)
  have e44 := e3 44 (by omega) (by omega)
  have e46 := e3 46 (by omega) (by omega)
  have e47 := e3 47 (by omega) (by omega)
  refine ⟨?_, ?_, ?_, ?_, ?_, ?_, ?_, ?_, ?_, ?_, ?_, ?_, ?_, ?_, ?_, ?_, ?_, ?_, ?_, ?_, ?_, ?_, ?_, ?_, ?_, ?_, ?_, ?_, ?_, ?_, ?_⟩
  · rw [e47, s0]; exact h.now
  · rw [s0]; exact h.nowr
  · rw [e47, s1]; exact h.ord
  · rw [s1]; exact h.ordr
  · rw [e47, s2]; exact h.chg
  · rw [s2]; exact h.chgr
  · rw [e8, e7]; exact h.hold
  · rw [e8]; exact h.holdo
  · rw [e9, e10, e11]; exact h.flag
  · rw [e9, e10, e11, e12, e46]; exact h.firm
  · rw [s2]; exact q1
  · rw [e13, e40]; exact h.serv
  · rw [e14, e40]; exact h.secr
  · rw [e15, e40]; exact h.quar
  · rw [e16, e40]; exact h.sile
  · rw [e17, e40]; exact h.call
  · rw [e13, e18, e41]; exact h.by
  · rw [e13, e18]; exact h.byn
  · rw [e8, e13]; exact h.held
  · rw [e13, e15]; exact h.oth
  · rw [e42, s1]; exact h.orv
  · rw [e19, e20, e21, e22, e23, e24, e42, s1]; exact h.ors
  · rw [e13, e19, e21, s1]; exact h.orw
  · rw [e19, e23, e24, e43, s1]; exact h.ordd
  · rw [e19, e21, s1]; exact h.uniq
  · rw [e25, e26, e27, e44, s2]; exact h.cat
  · exact q2
  · exact q3
  · exact q4
  · rw [e13, e36, e37, e38, s3]; exact h.repl
  · rw [s3]; exact h.hisr
