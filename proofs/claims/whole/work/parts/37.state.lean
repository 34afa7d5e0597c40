theorem sw_cases (x : Int32) (lo hi : Nat) (hh : hi < 2147483648) : (∃ j : Nat, lo ≤ j ∧ j ≤ hi ∧ x = nI j) ∨ (x.toInt < lo ∨ (hi : Int) < x.toInt) := by
  by_cases h : x < 0
  · right; left
    have : x.toInt < 0 := by simpa using Int32.lt_iff_toInt_lt.mp h
    omega
  · obtain ⟨j, hj, rfl⟩ := nI_of h
    rw [nI_toInt (by omega)]
    by_cases q : lo ≤ j ∧ j ≤ hi
    · exact Or.inl ⟨j, q.1, q.2, rfl⟩
    · right; omega
def swL (x : Int32) (n : Nat) (vs : Nat → Int32) (df : Int32) : Int32 := if x.toInt < 0 ∨ (n : Int) < x.toInt then df else vs x.toNatClampNeg
theorem swL_in {j n : Nat} (vs : Nat → Int32) (df : Int32) (hn : n < 2147483648) (h : j ≤ n) : swL (nI j) n vs df = vs j := by
  rw [swL, nI_toInt (by omega), if_neg (by omega), clampI (by omega)]
theorem swL_out {x : Int32} {n : Nat} (vs : Nat → Int32) (df : Int32) (_ : n < 2147483648) (h : x.toInt < 0 ∨ (n : Int) < x.toInt) : swL x n vs df = df := if_pos h
theorem lk_out {ps : List (Int × Int)} {df : Int} {x : Int32} {lo hi : Nat} (hp : ∀ p ∈ ps, (lo : Int) ≤ p.1 ∧ p.1 ≤ (hi : Int)) (hx : x.toInt < lo ∨ (hi : Int) < x.toInt) : Op.lookupswitch.offset ps df x.toInt = df := by
  induction ps with
  | nil => rfl
  | cons a t ih =>
    obtain ⟨a1, a2⟩ := a
    have h1 := hp (a1, a2) (by simp)
    rw [Op.lookupswitch.offset_cons, if_neg (by simp only at h1; omega)]
    exact ih (fun p q => hp p (by simp [q]))
/-- the state: the wood, whether there is an image, the image, the shelves (kept, sort, size, element, keptKind, keptFigure) -/
abbrev SS : Type := Nat → Nat → Int32
def ia (N : Nat) (X : Nat → Int32) : MC := .inl (0, N, .inl X)
def shF (ho kd fg so sz : Int32) (a : Nat) : List Value := [.int ho, .int kd, .int fg, .int so, .int sz, .ref a]
def ShelfAt (h : MH) (S : SS) (i : Nat) : Prop := ∃ (kd fg so sz : Int32) (el : Nat → Int32), h (62 + 2 * i) = some (.inr (3, shF (S 0 i) kd fg so sz (63 + 2 * i))) ∧ h (63 + 2 * i) = some (ia 100 el) ∧ (S 0 i = nI 1 → kd = S 4 i ∧ fg = S 5 i) ∧ (S 0 i = nI 2 → so = S 1 i ∧ sz = S 2 i ∧ ∀ k, k < 100 → el k = S 3 (100 * i + k))
def tfF (b : Bool) : List Value := [.ref 1, .ref 2, .ref 20, .ref 38, .int (bI b), .ref 56, .ref 59]
def ClsAt (h : MH) (K : KK) (b : Bool) (KI : KK) (S : SS) : Prop :=
  h 0 = some (.inr (5, tfF b)) ∧ (∃ q : Nat → Option Nat, h 1 = some (.inl (4, 8, .inr (.inr (.inr (.inr q))))) ∧ ∀ i, i < 8 → q i = some (62 + 2 * i)) ∧
  (∃ (cl P : Nat → Int32) (pn : Nat), WoodAt h 2 K cl P pn ∧ PR K P pn) ∧ (∃ (Km : KK) (cl P : Nat → Int32) (pn : Nat), WoodAt h 20 Km cl P pn) ∧
  (∃ (KJ : KK) (cl P : Nat → Int32) (pn : Nat), WoodAt h 38 KJ cl P pn ∧ (b = true → KJ = KI ∧ PR KI P pn)) ∧
  (∃ (r : Nat) (x y : Int32), h 56 = some (.inr (1, [.ref r, .int x, .int y]))) ∧ h 59 = some (.inr (2, [.ref 60, .ref 61])) ∧ (∃ X, h 60 = some (ia 84 X)) ∧ (∃ X, h 61 = some (.inl (1, 84, .inl X))) ∧ ∀ i, i < 8 → ShelfAt h S i
def moF (b : Bool) (th po ba en to : Int32) : List Value := [.ref 79, .ref 80, .ref 81, .ref 82, .ref 83, .ref 84, .ref 85, .ref 86, .ref 87, .ref 88, .int (bI b), .int th, .int po, .int ba, .int en, .int to, .ref 89, .ref 90, .ref 91, .ref 92]
def ModAt (h : MH) (K : KK) (b : Bool) (KI : KK) (S : SS) : Prop :=
  (∃ th po ba en to : Int32, h 78 = some (.inr (6, moF b th po ba en to))) ∧ h 79 = some (kc K) ∧ h 80 = some (kc KI) ∧ (∃ X, h 81 = some (kc X)) ∧ (∃ X, h 82 = some (kc X)) ∧ h 83 = some (ia 8 (S 0)) ∧ h 84 = some (ia 8 (S 1)) ∧ h 85 = some (ia 8 (S 2)) ∧ h 86 = some (ia 800 (S 3)) ∧ h 87 = some (ia 8 (S 4)) ∧ h 88 = some (ia 8 (S 5)) ∧
  (∃ X, h 89 = some (ia 6 X)) ∧ (∃ X, h 90 = some (ia 10 X)) ∧ (∃ X, h 91 = some (ia 84 X)) ∧ ∃ X, h 92 = some (ia 84 X)
/-- what holds of the true wood and of an image -/
def TI (K : KK) (m : Nat) : Prop := KD K m ∧ (∀ p, p < 10 → ¬ gP K p 5 = nI 2) ∧ (∃ q : Nat, 10 ≤ q ∧ q ≤ 600 ∧ K 89 = nI q) ∧ (∃ s : Nat, s ≤ 600 ∧ K 91 = nI s) ∧ (K 92 = nI 0 ∨ K 92 = nI 1 ∨ K 92 = nI 2) ∧ ∀ p, p < m → hfc (gP K p 3) = gP K p 0 ∧ ¬ K (gP K p 3).toNatClampNeg = nI 3 ∧ ring K (gP K p 0) (gP K p 3) = false
/-- of the shelves -/
def SI (S : SS) : Prop := ∀ i, i < 8 → (S 0 i = nI 0 ∨ S 0 i = nI 1 ∨ S 0 i = nI 2) ∧ (S 0 i = nI 1 → (∃ k : Nat, k ≤ 7 ∧ S 4 i = nI k) ∧ ∃ k : Nat, k ≤ 9 ∧ S 5 i = nI k) ∧ (S 0 i = nI 2 → (∃ k : Nat, k ≤ 2 ∧ S 1 i = nI k) ∧ ∃ k : Nat, k ≤ 100 ∧ S 2 i = nI k)
def INV (K : KK) (b : Bool) (KI : KK) (S : SS) : Prop := (∃ m, TI K m) ∧ (b = true → ∃ m, TI KI m) ∧ SI S
def Qx (v : Int32) (K : KK) (b : Bool) (KI : KK) (S : SS) (h : MH) (n : Nat) : Option Value → MH → Nat → Prop := fun r h1 n1 => r = some (.int v) ∧ n1 = n ∧ ClsAt h1 K b KI S ∧ ∀ q, 78 ≤ q → h1 q = h q
def Qm (v : Int32) (K : KK) (b : Bool) (KI : KK) (S : SS) (h : MH) (n : Nat) : Option Value → MH → Nat → Prop := fun r h1 n1 => r = some (.int v) ∧ n1 = n ∧ ModAt h1 K b KI S ∧ ∀ q, q < 78 ∨ 93 ≤ q → h1 q = h q
/-- a player's number -/
def plB (K : KK) (x : Int32) : Bool := wi x (nI 0) (K 90 - nI 1)
theorem pl_ex {K : KK} {m : Nat} {x : Int32} (hm : K 90 = nI m) (hm10 : m ≤ 10) (h : plB K x = true) : ∃ p : Nat, p < m ∧ x = nI p := by
  rw [plB, hm] at h
  by_cases q : m = 0
  · rw [q] at h
    simp only [wi, Bool.and_eq_true, decide_eq_true_eq] at h
    have h1 : nI 0 ≤ nI 0 - nI 1 := Int32.le_trans h.1 h.2
    exact absurd h1 (by decide)
  · rw [pk_sub (by omega)] at h
    obtain ⟨j, h1, h2⟩ := wi_ex (by omega) h
    exact ⟨j, by omega, h2⟩
