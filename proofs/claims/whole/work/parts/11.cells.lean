/-! ===== cells in order, the setting ===== -/
def zlf (r c : Nat) : Nat → Nat → List Nat
  | 0, _ => []
  | m + 1, k => if k / 3 < r ∧ k % 3 < c then k :: zlf r c m (k + 1) else zlf r c m (k + 1)
/-- the cells that are there, from k on -/
def zl (r c k : Nat) : List Nat := zlf r c (9 - k) k
theorem zl_in : ∀ r, r ≤ 3 → ∀ c, c ≤ 3 → ∀ i, i < r → ∀ j, j < c → zl r c (3 * i + j) = (3 * i + j) :: zl r c (3 * i + (j + 1)) := by
  have h : ∀ r, r < 4 → ∀ c, c < 4 → ∀ i, i < r → ∀ j, j < c → zl r c (3 * i + j) = (3 * i + j) :: zl r c (3 * i + (j + 1)) := by decide +kernel
  exact fun r hr c hc => h r (by omega) c (by omega)
theorem zl_row : ∀ r, r ≤ 3 → ∀ c, c ≤ 3 → ∀ i, i < r → zl r c (3 * i + c) = zl r c (3 * (i + 1) + 0) := by
  have h : ∀ r, r < 4 → ∀ c, c < 4 → ∀ i, i < r → zl r c (3 * i + c) = zl r c (3 * (i + 1) + 0) := by decide +kernel
  exact fun r hr c hc => h r (by omega) c (by omega)
theorem zl_end : ∀ r, r ≤ 3 → ∀ c, c ≤ 3 → zl r c (3 * r + 0) = [] := by
  have h : ∀ r, r < 4 → ∀ c, c < 4 → zl r c (3 * r + 0) = [] := by decide +kernel
  exact fun r hr c hc => h r (by omega) c (by omega)
theorem zl_9 (r c : Nat) : zl r c 9 = [] := rfl
theorem zl_y {r c k : Nat} (hk : k < 9) (h : k / 3 < r ∧ k % 3 < c) : zl r c k = k :: zl r c (k + 1) := by
  unfold zl
  rw [show 9 - k = (9 - (k + 1)) + 1 by omega]
  simp only [zlf]
  rw [if_pos h]
theorem zl_n {r c k : Nat} (hk : k < 9) (h : ¬ (k / 3 < r ∧ k % 3 < c)) : zl r c k = zl r c (k + 1) := by
  unfold zl
  rw [show 9 - k = (9 - (k + 1)) + 1 by omega]
  simp only [zlf]
  rw [if_neg h]
def zlsum (f : Nat → Nat) : List Nat → Nat
  | [] => 0
  | k :: l => f k + zlsum f l
def zlines (r c w : Nat) : Nat := if w = 0 then r else if w = 1 then c else 3
def zline (mk : Nat → Nat) (w k : Nat) : Nat := if w = 0 then k / 3 else if w = 1 then k % 3 else mk k
def isC (r c : Nat) (i j : Int32) : Prop := ∃ a b, i = nI a ∧ j = nI b ∧ a < r ∧ b < c
def isLn (r c : Nat) (w l : Int32) : Prop := ∃ a b, w = nI a ∧ l = nI b ∧ a ≤ 2 ∧ b < zlines r c a
theorem nI_inj {a b : Nat} (ha : a < 2147483648) (hb : b < 2147483648) (h : nI a = nI b) : a = b := (nI_eq ha hb).mp h
/-- the setting at s, laid out -/
def kS (lay : List zL) (s : Nat) : Prop := lay[s]? = some (.inl (6, [0, 0, 0, s + 3, s + 4, s + 5])) ∧ lay[s + 1]? = some (.inr (.inl 9)) ∧ lay[s + 2]? = some (.inr (.inl 9)) ∧ lay[s + 3]? = some (.inr (.inl 9))
/-- what the setting at s holds -/
def vS (I : zI) (s : Nat) (n : Nat → Nat) : Prop := I s 0 = nI (n 0) ∧ I s 1 = nI (n 1) ∧ I s 2 = nI (n 2) ∧ (∀ k, k < 9 → I (s + 1) k = nI (n (7 + k))) ∧ (∀ k, k < 9 → I (s + 2) k = nI (n (16 + k))) ∧ ∀ k, k < 9 → I (s + 3) k = nI (n (25 + k))
def bS (n : Nat → Nat) : Prop := 1 ≤ n 0 ∧ n 0 ≤ 3 ∧ 1 ≤ n 1 ∧ n 1 ≤ 3 ∧ n 2 ≤ 1 ∧ (∀ k, k < 9 → n (7 + k) ≤ 20) ∧ (∀ k, k < 9 → n (16 + k) ≤ 2) ∧ ∀ k, k < 9 → n (25 + k) ≤ 60
theorem vS_to {I I' : zI} {s : Nat} {n : Nat → Nat} (h : vS I s n) (h0 : I' s = I s) (h1 : I' (s + 1) = I (s + 1)) (h2 : I' (s + 2) = I (s + 2)) (h3 : I' (s + 3) = I (s + 3)) : vS I' s n := by
  unfold vS
  rw [h0, h1, h2, h3]
  exact h
def zpop (k : Nat) : Nat := k % 2 + k / 2 % 2 + k / 4 % 2
theorem z_bit : ∀ s, s < 8 → ∀ i, i < 3 → (nI s >>> (nI i &&& 31)) &&& nI 1 = nI (s / 2 ^ i % 2) := by decide +kernel
theorem z_shl : ∀ r, r < 4 → (nI 1 <<< (nI r &&& 31)) = nI (2 ^ r) := by decide +kernel
