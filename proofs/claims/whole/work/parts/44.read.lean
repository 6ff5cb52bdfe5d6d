/-! ===== the class's calls: reading ===== -/
theorem zrun_y {P : Nat → Bool} : ∀ (f k j : Nat), j < zrun P f k → P (k + j) = true
  | 0, _, _, h => absurd h (Nat.not_lt_zero _)
  | f + 1, k, j, h => by
    unfold zrun at h
    by_cases q : P k = true
    · rw [if_pos q] at h
      cases j with
      | zero => exact q
      | succ j =>
        have := zrun_y (P := P) f (k + 1) j (by omega)
        rw [show k + (j + 1) = k + 1 + j by omega]; exact this
    · rw [if_neg q] at h; exact absurd h (Nat.not_lt_zero _)
/-- a clause that stands: its kind, its digits, its end -/
def zkd (len : Nat) (tx : Nat → Nat) (a e : Nat) : Prop := a < len ∧ ((tx a = 115 ∧ zisb len tx (a + 1) = true ∧ zisb len tx (a + 2) = true ∧ e = a + 3) ∨ ((tx a = 110 ∨ tx a = 109) ∧ zisb len tx (a + 1) = true ∧ zisb len tx (a + 2) = true ∧ zisb len tx (a + 3) = true ∧ (e = a + 4 ∨ (e = a + 5 ∧ zisb len tx (a + 4) = true))) ∨ (tx a = 107 ∧ zisb len tx (a + 1) = true ∧ zisb len tx (a + 2) = true ∧ zisb len tx (a + 3) = true ∧ e = a + 4) ∨ (tx a = 120 ∧ e = a + 1))
theorem zce_kd {len : Nat} {tx : Nat → Nat} {a : Nat} (h : (zce len tx a).1 = true) : zkd len tx a (zce len tx a).2 := by
  unfold zce at h ⊢
  by_cases h1 : len ≤ a
  · rw [if_pos h1] at h; cases h
  rw [if_neg h1] at h ⊢
  refine ⟨by omega, ?_⟩
  by_cases h2 : tx a = 115
  · rw [if_pos h2] at h ⊢
    have h9 : 2 ≤ zrun (zisb len tx) 2 (a + 1) := of_decide_eq_true h
    have h8 := zrun_le (zisb len tx) 2 (a + 1)
    exact Or.inl ⟨h2, zrun_y 2 (a + 1) 0 (by omega), zrun_y 2 (a + 1) 1 (by omega), by show a + 1 + _ = _; omega⟩
  rw [if_neg h2] at h ⊢
  by_cases h3 : tx a = 110 ∨ tx a = 109
  · rw [if_pos h3] at h ⊢
    have h9 : 3 ≤ zrun (zisb len tx) 4 (a + 1) := of_decide_eq_true h
    have h8 := zrun_le (zisb len tx) 4 (a + 1)
    refine Or.inr (Or.inl ⟨h3, zrun_y 4 (a + 1) 0 (by omega), zrun_y 4 (a + 1) 1 (by omega), zrun_y 4 (a + 1) 2 (by omega), ?_⟩)
    by_cases q : zrun (zisb len tx) 4 (a + 1) = 3
    · exact Or.inl (by show a + 1 + _ = _; omega)
    · exact Or.inr ⟨by show a + 1 + _ = _; omega, zrun_y 4 (a + 1) 3 (by omega)⟩
  rw [if_neg h3] at h ⊢
  by_cases h4 : tx a = 107
  · rw [if_pos h4] at h ⊢
    have h9 : 3 ≤ zrun (zisb len tx) 3 (a + 1) := of_decide_eq_true h
    have h8 := zrun_le (zisb len tx) 3 (a + 1)
    exact Or.inr (Or.inr (Or.inl ⟨h4, zrun_y 3 (a + 1) 0 (by omega), zrun_y 3 (a + 1) 1 (by omega), zrun_y 3 (a + 1) 2 (by omega), by show a + 1 + _ = _; omega⟩))
  rw [if_neg h4] at h ⊢
  by_cases h5 : tx a = 120
  · rw [if_pos h5]; exact Or.inr (Or.inr (Or.inr ⟨h5, rfl⟩))
  · rw [if_neg h5] at h; cases h
theorem zisb_lt {len : Nat} {tx : Nat → Nat} {k : Nat} (h : zisb len tx k = true) : k < len ∧ 48 ≤ tx k ∧ tx k ≤ 57 := of_decide_eq_true h
theorem c_X5_digit_y {lay : List zL} {I : zI} {J : zJ} {a len : Nat} {tx : Nat → Nat} (hX : kX lay a) (hV : vX I a len tx) {p : Nat} (hp : p < 2147483648) (h : zisb len tx p = true) : zMet lay MX5_digit 1 [.ref a, .int (nI p)] I J (fun r I' J' => r = .int (nI (tx p - 48)) ∧ I = I' ∧ J = J') :=
  zMet_to (c_X5_digit hX hV hp) (fun r I' J' q => ⟨q.1.elim (fun q => q.1) (fun q => by rw [h] at q; exact absurd q.2 (by decide)), q.2⟩)
theorem c_X5_digit_a {lay : List zL} {I : zI} {J : zJ} {a len : Nat} {tx : Nat → Nat} (hX : kX lay a) (hV : vX I a len tx) {p : Nat} (hp : p < 2147483648) : zMet lay MX5_digit 1 [.ref a, .int (nI p)] I J (fun r I' J' => (∃ v, r = .int v) ∧ I = I' ∧ J = J') :=
  zMet_to (c_X5_digit hX hV hp) (fun r I' J' q => ⟨q.1.elim (fun q => ⟨_, q.1⟩) (fun q => ⟨_, q.1⟩), q.2⟩)
theorem c_X5_number_1 {lay : List zL} {I : zI} {J : zJ} {a len : Nat} {tx : Nat → Nat} (hX : kX lay a) (hV : vX I a len tx) {p e : Nat} (hp : p < 1000) (h : e ≤ p) : zMet lay MX5_number 2 [.ref a, .int (nI p), .int (nI e)] I J (fun r I' J' => r = .int (-1) ∧ I = I' ∧ J = J') :=
  zMet_to (c_X5_number hX hV hp (by omega) (fun k h1 h2 => absurd h2 (by omega))) (fun r I' J' q => ⟨by rcases q.1 with q | q | q; exact q.1; omega; omega, q.2⟩)
theorem c_X5_number_2 {lay : List zL} {I : zI} {J : zJ} {a len : Nat} {tx : Nat → Nat} (hX : kX lay a) (hV : vX I a len tx) {p e x : Nat} (hp : p < 1000) (h : (e = p + 1 ∧ zisb len tx p = true ∧ x = tx p - 48) ∨ (e = p + 2 ∧ zisb len tx p = true ∧ zisb len tx (p + 1) = true ∧ x = 10 * (tx p - 48) + (tx (p + 1) - 48))) : zMet lay MX5_number 2 [.ref a, .int (nI p), .int (nI e)] I J (fun r I' J' => r = .int (nI x) ∧ I = I' ∧ J = J') := by
  refine zMet_to (c_X5_number hX hV hp (by omega) (fun k h1 h2 => ?_)) (fun r I' J' q => ⟨?_, q.2⟩)
  · rcases h with h | h
    · rw [show k = p by omega]; exact h.2.1
    · by_cases q : k = p
      · rw [q]; exact h.2.1
      · rw [show k = p + 1 by omega]; exact h.2.2.1
  · rcases h with h | h
    · rcases q.1 with q | q | q
      · omega
      · rw [h.2.2]; exact q.1
      · omega
    · rcases q.1 with q | q | q
      · omega
      · omega
      · rw [h.2.2.2]; exact q.1
theorem c_X5_sign_y {lay : List zL} {I : zI} {J : zJ} {a len : Nat} {tx : Nat → Nat} (hX : kX lay a) (hV : vX I a len tx) {p s : Nat} (hp : p < 2147483648) (h : p < len) (hs : tx p = s) : zMet lay MX5_sign 0 [.ref a, .int (nI p)] I J (fun r I' J' => r = .int (nI s) ∧ I = I' ∧ J = J') :=
  zMet_to (c_X5_sign hX hV hp) (fun r I' J' q => ⟨q.1.elim (fun q => by rw [← hs]; exact q.1) (fun q => absurd q.2 (by omega)), q.2⟩)
theorem fsize_i {S : zS} {r c : Int32} : ∃ x, (fsize S r c).1 = .int x := by
  unfold fsize
  split
  · split <;> exact ⟨_, rfl⟩
  · exact ⟨_, rfl⟩
theorem ftell_i {S : zS} {i j v : Int32} : ∃ x, (ftell S i j v).1 = .int x := by
  unfold ftell
  split
  · exact ⟨_, rfl⟩
  · split <;> exact ⟨_, rfl⟩
theorem fmark_i {S : zS} {i j v : Int32} : ∃ x, (fmark S i j v).1 = .int x := by
  unfold fmark
  split
  · exact ⟨_, rfl⟩
  · split <;> exact ⟨_, rfl⟩
theorem fmargin_i {S : zS} {i j v : Int32} : ∃ x, (fmargin S i j v).1 = .int x := by
  unfold fmargin
  split
  · exact ⟨_, rfl⟩
  · split <;> exact ⟨_, rfl⟩
/-- the end of a clause -/
def zPD (I : zI) (J : zJ) (p : Value × zS) (r : Value) (I' : zI) (J' : zJ) : Prop := r = .int (nI (zge p.1)) ∧ vC I' J' p.2 ∧ (∀ x, 78 < x → I' x = I x) ∧ ∀ x, 78 < x → J' x = J x
theorem zPD_1 {I I' : zI} {J J' : zJ} {p : Value × zS} {x : Int32} (h : zPC I J p (.int x) I' J') (hx : 0 ≤ x) : zPD I J p (.int (nI 1)) I' J' := by
  obtain ⟨h1, h2⟩ := h
  exact ⟨by rw [← h1]; show _ = Value.int (nI (if 0 ≤ x then 1 else 0)); rw [if_pos hx], h2⟩
theorem zPD_0 {I I' : zI} {J J' : zJ} {p : Value × zS} {x : Int32} (h : zPC I J p (.int x) I' J') (hx : x < 0) : zPD I J p (.int (nI 0)) I' J' := by
  obtain ⟨h1, h2⟩ := h
  exact ⟨by rw [← h1]; show _ = Value.int (nI (if 0 ≤ x then 1 else 0)); rw [if_neg (Int32.not_le.mpr hx)], h2⟩
