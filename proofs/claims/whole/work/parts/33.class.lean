/-! ===== the class in one world ===== -/
def kF (lay : List zL) (a : Nat) : Prop := lay[a]? = some (.inl (0, [1, 1]))
def kC (lay : List zL) : Prop := lay[0]? = some (.inl (9, [3, 22, 0, 69, 71, 61, 41, 45, 50, 55, 56, 57, 58])) ∧ (kP lay 1 ∧ kP lay 20) ∧ (kX lay 67 ∧ kQ lay 69 ∧ kR lay 59) ∧ (kS lay 39 ∧ kT lay 43 ∧ kT lay 48) ∧ kF lay 53 ∧ kF lay 54 ∧ kF lay 55 ∧ kU lay 56
def vC (I : zI) (J : zJ) (S : zS) : Prop := (vP I J 1 S.n ∧ bN S.n) ∧ mP I 20 ∧ (I 0 2 = nI S.t ∧ S.t ≤ 1 ∧ (S.t = 1 → vP I J 20 S.g ∧ bN S.g)) ∧ vX I 67 S.len S.tx ∧ vQ I J 69 S.so S.le S.it
/-- what only serves a call: 39 to 66 -/
def zkp {α : Type} (I I' : Nat → Nat → α) : Prop := ∀ x, (x < 39 ∨ 66 < x) → I' x = I x
theorem zkp_r {α : Type} (I : Nat → Nat → α) : zkp I I := fun _ _ => rfl
theorem zkp_t {α : Type} {I I1 I2 : Nat → Nat → α} (h : zkp I I1) (h2 : zkp I1 I2) : zkp I I2 := fun x hx => (h2 x hx).trans (h x hx)
theorem mP_to {I I' : zI} {p : Nat} (h : mP I p) (hI : ∀ x, p ≤ x → x ≤ p + 18 → I' x = I x) : mP I' p := by
  unfold mP
  rw [hI (p + 10) (by omega) (by omega), hI (p + 13) (by omega) (by omega), hI (p + 16) (by omega) (by omega)]
  exact h
theorem vX_to {I I' : zI} {a len : Nat} {tx : Nat → Nat} (h : vX I a len tx) (h0 : I' a = I a) (h1 : I' (a + 1) = I (a + 1)) : vX I' a len tx := by
  unfold vX
  rw [h0, h1]
  exact h
theorem vQ_to {I I' : zI} {J J' : zJ} {q : Nat} {so : Nat → Int32} {le : Nat → Nat} {it : Nat → Nat → Int64} (h : vQ I J q so le it) (h0 : I' (q + 2) = I (q + 2)) (h1 : I' (q + 3) = I (q + 3)) (hJ : ∀ t, t < 6 → J' (q + 4 + t) = J (q + 4 + t)) : vQ I' J' q so le it := by
  obtain ⟨q1, q2, q3, q4⟩ := h
  refine ⟨?_, ?_, fun t i ht hi => ?_, q4⟩
  · rw [h0]; exact q1
  · rw [h1]; exact q2
  · rw [hJ t ht]; exact q3 t i ht hi
theorem vC_keep {I I' : zI} {J J' : zJ} {S : zS} (h : vC I J S) (hI : zkp I I') (hJ : zkp J J') : vC I' J' S := by
  obtain ⟨⟨q1, q2⟩, q3, ⟨q4, q5, q6⟩, q7, q8⟩ := h
  refine ⟨⟨vP_to q1 (fun x _ _ => hI x (by omega)) (fun x _ _ => hJ x (by omega)), q2⟩, mP_to q3 (fun x _ _ => hI x (by omega)), ⟨by rw [hI 0 (by omega)]; exact q4, q5, fun h1 => ⟨vP_to (q6 h1).1 (fun x _ _ => hI x (by omega)) (fun x _ _ => hJ x (by omega)), (q6 h1).2⟩⟩, vX_to q7 (hI _ (by omega)) (hI _ (by omega)), vQ_to q8 (hI _ (by omega)) (hI _ (by omega)) (fun t ht => hJ _ (by omega))⟩
/-- a new now -/
theorem vC_now {I I' : zI} {J J' : zJ} {S : zS} {n : Nat → Nat} (h : vC I J S) (hI : ∀ x, (x < 1 ∨ 19 < x) → (x < 39 ∨ 66 < x) → I' x = I x) (hJ : ∀ x, (x < 1 ∨ 19 < x) → (x < 39 ∨ 66 < x) → J' x = J x) (hn : vP I' J' 1 n) (hb : bN n) : vC I' J' (S.up n) := by
  obtain ⟨⟨q1, q2⟩, q3, ⟨q4, q5, q6⟩, q7, q8⟩ := h
  refine ⟨⟨hn, hb⟩, mP_to q3 (fun x _ _ => hI x (by omega) (by omega)), ⟨by rw [hI 0 (by omega) (by omega)]; exact q4, q5, fun h1 => ⟨vP_to (q6 h1).1 (fun x _ _ => hI x (by omega) (by omega)) (fun x _ _ => hJ x (by omega) (by omega)), (q6 h1).2⟩⟩, vX_to q7 (hI _ (by omega) (by omega)) (hI _ (by omega) (by omega)), vQ_to q8 (hI _ (by omega) (by omega)) (hI _ (by omega) (by omega)) (fun t ht => hJ _ (by omega) (by omega))⟩
/-- the text alone -/
theorem vC_text {I I' : zI} {J : zJ} {S : zS} {len : Nat} {tx : Nat → Nat} (h : vC I J S) (hI : ∀ x, x ≠ 67 → x ≠ 68 → I' x = I x) (hx : vX I' 67 len tx) : vC I' J (S.upX len tx) := by
  obtain ⟨⟨q1, q2⟩, q3, ⟨q4, q5, q6⟩, q7, q8⟩ := h
  refine ⟨⟨vP_to q1 (fun x _ _ => hI x (by omega) (by omega)) (fun x _ _ => rfl), q2⟩, mP_to q3 (fun x _ _ => hI x (by omega) (by omega)), ⟨by rw [hI 0 (by omega) (by omega)]; exact q4, q5, fun h1 => ⟨vP_to (q6 h1).1 (fun x _ _ => hI x (by omega) (by omega)) (fun x _ _ => rfl), (q6 h1).2⟩⟩, hx, vQ_to q8 (hI _ (by omega) (by omega)) (hI _ (by omega) (by omega)) (fun t ht => rfl)⟩
/-- the tapes alone -/
theorem vC_tape {I I' : zI} {J J' : zJ} {S : zS} {so : Nat → Int32} {le : Nat → Nat} {it : Nat → Nat → Int64} (h : vC I J S) (hI : ∀ x, (x < 69 ∨ 78 < x) → I' x = I x) (hJ : ∀ x, (x < 69 ∨ 78 < x) → J' x = J x) (hx : vQ I' J' 69 so le it) : vC I' J' (S.upQ so le it) := by
  obtain ⟨⟨q1, q2⟩, q3, ⟨q4, q5, q6⟩, q7, q8⟩ := h
  refine ⟨⟨vP_to q1 (fun x _ _ => hI x (by omega)) (fun x _ _ => hJ x (by omega)), q2⟩, mP_to q3 (fun x _ _ => hI x (by omega)), ⟨by rw [hI 0 (by omega)]; exact q4, q5, fun h1 => ⟨vP_to (q6 h1).1 (fun x _ _ => hI x (by omega)) (fun x _ _ => hJ x (by omega)), (q6 h1).2⟩⟩, vX_to q7 (hI _ (by omega)) (hI _ (by omega)), hx⟩
/-- the setting of a picture anew, the rest as it was -/
theorem vP_set {I I' : zI} {J J' : zJ} {p : Nat} {n n' : Nat → Nat} (h : vP I J p n) (hS : vS I' (p + 1) n') (hI : ∀ x, p + 5 ≤ x → x ≤ p + 18 → I' x = I x) (hJ : ∀ x, p + 5 ≤ x → x ≤ p + 18 → J' x = J x) (hn : ∀ k, ((3 ≤ k ∧ k < 7) ∨ 34 ≤ k) → n' k = n k) : vP I' J' p n' := by
  obtain ⟨q1, q2, q3, q4, q5⟩ := h
  have f1 : (fun k => n' (52 + k) / 100) = fun k => n (52 + k) / 100 := funext fun k => by rw [hn _ (by omega)]
  have f2 : (fun k => n' (52 + k) % 100) = fun k => n (52 + k) % 100 := funext fun k => by rw [hn _ (by omega)]
  have f3 : (fun k => n' (57 + k) / 100) = fun k => n (57 + k) / 100 := funext fun k => by rw [hn _ (by omega)]
  have f4 : (fun k => n' (57 + k) % 100) = fun k => n (57 + k) % 100 := funext fun k => by rw [hn _ (by omega)]
  have f5 : (fun k => n' (65 + k) / 100) = fun k => n (65 + k) / 100 := funext fun k => by rw [hn _ (by omega)]
  have f6 : (fun k => n' (65 + k) % 100) = fun k => n (65 + k) % 100 := funext fun k => by rw [hn _ (by omega)]
  refine ⟨hS, vT_to (vT_n q2 (fun k hk => hn k (by omega))) (hI _ (by omega) (by omega)) (hJ _ (by omega) (by omega)) (hJ _ (by omega) (by omega)), ?_, ?_, ?_⟩
  · unfold vN
    rw [f1, f2, hn 4 (by omega), hI (p + 10) (by omega) (by omega), hI (p + 10 + 1) (by omega) (by omega), hI (p + 10 + 2) (by omega) (by omega)]; exact q3
  · unfold vN
    rw [f3, f4, hn 5 (by omega), hI (p + 13) (by omega) (by omega), hI (p + 13 + 1) (by omega) (by omega), hI (p + 13 + 2) (by omega) (by omega)]; exact q4
  · unfold vN
    rw [f5, f6, hn 6 (by omega), hI (p + 16) (by omega) (by omega), hI (p + 16 + 1) (by omega) (by omega), hI (p + 16 + 2) (by omega) (by omega)]; exact q5
/-- the table of a picture anew -/
theorem vP_tab {I I' : zI} {J J' : zJ} {p : Nat} {n n' : Nat → Nat} (h : vP I J p n) (hT : vT I' J' (p + 5) n') (hI : ∀ x, p ≤ x → x ≤ p + 18 → x ≠ p + 5 → I' x = I x) (hn : ∀ k, (k < 3 ∨ (4 ≤ k ∧ k < 34) ∨ 52 ≤ k) → n' k = n k) : vP I' J' p n' := by
  obtain ⟨q1, q2, q3, q4, q5⟩ := h
  have f1 : (fun k => n' (52 + k) / 100) = fun k => n (52 + k) / 100 := funext fun k => by rw [hn _ (by omega)]
  have f2 : (fun k => n' (52 + k) % 100) = fun k => n (52 + k) % 100 := funext fun k => by rw [hn _ (by omega)]
  have f3 : (fun k => n' (57 + k) / 100) = fun k => n (57 + k) / 100 := funext fun k => by rw [hn _ (by omega)]
  have f4 : (fun k => n' (57 + k) % 100) = fun k => n (57 + k) % 100 := funext fun k => by rw [hn _ (by omega)]
  have f5 : (fun k => n' (65 + k) / 100) = fun k => n (65 + k) / 100 := funext fun k => by rw [hn _ (by omega)]
  have f6 : (fun k => n' (65 + k) % 100) = fun k => n (65 + k) % 100 := funext fun k => by rw [hn _ (by omega)]
  refine ⟨vS_to (vS_n q1 (fun k hk => hn k (by omega))) (hI _ (by omega) (by omega) (by omega)) (hI _ (by omega) (by omega) (by omega)) (hI _ (by omega) (by omega) (by omega)) (hI _ (by omega) (by omega) (by omega)), hT, ?_, ?_, ?_⟩
  · unfold vN
    rw [f1, f2, hn 4 (by omega), hI (p + 10) (by omega) (by omega) (by omega), hI (p + 10 + 1) (by omega) (by omega) (by omega), hI (p + 10 + 2) (by omega) (by omega) (by omega)]; exact q3
  · unfold vN
    rw [f3, f4, hn 5 (by omega), hI (p + 13) (by omega) (by omega) (by omega), hI (p + 13 + 1) (by omega) (by omega) (by omega), hI (p + 13 + 2) (by omega) (by omega) (by omega)]; exact q4
  · unfold vN
    rw [f5, f6, hn 6 (by omega), hI (p + 16) (by omega) (by omega) (by omega), hI (p + 16 + 1) (by omega) (by omega) (by omega), hI (p + 16 + 2) (by omega) (by omega) (by omega)]; exact q5
/-- the end of a call -/
def zPC (I : zI) (J : zJ) (p : Value × zS) (r : Value) (I' : zI) (J' : zJ) : Prop := r = p.1 ∧ vC I' J' p.2 ∧ (∀ x, 78 < x → I' x = I x) ∧ ∀ x, 78 < x → J' x = J x
theorem zPC_same {I : zI} {J : zJ} {S : zS} {p : Value × zS} {r : Value} (h : vC I J S) (e : p = (r, S)) : zPC I J p r I J := by
  subst e
  exact ⟨rfl, h, fun _ _ => rfl, fun _ _ => rfl⟩
theorem zPC_keep {I I' : zI} {J J' : zJ} {S : zS} {p : Value × zS} {r : Value} (h : vC I J S) (hI : zkp I I') (hJ : zkp J J') (e : p = (r, S)) : zPC I J p r I' J' := by
  subst e
  exact ⟨rfl, vC_keep h hI hJ, fun x hx => hI x (by omega), fun x hx => hJ x (by omega)⟩
theorem zPC_now {I I' : zI} {J J' : zJ} {S : zS} {n : Nat → Nat} {p : Value × zS} {r : Value} (h : vC I J S) (hI : ∀ x, (x < 1 ∨ 19 < x) → (x < 39 ∨ 66 < x) → I' x = I x) (hJ : ∀ x, (x < 1 ∨ 19 < x) → (x < 39 ∨ 66 < x) → J' x = J x) (hn : vP I' J' 1 n) (hb : bN n) (e : p = (r, S.up n)) : zPC I J p r I' J' := by
  subst e
  exact ⟨rfl, vC_now h hI hJ hn hb, fun x hx => hI x (by omega) (by omega), fun x hx => hJ x (by omega) (by omega)⟩
theorem zset1_bSc {n : Nat → Nat} {k x : Nat} (h : bS n) (hk : k < 9) (hx : x ≤ 20) : bS (zset1 n (7 + k) x) := by
  obtain ⟨b1, b2, b3, b4, b5, b6, b7, b8⟩ := h
  refine ⟨?_, ?_, ?_, ?_, ?_, fun j hj => ?_, fun j hj => ?_, fun j hj => ?_⟩
  · rw [zset1_o (by omega)]; exact b1
  · rw [zset1_o (by omega)]; exact b2
  · rw [zset1_o (by omega)]; exact b3
  · rw [zset1_o (by omega)]; exact b4
  · rw [zset1_o (by omega)]; exact b5
  · by_cases q : j = k
    · rw [q, zset1_s]; exact hx
    · rw [zset1_o (by omega)]; exact b6 j hj
  · rw [zset1_o (by omega)]; exact b7 j hj
  · rw [zset1_o (by omega)]; exact b8 j hj
theorem zset1_bSk {n : Nat → Nat} {k x : Nat} (h : bS n) (hk : k < 9) (hx : x ≤ 2) : bS (zset1 n (16 + k) x) := by
  obtain ⟨b1, b2, b3, b4, b5, b6, b7, b8⟩ := h
  refine ⟨?_, ?_, ?_, ?_, ?_, fun j hj => ?_, fun j hj => ?_, fun j hj => ?_⟩
  · rw [zset1_o (by omega)]; exact b1
  · rw [zset1_o (by omega)]; exact b2
  · rw [zset1_o (by omega)]; exact b3
  · rw [zset1_o (by omega)]; exact b4
  · rw [zset1_o (by omega)]; exact b5
  · rw [zset1_o (by omega)]; exact b6 j hj
  · by_cases q : j = k
    · rw [q, zset1_s]; exact hx
    · rw [zset1_o (by omega)]; exact b7 j hj
  · rw [zset1_o (by omega)]; exact b8 j hj
theorem zset1_bSm {n : Nat → Nat} {k x : Nat} (h : bS n) (hk : k < 9) (hx : x ≤ 60) : bS (zset1 n (25 + k) x) := by
  obtain ⟨b1, b2, b3, b4, b5, b6, b7, b8⟩ := h
  refine ⟨?_, ?_, ?_, ?_, ?_, fun j hj => ?_, fun j hj => ?_, fun j hj => ?_⟩
  · rw [zset1_o (by omega)]; exact b1
  · rw [zset1_o (by omega)]; exact b2
  · rw [zset1_o (by omega)]; exact b3
  · rw [zset1_o (by omega)]; exact b4
  · rw [zset1_o (by omega)]; exact b5
  · rw [zset1_o (by omega)]; exact b6 j hj
  · rw [zset1_o (by omega)]; exact b7 j hj
  · by_cases q : j = k
    · rw [q, zset1_s]; exact hx
    · rw [zset1_o (by omega)]; exact b8 j hj
theorem zset1_bS2 {n : Nat → Nat} {x : Nat} (h : bS n) (hx : x ≤ 1) : bS (zset1 n 2 x) := by
  obtain ⟨b1, b2, b3, b4, b5, b6, b7, b8⟩ := h
  refine ⟨?_, ?_, ?_, ?_, ?_, fun j hj => ?_, fun j hj => ?_, fun j hj => ?_⟩
  · rw [zset1_o (by omega)]; exact b1
  · rw [zset1_o (by omega)]; exact b2
  · rw [zset1_o (by omega)]; exact b3
  · rw [zset1_o (by omega)]; exact b4
  · rw [zset1_s]; exact hx
  · rw [zset1_o (by omega)]; exact b6 j hj
  · rw [zset1_o (by omega)]; exact b7 j hj
  · rw [zset1_o (by omega)]; exact b8 j hj
theorem zset1_bT {n : Nat → Nat} {k x : Nat} (h : bT n) (hk : k < 34 ∨ 52 ≤ k) : bT (zset1 n k x) := by
  intro j hj
  rw [zset1_o (by omega), zset1_o (by omega)]
  exact h j hj
theorem bS_to {n n' : Nat → Nat} (h : bS n) (hn : ∀ k, (k < 3 ∨ (7 ≤ k ∧ k < 34)) → n' k = n k) : bS n' := by
  obtain ⟨b1, b2, b3, b4, b5, b6, b7, b8⟩ := h
  refine ⟨?_, ?_, ?_, ?_, ?_, fun j hj => ?_, fun j hj => ?_, fun j hj => ?_⟩
  · rw [hn _ (by omega)]; exact b1
  · rw [hn _ (by omega)]; exact b2
  · rw [hn _ (by omega)]; exact b3
  · rw [hn _ (by omega)]; exact b4
  · rw [hn _ (by omega)]; exact b5
  · rw [hn _ (by omega)]; exact b6 j hj
  · rw [hn _ (by omega)]; exact b7 j hj
  · rw [hn _ (by omega)]; exact b8 j hj
theorem ztk_o {n : Nat → Nat} {k : Nat} (h : k < 3 ∨ (4 ≤ k ∧ k < 34) ∨ 52 ≤ k) : ztk n k = n k := by
  unfold ztk
  rw [if_neg (by omega), if_neg (by omega), if_neg (by omega)]
theorem ztk_bT {n : Nat → Nat} (h : bS n) : bT (ztk n) := by
  intro k hk
  have h6 := h.2.2.2.2.2.1 k hk
  unfold ztk
  rw [if_neg (by omega), if_pos (by omega), if_neg (by omega), if_neg (by omega), if_pos (by omega), show 34 + k - 27 = 7 + k by omega]
  omega
theorem ztk_bS {n : Nat → Nat} (h : bS n) : bS (ztk n) := bS_to h (fun k hk => ztk_o (by omega))
theorem ztk_bN {n : Nat → Nat} (h : bN n) : bN (ztk n) := bN_of h (ztk_bS h.1) (ztk_bT h.1) (ztk_o (by omega)) (ztk_o (by omega)) (fun k hk => ztk_o (by omega))
theorem zset1_bN {n : Nat → Nat} {k x : Nat} (h : bN n) (hS : bS (zset1 n k x)) (h2 : 2 ≤ k) (hk : k < 4 ∨ (7 ≤ k ∧ k < 34)) : bN (zset1 n k x) := bN_of h hS (zset1_bT h.2.1 (by omega)) (zset1_o (by omega)) (zset1_o (by omega)) (fun j hj => zset1_o (by omega))
/-- a count, a mark, a margin of the setting at s -/
theorem vS_c {I : zI} {s k x : Nat} {n : Nat → Nat} (h : vS I s n) (hk : k < 9) : vS (zup I (s + 1) k (nI x)) s (zset1 n (7 + k) x) := by
  obtain ⟨v0, v1, v2, v3, v4, v5⟩ := h
  refine ⟨?_, ?_, ?_, fun j hj => ?_, fun j hj => ?_, fun j hj => ?_⟩
  · rw [zup_o (by omega), zset1_o (by omega)]; exact v0
  · rw [zup_o (by omega), zset1_o (by omega)]; exact v1
  · rw [zup_o (by omega), zset1_o (by omega)]; exact v2
  · by_cases q : j = k
    · rw [q, zset1_s]; exact zup_s _ _ _ _
    · rw [zup_n _ _ (by omega), zset1_o (by omega)]; exact v3 j hj
  · rw [zup_o (by omega), zset1_o (by omega)]; exact v4 j hj
  · rw [zup_o (by omega), zset1_o (by omega)]; exact v5 j hj
theorem vS_k {I : zI} {s k x : Nat} {n : Nat → Nat} (h : vS I s n) (hk : k < 9) : vS (zup I (s + 2) k (nI x)) s (zset1 n (16 + k) x) := by
  obtain ⟨v0, v1, v2, v3, v4, v5⟩ := h
  refine ⟨?_, ?_, ?_, fun j hj => ?_, fun j hj => ?_, fun j hj => ?_⟩
  · rw [zup_o (by omega), zset1_o (by omega)]; exact v0
  · rw [zup_o (by omega), zset1_o (by omega)]; exact v1
  · rw [zup_o (by omega), zset1_o (by omega)]; exact v2
  · rw [zup_o (by omega), zset1_o (by omega)]; exact v3 j hj
  · by_cases q : j = k
    · rw [q, zset1_s]; exact zup_s _ _ _ _
    · rw [zup_n _ _ (by omega), zset1_o (by omega)]; exact v4 j hj
  · rw [zup_o (by omega), zset1_o (by omega)]; exact v5 j hj
theorem vS_m {I : zI} {s k x : Nat} {n : Nat → Nat} (h : vS I s n) (hk : k < 9) : vS (zup I (s + 3) k (nI x)) s (zset1 n (25 + k) x) := by
  obtain ⟨v0, v1, v2, v3, v4, v5⟩ := h
  refine ⟨?_, ?_, ?_, fun j hj => ?_, fun j hj => ?_, fun j hj => ?_⟩
  · rw [zup_o (by omega), zset1_o (by omega)]; exact v0
  · rw [zup_o (by omega), zset1_o (by omega)]; exact v1
  · rw [zup_o (by omega), zset1_o (by omega)]; exact v2
  · rw [zup_o (by omega), zset1_o (by omega)]; exact v3 j hj
  · rw [zup_o (by omega), zset1_o (by omega)]; exact v4 j hj
  · by_cases q : j = k
    · rw [q, zset1_s]; exact zup_s _ _ _ _
    · rw [zup_n _ _ (by omega), zset1_o (by omega)]; exact v5 j hj
theorem vS_3 {I : zI} {s x : Nat} {n : Nat → Nat} (h : vS I s n) : vS (zup I s 2 (nI x)) s (zset1 n 2 x) := by
  obtain ⟨v0, v1, v2, v3, v4, v5⟩ := h
  refine ⟨?_, ?_, ?_, fun j hj => ?_, fun j hj => ?_, fun j hj => ?_⟩
  · rw [zup_n _ _ (by omega), zset1_o (by omega)]; exact v0
  · rw [zup_n _ _ (by omega), zset1_o (by omega)]; exact v1
  · rw [zset1_s]; exact zup_s _ _ _ _
  · rw [zup_o (by omega), zset1_o (by omega)]; exact v3 j hj
  · rw [zup_o (by omega), zset1_o (by omega)]; exact v4 j hj
  · rw [zup_o (by omega), zset1_o (by omega)]; exact v5 j hj
theorem zS_up (S : zS) : S.up S.n = S := rfl
theorem vC_n {I : zI} {J : zJ} {S : zS} (h : vC I J S) : vP I J 1 S.n := h.1.1
theorem vC_b {I : zI} {J : zJ} {S : zS} (h : vC I J S) : bN S.n := h.1.2
