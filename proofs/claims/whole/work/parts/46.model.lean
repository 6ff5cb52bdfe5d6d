/-! ===== the model: its layout, its picture ===== -/
def kM (lay : List zL) : Prop := lay[79]? = some (.inl (10, [82, 83, 84, 0, 85, 0, 86, 1, 1, 87, 88, 89, 1, 1, 90, 91, 0, 0, 92, 93, 94, 95, 96, 97, 98])) ∧ lay[80]? = some (.inr (.inl 73)) ∧ lay[81]? = some (.inr (.inl 73)) ∧ lay[82]? = some (.inr (.inl 73)) ∧ lay[83]? = some (.inr (.inl 100)) ∧ lay[84]? = some (.inr (.inl 48)) ∧ lay[85]? = some (.inr (.inl 9)) ∧ lay[86]? = some (.inr (.inl 9)) ∧ lay[87]? = some (.inr (.inl 18)) ∧ lay[88]? = some (.inr (.inl 6)) ∧ lay[89]? = some (.inr (.inl 6)) ∧ lay[90]? = some (.inr (.inl 9)) ∧ lay[91]? = some (.inr (.inr (.inl 4))) ∧ lay[92]? = some (.inr (.inr (.inl 4))) ∧ lay[93]? = some (.inr (.inl 6)) ∧ lay[94]? = some (.inr (.inl 6)) ∧ lay[95]? = some (.inr (.inr (.inl 360))) ∧ lay[96]? = some (.inr (.inr (.inl 60)))
/-- the row of numbers -/
def vW (I : zI) (n : Nat → Nat) : Prop := ∀ k, k < 73 → I 80 k = nI (n k)
/-- in lowest terms -/
def bG (n : Nat → Nat) : Prop := ∀ k, k < 9 → Nat.gcd (n (43 + k)) (n (34 + k)) = 1
def vMT (I : zI) (len : Nat) (tx : Nat → Nat) : Prop := I 79 5 = nI len ∧ len ≤ 100 ∧ (∀ k, k < len → I 83 k = nI (tx k)) ∧ ∀ k, k < len → tx k ≤ 127
def vMQ (I : zI) (J : zJ) (so : Nat → Int32) (le : Nat → Nat) (it : Nat → Nat → Int64) : Prop := (∀ t, t < 6 → I 93 t = so t) ∧ (∀ t, t < 6 → I 94 t = nI (le t)) ∧ (∀ t i, t < 6 → i < le t → J 95 (60 * t + i) = it t i) ∧ ∀ t, t < 6 → le t ≤ 60 ∧ (so t = -1 → le t = 0) ∧ (so t = -1 ∨ ∃ a, a ≤ 4 ∧ so t = nI a)
def vM (I : zI) (J : zJ) (S : zS) : Prop := (vW I S.n ∧ bN S.n ∧ bG S.n) ∧ (I 79 3 = nI S.t ∧ S.t ≤ 1 ∧ (S.t = 1 → (∀ k, k < 73 → I 81 k = nI (S.g k)) ∧ bN S.g ∧ bG S.g)) ∧ vMT I S.len S.tx ∧ vMQ I J S.so S.le S.it
/-- what only serves a call may change -/
def zmI (I I' : zI) : Prop := ∀ x y, (x ≠ 82 ∧ ¬ (84 ≤ x ∧ x ≤ 92) ∧ (x = 79 → y ≠ 16 ∧ y ≠ 17)) → I' x y = I x y
def zmJ (J J' : zJ) : Prop := ∀ x y, (x ≠ 79 ∧ x ≠ 91 ∧ x ≠ 92 ∧ x ≠ 96) → J' x y = J x y
theorem zmI_r (I : zI) : zmI I I := fun _ _ _ => rfl
theorem zmJ_r (J : zJ) : zmJ J J := fun _ _ _ => rfl
theorem zmI_t {I I1 I2 : zI} (h : zmI I I1) (h2 : zmI I1 I2) : zmI I I2 := fun x y hx => (h2 x y hx).trans (h x y hx)
theorem zmJ_t {I I1 I2 : zJ} (h : zmJ I I1) (h2 : zmJ I1 I2) : zmJ I I2 := fun x y hx => (h2 x y hx).trans (h x y hx)
theorem vW_to {I I' : zI} {n : Nat → Nat} (h : vW I n) (e : ∀ y, I' 80 y = I 80 y) : vW I' n := fun k hk => (e k).trans (h k hk)
theorem vMT_to {I I' : zI} {len : Nat} {tx : Nat → Nat} (h : vMT I len tx) (h0 : I' 79 5 = I 79 5) (h1 : ∀ y, I' 83 y = I 83 y) : vMT I' len tx := by
  obtain ⟨q1, q2, q3, q4⟩ := h
  exact ⟨h0.trans q1, q2, fun k hk => (h1 k).trans (q3 k hk), q4⟩
theorem vMQ_to {I I' : zI} {J J' : zJ} {so : Nat → Int32} {le : Nat → Nat} {it : Nat → Nat → Int64} (h : vMQ I J so le it) (h0 : ∀ y, I' 93 y = I 93 y) (h1 : ∀ y, I' 94 y = I 94 y) (h2 : ∀ y, J' 95 y = J 95 y) : vMQ I' J' so le it := by
  obtain ⟨q1, q2, q3, q4⟩ := h
  exact ⟨fun t ht => (h0 t).trans (q1 t ht), fun t ht => (h1 t).trans (q2 t ht), fun t i ht hi => (h2 _).trans (q3 t i ht hi), q4⟩
theorem vM_keep {I I' : zI} {J J' : zJ} {S : zS} (h : vM I J S) (hI : zmI I I') (hJ : zmJ J J') : vM I' J' S := by
  obtain ⟨⟨q1, q2⟩, ⟨q4, q5, q6⟩, q7, q8⟩ := h
  refine ⟨⟨vW_to q1 (fun y => hI 80 y (by omega)), q2⟩, ⟨(hI 79 3 (by omega)).trans q4, q5, fun h1 => ⟨fun k hk => (hI 81 k (by omega)).trans ((q6 h1).1 k hk), (q6 h1).2⟩⟩, vMT_to q7 (hI 79 5 (by omega)) (fun y => hI 83 y (by omega)), vMQ_to q8 (fun y => hI 93 y (by omega)) (fun y => hI 94 y (by omega)) (fun y => hJ 95 y (by omega))⟩
/-- a new now -/
theorem vM_now {I I' : zI} {J J' : zJ} {S : zS} {n : Nat → Nat} (h : vM I J S) (hI : ∀ x y, x ≠ 80 → (x ≠ 82 ∧ ¬ (84 ≤ x ∧ x ≤ 92) ∧ (x = 79 → y ≠ 16 ∧ y ≠ 17)) → I' x y = I x y) (hJ : zmJ J J') (hn : vW I' n) (hb : bN n) (hg : bG n) : vM I' J' (S.up n) := by
  obtain ⟨⟨q1, q2⟩, ⟨q4, q5, q6⟩, q7, q8⟩ := h
  refine ⟨⟨hn, hb, hg⟩, ⟨(hI 79 3 (by omega) (by omega)).trans q4, q5, fun h1 => ⟨fun k hk => (hI 81 k (by omega) (by omega)).trans ((q6 h1).1 k hk), (q6 h1).2⟩⟩, vMT_to q7 (hI 79 5 (by omega) (by omega)) (fun y => hI 83 y (by omega) (by omega)), vMQ_to q8 (fun y => hI 93 y (by omega) (by omega)) (fun y => hI 94 y (by omega) (by omega)) (fun y => hJ 95 y (by omega))⟩
/-- the end of a call -/
def zPM (I : zI) (J : zJ) (p : Value × zS) (r : Value) (I' : zI) (J' : zJ) : Prop := r = p.1 ∧ vM I' J' p.2 ∧ (∀ x, x < 79 → I' x = I x) ∧ ∀ x, x < 79 → J' x = J x
theorem zPM_same {I : zI} {J : zJ} {S : zS} {p : Value × zS} {r : Value} (h : vM I J S) (e : p = (r, S)) : zPM I J p r I J := by
  subst e
  exact ⟨rfl, h, fun _ _ => rfl, fun _ _ => rfl⟩
theorem zPM_keep {I I' : zI} {J J' : zJ} {S : zS} {p : Value × zS} {r : Value} (h : vM I J S) (hI : zmI I I') (hJ : zmJ J J') (e : p = (r, S)) : zPM I J p r I' J' := by
  subst e
  exact ⟨rfl, vM_keep h hI hJ, fun x hx => funext fun y => hI x y (by omega), fun x hx => funext fun y => hJ x y (by omega)⟩
theorem zPM_now {I I' : zI} {J J' : zJ} {S : zS} {n : Nat → Nat} {p : Value × zS} {r : Value} (h : vM I J S) (hI : ∀ x y, x ≠ 80 → (x ≠ 82 ∧ ¬ (84 ≤ x ∧ x ≤ 92) ∧ (x = 79 → y ≠ 16 ∧ y ≠ 17)) → I' x y = I x y) (hJ : zmJ J J') (hn : vW I' n) (hb : bN n) (hg : bG n) (e : p = (r, S.up n)) : zPM I J p r I' J' := by
  subst e
  exact ⟨rfl, vM_now h hI hJ hn hb hg, fun x hx => funext fun y => hI x y (by omega) (by omega), fun x hx => funext fun y => hJ x y (by omega)⟩
/-- one number of now put -/
theorem vW_up {I : zI} {n : Nat → Nat} {k x : Nat} (h : vW I n) : vW (zup I 80 k (nI x)) (zset1 n k x) := by
  intro j hj
  by_cases q : j = k
  · rw [q, zset1_s]; exact zup_s _ _ _ _
  · rw [zup_n _ _ (by omega), zset1_o q]; exact h j hj
theorem vW_eq {I : zI} {n n' : Nat → Nat} (h : vW I n) (e : ∀ k, k < 73 → n' k = n k) : vW I n' := fun k hk => by rw [e k hk]; exact h k hk
/-! whether a number is between two -/
theorem lN_lt_toInt {x : Int32} {a : Nat} (ha : a < 2147483648) : x.toInt64 < lN a ↔ x.toInt < (a : Int) := by
  rw [Int64.lt_iff_toInt_lt, Int32.toInt_toInt64, show (lN a).toInt = (a : Int) from Int64.toInt_ofNat_of_lt (by omega)]
theorem lN_gt_toInt {x : Int32} {a : Nat} (ha : a < 2147483648) : lN a < x.toInt64 ↔ (a : Int) < x.toInt := by
  rw [Int64.lt_iff_toInt_lt, Int32.toInt_toInt64, show (lN a).toInt = (a : Int) from Int64.toInt_ofNat_of_lt (by omega)]
theorem zwi_y {x : Int32} {a b : Nat} (ha : a < 2147483648) (hb : b < 2147483648) (h1 : ¬ x.toInt64 < lN a) (h2 : ¬ lN b < x.toInt64) : ∃ k, x = nI k ∧ a ≤ k ∧ k ≤ b := by
  rw [lN_lt_toInt ha] at h1
  rw [lN_gt_toInt hb] at h2
  refine ⟨x.toInt.toNat, Int32.toInt_inj.mp ?_, by omega, by omega⟩
  rw [nI_toInt (by omega)]
  omega
theorem zwi_1 {x : Int32} {a b : Nat} (ha : a < 2147483648) (hb : b < 2147483648) (h1 : x.toInt64 < lN a) : ¬ ∃ k, x = nI k ∧ a ≤ k ∧ k ≤ b := by
  rintro ⟨k, rfl, h3, h4⟩
  rw [lN_lt_toInt ha, nI_toInt (by omega)] at h1
  omega
theorem zwi_2 {x : Int32} {a b : Nat} (ha : a < 2147483648) (hb : b < 2147483648) (h1 : lN b < x.toInt64) : ¬ ∃ k, x = nI k ∧ a ≤ k ∧ k ≤ b := by
  rintro ⟨k, rfl, h3, h4⟩
  rw [lN_gt_toInt hb, nI_toInt (by omega)] at h1
  omega
theorem zwt_y {x : Int32} (h1 : ¬ x.toInt64 < -1) (h2 : ¬ lN 4 < x.toInt64) : x = -1 ∨ ∃ k, k ≤ 4 ∧ x = nI k := by
  rw [Int64.lt_iff_toInt_lt, Int32.toInt_toInt64, show (-1 : Int64).toInt = -1 by decide] at h1
  rw [lN_gt_toInt (by decide)] at h2
  by_cases q : x.toInt = -1
  · exact Or.inl (Int32.toInt_inj.mp (q.trans (by decide)))
  · refine Or.inr ⟨x.toInt.toNat, by omega, Int32.toInt_inj.mp ?_⟩
    rw [nI_toInt (by omega)]
    omega
theorem zwt_1 {x : Int32} (h1 : x.toInt64 < -1) : ¬ (x = -1 ∨ ∃ k, k ≤ 4 ∧ x = nI k) := by
  rw [Int64.lt_iff_toInt_lt, Int32.toInt_toInt64, show (-1 : Int64).toInt = -1 by decide] at h1
  rintro (rfl | ⟨k, hk, rfl⟩)
  · exact absurd h1 (by decide)
  · rw [nI_toInt (by omega)] at h1; omega
theorem zwt_2 {x : Int32} (h1 : lN 4 < x.toInt64) : ¬ (x = -1 ∨ ∃ k, k ≤ 4 ∧ x = nI k) := by
  rw [lN_gt_toInt (by decide)] at h1
  rintro (rfl | ⟨k, hk, rfl⟩)
  · exact absurd h1 (by decide)
  · rw [nI_toInt (by omega)] at h1; omega
theorem zwm_i {m : Nat} (hm : m ≤ 1000) : (nI m - nI 1).toInt = (m : Int) - 1 := by
  rcases Nat.eq_zero_or_pos m with h | h
  · subst h; decide
  · rw [pk_sub (show 1 ≤ m by omega), nI_toInt (by omega)]; omega
theorem zwm_y {x : Int32} {m : Nat} (hm : m ≤ 1000) (h1 : ¬ x.toInt64 < lN 0) (h2 : ¬ (nI m - nI 1).toInt64 < x.toInt64) : ∃ k, x = nI k ∧ k < m := by
  rw [lN_lt_toInt (by decide)] at h1
  rw [Int64.lt_iff_toInt_lt, Int32.toInt_toInt64, Int32.toInt_toInt64, zwm_i hm] at h2
  refine ⟨x.toInt.toNat, Int32.toInt_inj.mp ?_, by omega⟩
  rw [nI_toInt (by omega)]
  omega
theorem zwm_1 {x : Int32} {m : Nat} (hm : m ≤ 1000) (h1 : x.toInt64 < lN 0) : ¬ ∃ k, x = nI k ∧ k < m := by
  rintro ⟨k, rfl, h3⟩
  rw [lN_lt_toInt (by decide), nI_toInt (by omega)] at h1
  omega
theorem zwm_2 {x : Int32} {m : Nat} (hm : m ≤ 1000) (h1 : (nI m - nI 1).toInt64 < x.toInt64) : ¬ ∃ k, x = nI k ∧ k < m := by
  rintro ⟨k, rfl, h3⟩
  rw [Int64.lt_iff_toInt_lt, Int32.toInt_toInt64, Int32.toInt_toInt64, zwm_i hm, nI_toInt (by omega)] at h1
  omega
set_option maxHeartbeats 2000000 in
set_option maxRecDepth 20000 in
theorem c_X10_withinI {lay : List zL} {I : zI} {J : zJ} {x : Int32} {a b : Nat} (ha : a < 2147483648) (hb : b < 2147483648) : zMet lay MX10_within 0 [.long x.toInt64, .long (lN a), .long (lN b)] I J (fun r I' J' => ((r = .int (nI 1) ∧ ∃ k, x = nI k ∧ a ≤ k ∧ k ≤ b) ∨ (r = .int (nI 0) ∧ ¬ ∃ k, x = nI k ∧ a ≤ k ∧ k ≤ b)) ∧ I = I' ∧ J = J') := by
  refine zMet_of (t := MX10_within) (ls := [.long x.toInt64, .null, .long (lN a), .null, .long (lN b), .null]) (by decide +kernel) (Nat.le_of_ble_eq_true rfl) rfl ?_
  refine z_lload_n (pc := 0) dX10_within_0 rfl rfl ?_
  refine z_lload_n (pc := 1) dX10_within_1 rfl rfl ?_
  refine z_lc_lt (pc := 2) (tgt := 17) dX10_within_2 rfl dX10_within_3 (by decide) (fun hb2 => ?_) (fun hb2 => ?_)
  · skip
    refine z_iconst (pc := 17) (v := nI 0) dX10_within_17 (by decide) ?_
    refine z_zret (pc := 18) dX10_within_18 rfl (by first | decide | assumption) ?_
    first
      | exact ⟨Or.inl ⟨rfl, zwi_y ha hb hb2 hb9⟩, rfl, rfl⟩
      | exact ⟨Or.inr ⟨rfl, zwi_1 ha hb hb2⟩, rfl, rfl⟩
      | exact ⟨Or.inr ⟨rfl, zwi_2 ha hb hb9⟩, rfl, rfl⟩
      | fail
  · skip
    refine z_lload_n (pc := 6) dX10_within_6 rfl rfl ?_
    refine z_lload (pc := 7) dX10_within_7 rfl ?_
    refine z_lc_gt (pc := 9) (tgt := 17) dX10_within_9 rfl dX10_within_10 (by decide) (fun hb9 => ?_) (fun hb9 => ?_)
    · skip
      refine z_iconst (pc := 17) (v := nI 0) dX10_within_17 (by decide) ?_
      refine z_zret (pc := 18) dX10_within_18 rfl (by first | decide | assumption) ?_
      first
        | exact ⟨Or.inl ⟨rfl, zwi_y ha hb hb2 hb9⟩, rfl, rfl⟩
        | exact ⟨Or.inr ⟨rfl, zwi_1 ha hb hb2⟩, rfl, rfl⟩
        | exact ⟨Or.inr ⟨rfl, zwi_2 ha hb hb9⟩, rfl, rfl⟩
        | fail
    · skip
      refine z_iconst (pc := 13) (v := nI 1) dX10_within_13 (by decide) ?_
      refine z_goto (pc := 14) (tgt := 18) dX10_within_14 (by decide) ?_
      refine z_zret (pc := 18) dX10_within_18 rfl (by first | decide | assumption) ?_
      first
        | exact ⟨Or.inl ⟨rfl, zwi_y ha hb hb2 hb9⟩, rfl, rfl⟩
        | exact ⟨Or.inr ⟨rfl, zwi_1 ha hb hb2⟩, rfl, rfl⟩
        | exact ⟨Or.inr ⟨rfl, zwi_2 ha hb hb9⟩, rfl, rfl⟩
        | fail
set_option maxHeartbeats 2000000 in
set_option maxRecDepth 20000 in
theorem c_X10_withinT {lay : List zL} {I : zI} {J : zJ} {x : Int32} : zMet lay MX10_within 0 [.long x.toInt64, .long (-1), .long (lN 4)] I J (fun r I' J' => ((r = .int (nI 1) ∧ (x = -1 ∨ ∃ k, k ≤ 4 ∧ x = nI k)) ∨ (r = .int (nI 0) ∧ ¬ (x = -1 ∨ ∃ k, k ≤ 4 ∧ x = nI k))) ∧ I = I' ∧ J = J') := by
  refine zMet_of (t := MX10_within) (ls := [.long x.toInt64, .null, .long (-1), .null, .long (lN 4), .null]) (by decide +kernel) (Nat.le_of_ble_eq_true rfl) rfl ?_
  refine z_lload_n (pc := 0) dX10_within_0 rfl rfl ?_
  refine z_lload_n (pc := 1) dX10_within_1 rfl rfl ?_
  refine z_lc_lt (pc := 2) (tgt := 17) dX10_within_2 rfl dX10_within_3 (by decide) (fun hb2 => ?_) (fun hb2 => ?_)
  · skip
    refine z_iconst (pc := 17) (v := nI 0) dX10_within_17 (by decide) ?_
    refine z_zret (pc := 18) dX10_within_18 rfl (by first | decide | assumption) ?_
    first
      | exact ⟨Or.inl ⟨rfl, zwt_y hb2 hb9⟩, rfl, rfl⟩
      | exact ⟨Or.inr ⟨rfl, zwt_1 hb2⟩, rfl, rfl⟩
      | exact ⟨Or.inr ⟨rfl, zwt_2 hb9⟩, rfl, rfl⟩
      | fail
  · skip
    refine z_lload_n (pc := 6) dX10_within_6 rfl rfl ?_
    refine z_lload (pc := 7) dX10_within_7 rfl ?_
    refine z_lc_gt (pc := 9) (tgt := 17) dX10_within_9 rfl dX10_within_10 (by decide) (fun hb9 => ?_) (fun hb9 => ?_)
    · skip
      refine z_iconst (pc := 17) (v := nI 0) dX10_within_17 (by decide) ?_
      refine z_zret (pc := 18) dX10_within_18 rfl (by first | decide | assumption) ?_
      first
        | exact ⟨Or.inl ⟨rfl, zwt_y hb2 hb9⟩, rfl, rfl⟩
        | exact ⟨Or.inr ⟨rfl, zwt_1 hb2⟩, rfl, rfl⟩
        | exact ⟨Or.inr ⟨rfl, zwt_2 hb9⟩, rfl, rfl⟩
        | fail
    · skip
      refine z_iconst (pc := 13) (v := nI 1) dX10_within_13 (by decide) ?_
      refine z_goto (pc := 14) (tgt := 18) dX10_within_14 (by decide) ?_
      refine z_zret (pc := 18) dX10_within_18 rfl (by first | decide | assumption) ?_
      first
        | exact ⟨Or.inl ⟨rfl, zwt_y hb2 hb9⟩, rfl, rfl⟩
        | exact ⟨Or.inr ⟨rfl, zwt_1 hb2⟩, rfl, rfl⟩
        | exact ⟨Or.inr ⟨rfl, zwt_2 hb9⟩, rfl, rfl⟩
        | fail
set_option maxHeartbeats 2000000 in
set_option maxRecDepth 20000 in
theorem c_X10_withinM {lay : List zL} {I : zI} {J : zJ} {x : Int32} {m : Nat} (hm : m ≤ 1000) : zMet lay MX10_within 0 [.long x.toInt64, .long (lN 0), .long (nI m - nI 1).toInt64] I J (fun r I' J' => ((r = .int (nI 1) ∧ ∃ k, x = nI k ∧ k < m) ∨ (r = .int (nI 0) ∧ ¬ ∃ k, x = nI k ∧ k < m)) ∧ I = I' ∧ J = J') := by
  refine zMet_of (t := MX10_within) (ls := [.long x.toInt64, .null, .long (lN 0), .null, .long (nI m - nI 1).toInt64, .null]) (by decide +kernel) (Nat.le_of_ble_eq_true rfl) rfl ?_
  refine z_lload_n (pc := 0) dX10_within_0 rfl rfl ?_
  refine z_lload_n (pc := 1) dX10_within_1 rfl rfl ?_
  refine z_lc_lt (pc := 2) (tgt := 17) dX10_within_2 rfl dX10_within_3 (by decide) (fun hb2 => ?_) (fun hb2 => ?_)
  · skip
    refine z_iconst (pc := 17) (v := nI 0) dX10_within_17 (by decide) ?_
    refine z_zret (pc := 18) dX10_within_18 rfl (by first | decide | assumption) ?_
    first
      | exact ⟨Or.inl ⟨rfl, zwm_y hm hb2 hb9⟩, rfl, rfl⟩
      | exact ⟨Or.inr ⟨rfl, zwm_1 hm hb2⟩, rfl, rfl⟩
      | exact ⟨Or.inr ⟨rfl, zwm_2 hm hb9⟩, rfl, rfl⟩
      | fail
  · skip
    refine z_lload_n (pc := 6) dX10_within_6 rfl rfl ?_
    refine z_lload (pc := 7) dX10_within_7 rfl ?_
    refine z_lc_gt (pc := 9) (tgt := 17) dX10_within_9 rfl dX10_within_10 (by decide) (fun hb9 => ?_) (fun hb9 => ?_)
    · skip
      refine z_iconst (pc := 17) (v := nI 0) dX10_within_17 (by decide) ?_
      refine z_zret (pc := 18) dX10_within_18 rfl (by first | decide | assumption) ?_
      first
        | exact ⟨Or.inl ⟨rfl, zwm_y hm hb2 hb9⟩, rfl, rfl⟩
        | exact ⟨Or.inr ⟨rfl, zwm_1 hm hb2⟩, rfl, rfl⟩
        | exact ⟨Or.inr ⟨rfl, zwm_2 hm hb9⟩, rfl, rfl⟩
        | fail
    · skip
      refine z_iconst (pc := 13) (v := nI 1) dX10_within_13 (by decide) ?_
      refine z_goto (pc := 14) (tgt := 18) dX10_within_14 (by decide) ?_
      refine z_zret (pc := 18) dX10_within_18 rfl (by first | decide | assumption) ?_
      first
        | exact ⟨Or.inl ⟨rfl, zwm_y hm hb2 hb9⟩, rfl, rfl⟩
        | exact ⟨Or.inr ⟨rfl, zwm_1 hm hb2⟩, rfl, rfl⟩
        | exact ⟨Or.inr ⟨rfl, zwm_2 hm hb9⟩, rfl, rfl⟩
        | fail
set_option maxHeartbeats 2000000 in
set_option maxRecDepth 20000 in
theorem c_X10_withinN {lay : List zL} {I : zI} {J : zJ} {x a b : Nat} (hx : x < 2147483648) (ha : a < 2147483648) (hb : b < 2147483648) : zMet lay MX10_within 0 [.long (lN x), .long (lN a), .long (lN b)] I J (fun r I' J' => ((r = .int (nI 1) ∧ a ≤ x ∧ x ≤ b) ∨ (r = .int (nI 0) ∧ ¬ (a ≤ x ∧ x ≤ b))) ∧ I = I' ∧ J = J') := by
  refine zMet_of (t := MX10_within) (ls := [.long (lN x), .null, .long (lN a), .null, .long (lN b), .null]) (by decide +kernel) (Nat.le_of_ble_eq_true rfl) rfl ?_
  refine z_lload_n (pc := 0) dX10_within_0 rfl rfl ?_
  refine z_lload_n (pc := 1) dX10_within_1 rfl rfl ?_
  first | refine z_lc_ltN (pc := 2) (tgt := 17) (by with_reducible rfl) (by with_reducible rfl) dX10_within_2 rfl dX10_within_3 (by decide) (by omega) (by omega) (fun hb2 => ?_) (fun hb2 => ?_) | refine z_lc_lt (pc := 2) (tgt := 17) dX10_within_2 rfl dX10_within_3 (by decide) (fun hb2 => ?_) (fun hb2 => ?_)
  · skip
    refine z_iconst (pc := 17) (v := nI 0) dX10_within_17 (by decide) ?_
    refine z_zret (pc := 18) dX10_within_18 rfl (by first | decide | assumption) ?_
    first
      | exact ⟨Or.inl ⟨rfl, by omega, by omega⟩, rfl, rfl⟩
      | exact ⟨Or.inr ⟨rfl, by omega⟩, rfl, rfl⟩
      | fail
  · skip
    refine z_lload_n (pc := 6) dX10_within_6 rfl rfl ?_
    refine z_lload (pc := 7) dX10_within_7 rfl ?_
    first | refine z_lc_gtN (pc := 9) (tgt := 17) (by with_reducible rfl) (by with_reducible rfl) dX10_within_9 rfl dX10_within_10 (by decide) (by omega) (by omega) (fun hb9 => ?_) (fun hb9 => ?_) | refine z_lc_gt (pc := 9) (tgt := 17) dX10_within_9 rfl dX10_within_10 (by decide) (fun hb9 => ?_) (fun hb9 => ?_)
    · skip
      refine z_iconst (pc := 17) (v := nI 0) dX10_within_17 (by decide) ?_
      refine z_zret (pc := 18) dX10_within_18 rfl (by first | decide | assumption) ?_
      first
        | exact ⟨Or.inl ⟨rfl, by omega, by omega⟩, rfl, rfl⟩
        | exact ⟨Or.inr ⟨rfl, by omega⟩, rfl, rfl⟩
        | fail
    · skip
      refine z_iconst (pc := 13) (v := nI 1) dX10_within_13 (by decide) ?_
      refine z_goto (pc := 14) (tgt := 18) dX10_within_14 (by decide) ?_
      refine z_zret (pc := 18) dX10_within_18 rfl (by first | decide | assumption) ?_
      first
        | exact ⟨Or.inl ⟨rfl, by omega, by omega⟩, rfl, rfl⟩
        | exact ⟨Or.inr ⟨rfl, by omega⟩, rfl, rfl⟩
        | fail
theorem zp01_n {p : Int32} (h0 : p ≠ nI 0) (h1 : p ≠ nI 1) : ¬ isR 1 p := by
  rintro ⟨a, rfl, ha⟩
  rcases (show a = 0 ∨ a = 1 by omega) with rfl | rfl
  · exact h0 rfl
  · exact h1 rfl
set_option maxHeartbeats 2000000 in
set_option maxRecDepth 20000 in
theorem c_X10_isPart {lay : List zL} {I : zI} {J : zJ} {p : Int32} : zMet lay MX10_isPart 0 [.int p] I J (fun r I' J' => ((r = .int (nI 1) ∧ (p = nI 0 ∨ p = nI 1)) ∨ (r = .int (nI 0) ∧ p ≠ nI 0 ∧ p ≠ nI 1)) ∧ I = I' ∧ J = J') := by
  refine zMet_of (t := MX10_isPart) (ls := [.int p]) (by decide +kernel) (Nat.le_of_ble_eq_true rfl) rfl ?_
  refine z_iload_n (pc := 0) dX10_isPart_0 rfl rfl ?_
  refine z_if_eq (pc := 1) (tgt := 9) dX10_isPart_1 (by decide) (fun hb1 => ?_) (fun hb1 => ?_)
  · skip
    refine z_iconst (pc := 9) (v := nI 1) dX10_isPart_9 (by decide) ?_
    refine z_goto (pc := 10) (tgt := 14) dX10_isPart_10 (by decide) ?_
    refine z_zret (pc := 14) dX10_isPart_14 rfl (by first | decide | assumption) ?_
    first
      | exact ⟨Or.inl ⟨rfl, Or.inl hb1⟩, rfl, rfl⟩
      | exact ⟨Or.inl ⟨rfl, Or.inr hb6⟩, rfl, rfl⟩
      | exact ⟨Or.inl ⟨rfl, Or.inr (Decidable.not_not.mp hb6)⟩, rfl, rfl⟩
      | exact ⟨Or.inr ⟨rfl, hb1, hb6⟩, rfl, rfl⟩
      | fail
  · skip
    refine z_iload_n (pc := 4) dX10_isPart_4 rfl rfl ?_
    refine z_iconst (pc := 5) (v := nI 1) dX10_isPart_5 (by decide) ?_
    refine z_icmp_ne (pc := 6) (tgt := 13) dX10_isPart_6 (by decide) (fun hb6 => ?_) (fun hb6 => ?_)
    · skip
      refine z_iconst (pc := 13) (v := nI 0) dX10_isPart_13 (by decide) ?_
      refine z_zret (pc := 14) dX10_isPart_14 rfl (by first | decide | assumption) ?_
      first
        | exact ⟨Or.inl ⟨rfl, Or.inl hb1⟩, rfl, rfl⟩
        | exact ⟨Or.inl ⟨rfl, Or.inr hb6⟩, rfl, rfl⟩
        | exact ⟨Or.inl ⟨rfl, Or.inr (Decidable.not_not.mp hb6)⟩, rfl, rfl⟩
        | exact ⟨Or.inr ⟨rfl, hb1, hb6⟩, rfl, rfl⟩
        | fail
    · skip
      refine z_iconst (pc := 9) (v := nI 1) dX10_isPart_9 (by decide) ?_
      refine z_goto (pc := 10) (tgt := 14) dX10_isPart_10 (by decide) ?_
      refine z_zret (pc := 14) dX10_isPart_14 rfl (by first | decide | assumption) ?_
      first
        | exact ⟨Or.inl ⟨rfl, Or.inl hb1⟩, rfl, rfl⟩
        | exact ⟨Or.inl ⟨rfl, Or.inr hb6⟩, rfl, rfl⟩
        | exact ⟨Or.inl ⟨rfl, Or.inr (Decidable.not_not.mp hb6)⟩, rfl, rfl⟩
        | exact ⟨Or.inr ⟨rfl, hb1, hb6⟩, rfl, rfl⟩
        | fail
set_option maxHeartbeats 2000000 in
set_option maxRecDepth 20000 in
theorem c_X10_isCell {lay : List zL} {I : zI} {J : zJ} {n : Nat → Nat} (hM : kM lay) (hW : vW I n) (hB : bS n) {i j : Int32} : zMet lay MX10_isCell 1 [.ref 79, .int i, .int j] I J (fun r I' J' => ((r = .int (nI 1) ∧ isC (n 0) (n 1) i j) ∨ (r = .int (nI 0) ∧ ¬ isC (n 0) (n 1) i j)) ∧ I = I' ∧ J = J') := by
  refine zMet_of (t := MX10_isCell) (ls := [.ref 79, .int i, .int j]) (by decide +kernel) (Nat.le_of_ble_eq_true rfl) rfl ?_
  obtain ⟨mo, m80, m81, m82, m83, m84, m85, m86, m87, m88, m89, m90, m91, m92, m93, m94, m95, m96⟩ := id hM
  have hwv := hW
  obtain ⟨b1, b2, b3, b4, b5, b6, b7, b8⟩ := id hB
  refine z_iload_n (pc := 0) dX10_isCell_0 rfl rfl ?_
  first | refine z_i2lN (pc := 1) (by with_reducible rfl) dX10_isCell_1 (by omega) ?_ | refine z_i2l (pc := 1) dX10_isCell_1 rfl ?_
  refine z_lconst (pc := 2) (v := lN 0) dX10_isCell_2 rfl ?_
  refine z_aload_n (pc := 3) dX10_isCell_3 rfl rfl ?_
  refine z_getR (pc := 4) dX10_isCell_4 f_RX10_11 (by assumption) rfl ?_
  refine z_iconst (pc := 7) (v := nI 0) dX10_isCell_7 (by decide) ?_
  refine z_ialoadv (pc := 8) dX10_isCell_8 (by assumption) (by with_reducible rfl) (by omega) (by decide) (by first | assumption | exact hW _ (by omega) | rfl) ?_
  refine z_iconst (pc := 9) (v := nI 1) dX10_isCell_9 (by decide) ?_
  first | refine z_isubN (pc := 10) (by with_reducible rfl) (by with_reducible rfl) dX10_isCell_10 (by omega) ?_ | refine z_isub (pc := 10) dX10_isCell_10 ?_
  first | refine z_i2lN (pc := 11) (by with_reducible rfl) dX10_isCell_11 (by omega) ?_ | refine z_i2l (pc := 11) dX10_isCell_11 rfl ?_
  refine z_callS (pc := 12) (c_X10_withinI (by omega) (by omega)) dX10_isCell_12 l_RX10_68 m_MX10_within s_MX10_within rfl (by omega) rfl (Nat.le_of_ble_eq_true rfl) ?_
  rintro _ _ _ ⟨⟨rfl, hc1⟩ | ⟨rfl, hc1⟩, rfl, rfl⟩
  · skip
    try dsimp only [zov, Option.toList, List.cons_append, List.nil_append]
    first | refine z_if_eqN (pc := 15) (tgt := 40) (by with_reducible rfl) dX10_isCell_15 (by decide) (by omega) (fun hb15 => absurd hb15 (by decide)) (fun hb15 => ?_) | refine z_if_eq (pc := 15) (tgt := 40) dX10_isCell_15 (by decide) (fun hb15 => absurd hb15 (by decide)) (fun hb15 => ?_)
    · skip
      refine z_iload_n (pc := 18) dX10_isCell_18 rfl rfl ?_
      first | refine z_i2lN (pc := 19) (by with_reducible rfl) dX10_isCell_19 (by omega) ?_ | refine z_i2l (pc := 19) dX10_isCell_19 rfl ?_
      refine z_lconst (pc := 20) (v := lN 0) dX10_isCell_20 rfl ?_
      refine z_aload_n (pc := 21) dX10_isCell_21 rfl rfl ?_
      refine z_getR (pc := 22) dX10_isCell_22 f_RX10_11 (by assumption) rfl ?_
      refine z_iconst (pc := 25) (v := nI 1) dX10_isCell_25 (by decide) ?_
      refine z_ialoadv (pc := 26) dX10_isCell_26 (by assumption) (by with_reducible rfl) (by omega) (by decide) (by first | assumption | exact hW _ (by omega) | rfl) ?_
      refine z_iconst (pc := 27) (v := nI 1) dX10_isCell_27 (by decide) ?_
      first | refine z_isubN (pc := 28) (by with_reducible rfl) (by with_reducible rfl) dX10_isCell_28 (by omega) ?_ | refine z_isub (pc := 28) dX10_isCell_28 ?_
      first | refine z_i2lN (pc := 29) (by with_reducible rfl) dX10_isCell_29 (by omega) ?_ | refine z_i2l (pc := 29) dX10_isCell_29 rfl ?_
      refine z_callS (pc := 30) (c_X10_withinI (by omega) (by omega)) dX10_isCell_30 l_RX10_68 m_MX10_within s_MX10_within rfl (by omega) rfl (Nat.le_of_ble_eq_true rfl) ?_
      rintro _ _ _ ⟨⟨rfl, hc2⟩ | ⟨rfl, hc2⟩, rfl, rfl⟩
      · skip
        try dsimp only [zov, Option.toList, List.cons_append, List.nil_append]
        first | refine z_if_eqN (pc := 33) (tgt := 40) (by with_reducible rfl) dX10_isCell_33 (by decide) (by omega) (fun hb33 => absurd hb33 (by decide)) (fun hb33 => ?_) | refine z_if_eq (pc := 33) (tgt := 40) dX10_isCell_33 (by decide) (fun hb33 => absurd hb33 (by decide)) (fun hb33 => ?_)
        · skip
          refine z_iconst (pc := 36) (v := nI 1) dX10_isCell_36 (by decide) ?_
          refine z_goto (pc := 37) (tgt := 41) dX10_isCell_37 (by decide) ?_
          refine z_zret (pc := 41) dX10_isCell_41 rfl (by first | decide | assumption) ?_
          first
            | (obtain ⟨a, rfl, q1, q2⟩ := hc1
               obtain ⟨b, rfl, q3, q4⟩ := hc2
               exact ⟨Or.inl ⟨rfl, a, b, rfl, rfl, by omega, by omega⟩, rfl, rfl⟩)
            | exact ⟨Or.inr ⟨rfl, fun ⟨a, b, e1, e2, q1, q2⟩ => hc1 ⟨a, e1, by omega, by omega⟩⟩, rfl, rfl⟩
            | exact ⟨Or.inr ⟨rfl, fun ⟨a, b, e1, e2, q1, q2⟩ => hc2 ⟨b, e2, by omega, by omega⟩⟩, rfl, rfl⟩
            | fail
      · skip
        try dsimp only [zov, Option.toList, List.cons_append, List.nil_append]
        first | refine z_if_eqN (pc := 33) (tgt := 40) (by with_reducible rfl) dX10_isCell_33 (by decide) (by omega) (fun hb33 => ?_) (fun hb33 => absurd hb33 (by decide)) | refine z_if_eq (pc := 33) (tgt := 40) dX10_isCell_33 (by decide) (fun hb33 => ?_) (fun hb33 => absurd hb33 (by decide))
        · skip
          refine z_iconst (pc := 40) (v := nI 0) dX10_isCell_40 (by decide) ?_
          refine z_zret (pc := 41) dX10_isCell_41 rfl (by first | decide | assumption) ?_
          first
            | (obtain ⟨a, rfl, q1, q2⟩ := hc1
               obtain ⟨b, rfl, q3, q4⟩ := hc2
               exact ⟨Or.inl ⟨rfl, a, b, rfl, rfl, by omega, by omega⟩, rfl, rfl⟩)
            | exact ⟨Or.inr ⟨rfl, fun ⟨a, b, e1, e2, q1, q2⟩ => hc1 ⟨a, e1, by omega, by omega⟩⟩, rfl, rfl⟩
            | exact ⟨Or.inr ⟨rfl, fun ⟨a, b, e1, e2, q1, q2⟩ => hc2 ⟨b, e2, by omega, by omega⟩⟩, rfl, rfl⟩
            | fail
  · skip
    try dsimp only [zov, Option.toList, List.cons_append, List.nil_append]
    first | refine z_if_eqN (pc := 15) (tgt := 40) (by with_reducible rfl) dX10_isCell_15 (by decide) (by omega) (fun hb15 => ?_) (fun hb15 => absurd hb15 (by decide)) | refine z_if_eq (pc := 15) (tgt := 40) dX10_isCell_15 (by decide) (fun hb15 => ?_) (fun hb15 => absurd hb15 (by decide))
    · skip
      refine z_iconst (pc := 40) (v := nI 0) dX10_isCell_40 (by decide) ?_
      refine z_zret (pc := 41) dX10_isCell_41 rfl (by first | decide | assumption) ?_
      first
        | (obtain ⟨a, rfl, q1, q2⟩ := hc1
           obtain ⟨b, rfl, q3, q4⟩ := hc2
           exact ⟨Or.inl ⟨rfl, a, b, rfl, rfl, by omega, by omega⟩, rfl, rfl⟩)
        | exact ⟨Or.inr ⟨rfl, fun ⟨a, b, e1, e2, q1, q2⟩ => hc1 ⟨a, e1, by omega, by omega⟩⟩, rfl, rfl⟩
        | exact ⟨Or.inr ⟨rfl, fun ⟨a, b, e1, e2, q1, q2⟩ => hc2 ⟨b, e2, by omega, by omega⟩⟩, rfl, rfl⟩
        | fail
theorem isC_N {r c a b : Nat} (hr : r ≤ 3) (hc : c ≤ 3) (ha : a < 2147483648) (hb : b < 2147483648) : isC r c (nI a) (nI b) ↔ a < r ∧ b < c := by
  constructor
  · rintro ⟨a', b', e1, e2, h1, h2⟩
    have e3 := nI_inj ha (by omega) e1
    have e4 := nI_inj hb (by omega) e2
    subst e3; subst e4
    exact ⟨h1, h2⟩
  · rintro ⟨h1, h2⟩
    exact ⟨a, b, rfl, rfl, h1, h2⟩
set_option maxHeartbeats 2000000 in
set_option maxRecDepth 20000 in
theorem c_X10_isHere {lay : List zL} {I : zI} {J : zJ} {n : Nat → Nat} (hM : kM lay) (hW : vW I n) (hB : bS n) {k : Nat} (hk : k < 9) : zMet lay MX10_isHere 2 [.ref 79, .int (nI k)] I J (fun r I' J' => ((r = .int (nI 1) ∧ (k / 3 < n 0 ∧ k % 3 < n 1)) ∨ (r = .int (nI 0) ∧ ¬ (k / 3 < n 0 ∧ k % 3 < n 1))) ∧ I = I' ∧ J = J') := by
  refine zMet_of (t := MX10_isHere) (ls := [.ref 79, .int (nI k)]) (by decide +kernel) (Nat.le_of_ble_eq_true rfl) rfl ?_
  obtain ⟨mo, m80, m81, m82, m83, m84, m85, m86, m87, m88, m89, m90, m91, m92, m93, m94, m95, m96⟩ := id hM
  have hwv := hW
  obtain ⟨b1, b2, b3, b4, b5, b6, b7, b8⟩ := id hB
  refine z_aload_n (pc := 0) dX10_isHere_0 rfl rfl ?_
  refine z_iload_n (pc := 1) dX10_isHere_1 rfl rfl ?_
  refine z_iconst (pc := 2) (v := nI 3) dX10_isHere_2 (by decide) ?_
  refine z_idivN (pc := 3) (by with_reducible rfl) (by with_reducible rfl) dX10_isHere_3 (by omega) (by omega) (by omega) ?_
  refine z_iload_n (pc := 4) dX10_isHere_4 rfl rfl ?_
  refine z_iconst (pc := 5) (v := nI 3) dX10_isHere_5 (by decide) ?_
  refine z_iremN (pc := 6) (by with_reducible rfl) (by with_reducible rfl) dX10_isHere_6 (by omega) (by omega) (by omega) ?_
  refine z_callV (pc := 7) (c_X10_isCell hM hW hB) dX10_isHere_7 l_RX10_72 m_MX10_isCell n_MX10_isCell e_MX10_isCell rfl (by omega) (by assumption) rfl rfl (Nat.le_of_ble_eq_true rfl) ?_
  rintro _ _ _ ⟨⟨rfl, hc⟩ | ⟨rfl, hc⟩, rfl, rfl⟩
  · rw [isC_N b2 b4 (by omega) (by omega)] at hc
    try dsimp only [zov, Option.toList, List.cons_append, List.nil_append]
    refine z_zret (pc := 10) dX10_isHere_10 rfl (by first | decide | assumption) ?_
    first
      | exact ⟨Or.inl ⟨rfl, hc⟩, rfl, rfl⟩
      | exact ⟨Or.inr ⟨rfl, hc⟩, rfl, rfl⟩
  · rw [isC_N b2 b4 (by omega) (by omega)] at hc
    try dsimp only [zov, Option.toList, List.cons_append, List.nil_append]
    refine z_zret (pc := 10) dX10_isHere_10 rfl (by first | decide | assumption) ?_
    first
      | exact ⟨Or.inl ⟨rfl, hc⟩, rfl, rfl⟩
      | exact ⟨Or.inr ⟨rfl, hc⟩, rfl, rfl⟩
set_option maxHeartbeats 2000000 in
set_option maxRecDepth 20000 in
theorem c_X10_linesOf {lay : List zL} {I : zI} {J : zJ} {n : Nat → Nat} (hM : kM lay) (hW : vW I n) (hB : bS n) {w : Nat} (hw : w ≤ 2) : zMet lay MX10_linesOf 0 [.ref 79, .int (nI w)] I J (fun r I' J' => r = .int (nI (zlines (n 0) (n 1) w)) ∧ I = I' ∧ J = J') := by
  refine zMet_of (t := MX10_linesOf) (ls := [.ref 79, .int (nI w)]) (by decide +kernel) (Nat.le_of_ble_eq_true rfl) rfl ?_
  obtain ⟨mo, m80, m81, m82, m83, m84, m85, m86, m87, m88, m89, m90, m91, m92, m93, m94, m95, m96⟩ := id hM
  have hwv := hW
  obtain ⟨b1, b2, b3, b4, b5, b6, b7, b8⟩ := id hB
  refine z_iload_n (pc := 0) dX10_linesOf_0 rfl rfl ?_
  first | refine z_if_neN (pc := 1) (tgt := 13) (by with_reducible rfl) dX10_linesOf_1 (by decide) (by omega) (fun hb1 => ?_) (fun hb1 => ?_) | refine z_if_ne (pc := 1) (tgt := 13) dX10_linesOf_1 (by decide) (fun hb1 => ?_) (fun hb1 => ?_)
  · skip
    refine z_iload_n (pc := 13) dX10_linesOf_13 rfl rfl ?_
    refine z_iconst (pc := 14) (v := nI 1) dX10_linesOf_14 (by decide) ?_
    first | refine z_icmp_neN (pc := 15) (tgt := 27) (by with_reducible rfl) (by with_reducible rfl) dX10_linesOf_15 (by decide) (by omega) (by omega) (fun hb15 => ?_) (fun hb15 => ?_) | refine z_icmp_ne (pc := 15) (tgt := 27) dX10_linesOf_15 (by decide) (fun hb15 => ?_) (fun hb15 => ?_)
    · skip
      refine z_iconst (pc := 27) (v := nI 3) dX10_linesOf_27 (by decide) ?_
      refine z_iret (pc := 28) dX10_linesOf_28 rfl ?_
      refine ⟨?_, rfl, rfl⟩
      unfold zlines
      first
      | (rw [if_pos (show w = 0 by omega)]; done)
      | (rw [if_neg (show ¬ w = 0 by omega), if_pos (show w = 1 by omega)]; done)
      | (rw [if_neg (show ¬ w = 0 by omega), if_neg (show ¬ w = 1 by omega)]; done)
      | fail
    · skip
      refine z_aload_n (pc := 18) dX10_linesOf_18 rfl rfl ?_
      refine z_getR (pc := 19) dX10_linesOf_19 f_RX10_11 (by assumption) rfl ?_
      refine z_iconst (pc := 22) (v := nI 1) dX10_linesOf_22 (by decide) ?_
      refine z_ialoadv (pc := 23) dX10_linesOf_23 (by assumption) (by with_reducible rfl) (by omega) (by decide) (by first | assumption | exact hW _ (by omega) | rfl) ?_
      refine z_goto (pc := 24) (tgt := 28) dX10_linesOf_24 (by decide) ?_
      refine z_iret (pc := 28) dX10_linesOf_28 rfl ?_
      refine ⟨?_, rfl, rfl⟩
      unfold zlines
      first
      | (rw [if_pos (show w = 0 by omega)]; done)
      | (rw [if_neg (show ¬ w = 0 by omega), if_pos (show w = 1 by omega)]; done)
      | (rw [if_neg (show ¬ w = 0 by omega), if_neg (show ¬ w = 1 by omega)]; done)
      | fail
  · skip
    refine z_aload_n (pc := 4) dX10_linesOf_4 rfl rfl ?_
    refine z_getR (pc := 5) dX10_linesOf_5 f_RX10_11 (by assumption) rfl ?_
    refine z_iconst (pc := 8) (v := nI 0) dX10_linesOf_8 (by decide) ?_
    refine z_ialoadv (pc := 9) dX10_linesOf_9 (by assumption) (by with_reducible rfl) (by omega) (by decide) (by first | assumption | exact hW _ (by omega) | rfl) ?_
    refine z_goto (pc := 10) (tgt := 28) dX10_linesOf_10 (by decide) ?_
    refine z_iret (pc := 28) dX10_linesOf_28 rfl ?_
    refine ⟨?_, rfl, rfl⟩
    unfold zlines
    first
    | (rw [if_pos (show w = 0 by omega)]; done)
    | (rw [if_neg (show ¬ w = 0 by omega), if_pos (show w = 1 by omega)]; done)
    | (rw [if_neg (show ¬ w = 0 by omega), if_neg (show ¬ w = 1 by omega)]; done)
    | fail
set_option maxHeartbeats 2000000 in
set_option maxRecDepth 20000 in
theorem c_X10_isLine {lay : List zL} {I : zI} {J : zJ} {n : Nat → Nat} (hM : kM lay) (hW : vW I n) (hB : bS n) {w l : Int32} : zMet lay MX10_isLine 1 [.ref 79, .int w, .int l] I J (fun r I' J' => ((r = .int (nI 1) ∧ isLn (n 0) (n 1) w l) ∨ (r = .int (nI 0) ∧ ¬ isLn (n 0) (n 1) w l)) ∧ I = I' ∧ J = J') := by
  refine zMet_of (t := MX10_isLine) (ls := [.ref 79, .int w, .int l]) (by decide +kernel) (Nat.le_of_ble_eq_true rfl) rfl ?_
  obtain ⟨mo, m80, m81, m82, m83, m84, m85, m86, m87, m88, m89, m90, m91, m92, m93, m94, m95, m96⟩ := id hM
  have hwv := hW
  obtain ⟨b1, b2, b3, b4, b5, b6, b7, b8⟩ := id hB
  refine z_iload_n (pc := 0) dX10_isLine_0 rfl rfl ?_
  first | refine z_i2lN (pc := 1) (by with_reducible rfl) dX10_isLine_1 (by omega) ?_ | refine z_i2l (pc := 1) dX10_isLine_1 rfl ?_
  refine z_lconst (pc := 2) (v := lN 0) dX10_isLine_2 rfl ?_
  refine z_ldc2 (pc := 3) (v := lN 2) dX10_isLine_3 q_RX10_76 ?_
  refine z_callS (pc := 6) (c_X10_withinI (by omega) (by omega)) dX10_isLine_6 l_RX10_68 m_MX10_within s_MX10_within rfl (by omega) rfl (Nat.le_of_ble_eq_true rfl) ?_
  rintro _ _ _ ⟨⟨rfl, hc1⟩ | ⟨rfl, hc1⟩, rfl, rfl⟩
  · obtain ⟨a, rfl, q1, q2⟩ := hc1; have hz := zlines_le (w := a) b2 b4; have hz1 : 1 ≤ zlines (n 0) (n 1) a := (by unfold zlines; split; omega; split <;> omega)
    try dsimp only [zov, Option.toList, List.cons_append, List.nil_append]
    first | refine z_if_eqN (pc := 9) (tgt := 33) (by with_reducible rfl) dX10_isLine_9 (by decide) (by omega) (fun hb9 => absurd hb9 (by decide)) (fun hb9 => ?_) | refine z_if_eq (pc := 9) (tgt := 33) dX10_isLine_9 (by decide) (fun hb9 => absurd hb9 (by decide)) (fun hb9 => ?_)
    · skip
      refine z_iload_n (pc := 12) dX10_isLine_12 rfl rfl ?_
      first | refine z_i2lN (pc := 13) (by with_reducible rfl) dX10_isLine_13 (by omega) ?_ | refine z_i2l (pc := 13) dX10_isLine_13 rfl ?_
      refine z_lconst (pc := 14) (v := lN 0) dX10_isLine_14 rfl ?_
      refine z_aload_n (pc := 15) dX10_isLine_15 rfl rfl ?_
      refine z_iload_n (pc := 16) dX10_isLine_16 rfl rfl ?_
      refine z_callV (pc := 17) (c_X10_linesOf hM hW hB (by omega)) dX10_isLine_17 l_RX10_78 m_MX10_linesOf n_MX10_linesOf e_MX10_linesOf rfl (by omega) (by assumption) rfl rfl (Nat.le_of_ble_eq_true rfl) ?_
      rintro _ _ _ (⟨rfl, rfl, rfl⟩)
      try dsimp only [zov, Option.toList, List.cons_append, List.nil_append]
      refine z_iconst (pc := 20) (v := nI 1) dX10_isLine_20 (by decide) ?_
      first | refine z_isubN (pc := 21) (by with_reducible rfl) (by with_reducible rfl) dX10_isLine_21 (by omega) ?_ | refine z_isub (pc := 21) dX10_isLine_21 ?_
      first | refine z_i2lN (pc := 22) (by with_reducible rfl) dX10_isLine_22 (by omega) ?_ | refine z_i2l (pc := 22) dX10_isLine_22 rfl ?_
      refine z_callS (pc := 23) (c_X10_withinI (by omega) (by omega)) dX10_isLine_23 l_RX10_68 m_MX10_within s_MX10_within rfl (by omega) rfl (Nat.le_of_ble_eq_true rfl) ?_
      rintro _ _ _ ⟨⟨rfl, hc2⟩ | ⟨rfl, hc2⟩, rfl, rfl⟩
      · skip
        try dsimp only [zov, Option.toList, List.cons_append, List.nil_append]
        first | refine z_if_eqN (pc := 26) (tgt := 33) (by with_reducible rfl) dX10_isLine_26 (by decide) (by omega) (fun hb26 => absurd hb26 (by decide)) (fun hb26 => ?_) | refine z_if_eq (pc := 26) (tgt := 33) dX10_isLine_26 (by decide) (fun hb26 => absurd hb26 (by decide)) (fun hb26 => ?_)
        · skip
          refine z_iconst (pc := 29) (v := nI 1) dX10_isLine_29 (by decide) ?_
          refine z_goto (pc := 30) (tgt := 34) dX10_isLine_30 (by decide) ?_
          refine z_zret (pc := 34) dX10_isLine_34 rfl (by first | decide | assumption) ?_
          first
            | (obtain ⟨b, rfl, q3, q4⟩ := hc2
               exact ⟨Or.inl ⟨rfl, a, b, rfl, rfl, by omega, by omega⟩, rfl, rfl⟩)
            | exact ⟨Or.inr ⟨rfl, fun ⟨a, b, e1, e2, q1, q2⟩ => hc1 ⟨a, e1, by omega, by omega⟩⟩, rfl, rfl⟩
            | exact ⟨Or.inr ⟨rfl, fun ⟨a', b, e1, e2, q1', q2'⟩ => hc2 ⟨b, e2, by omega, by have e3 := nI_inj (by omega) (by omega) e1; subst e3; omega⟩⟩, rfl, rfl⟩
            | fail
      · skip
        try dsimp only [zov, Option.toList, List.cons_append, List.nil_append]
        first | refine z_if_eqN (pc := 26) (tgt := 33) (by with_reducible rfl) dX10_isLine_26 (by decide) (by omega) (fun hb26 => ?_) (fun hb26 => absurd hb26 (by decide)) | refine z_if_eq (pc := 26) (tgt := 33) dX10_isLine_26 (by decide) (fun hb26 => ?_) (fun hb26 => absurd hb26 (by decide))
        · skip
          refine z_iconst (pc := 33) (v := nI 0) dX10_isLine_33 (by decide) ?_
          refine z_zret (pc := 34) dX10_isLine_34 rfl (by first | decide | assumption) ?_
          first
            | (obtain ⟨b, rfl, q3, q4⟩ := hc2
               exact ⟨Or.inl ⟨rfl, a, b, rfl, rfl, by omega, by omega⟩, rfl, rfl⟩)
            | exact ⟨Or.inr ⟨rfl, fun ⟨a, b, e1, e2, q1, q2⟩ => hc1 ⟨a, e1, by omega, by omega⟩⟩, rfl, rfl⟩
            | exact ⟨Or.inr ⟨rfl, fun ⟨a', b, e1, e2, q1', q2'⟩ => hc2 ⟨b, e2, by omega, by have e3 := nI_inj (by omega) (by omega) e1; subst e3; omega⟩⟩, rfl, rfl⟩
            | fail
  · skip
    try dsimp only [zov, Option.toList, List.cons_append, List.nil_append]
    first | refine z_if_eqN (pc := 9) (tgt := 33) (by with_reducible rfl) dX10_isLine_9 (by decide) (by omega) (fun hb9 => ?_) (fun hb9 => absurd hb9 (by decide)) | refine z_if_eq (pc := 9) (tgt := 33) dX10_isLine_9 (by decide) (fun hb9 => ?_) (fun hb9 => absurd hb9 (by decide))
    · skip
      refine z_iconst (pc := 33) (v := nI 0) dX10_isLine_33 (by decide) ?_
      refine z_zret (pc := 34) dX10_isLine_34 rfl (by first | decide | assumption) ?_
      first
        | (obtain ⟨b, rfl, q3, q4⟩ := hc2
           exact ⟨Or.inl ⟨rfl, a, b, rfl, rfl, by omega, by omega⟩, rfl, rfl⟩)
        | exact ⟨Or.inr ⟨rfl, fun ⟨a, b, e1, e2, q1, q2⟩ => hc1 ⟨a, e1, by omega, by omega⟩⟩, rfl, rfl⟩
        | exact ⟨Or.inr ⟨rfl, fun ⟨a', b, e1, e2, q1', q2'⟩ => hc2 ⟨b, e2, by omega, by have e3 := nI_inj (by omega) (by omega) e1; subst e3; omega⟩⟩, rfl, rfl⟩
        | fail
theorem zP_0 {n : Nat → Nat} {l k : Nat} : zP n 0 l k = decide (k / 3 = l) := rfl
theorem zP_1 {n : Nat → Nat} {l k : Nat} : zP n 1 l k = decide (k % 3 = l) := rfl
theorem zP_2 {n : Nat → Nat} {w l k : Nat} (h0 : ¬ w = 0) (h1 : ¬ w = 1) : zP n w l k = decide (n (16 + k) = l) := by
  unfold zP zline
  rw [if_neg h0, if_neg h1]
theorem zPy0 {n : Nat → Nat} {w l k : Nat} (h : w = 0) (e : k / 3 = l) : zP n w l k = true := by subst h; exact decide_eq_true e
theorem zPn0 {n : Nat → Nat} {w l k : Nat} (h : w = 0) (e : ¬ k / 3 = l) : ¬ zP n w l k = true := by subst h; exact fun q => e (of_decide_eq_true q)
theorem zPy1 {n : Nat → Nat} {w l k : Nat} (h : w = 1) (e : k % 3 = l) : zP n w l k = true := by subst h; exact decide_eq_true e
theorem zPn1 {n : Nat → Nat} {w l k : Nat} (h : w = 1) (e : ¬ k % 3 = l) : ¬ zP n w l k = true := by subst h; exact fun q => e (of_decide_eq_true q)
theorem zPy2 {n : Nat → Nat} {w l k : Nat} (h0 : ¬ w = 0) (h1 : ¬ w = 1) (e : n (16 + k) = l) : zP n w l k = true := by rw [zP_2 h0 h1]; exact decide_eq_true e
theorem zPn2 {n : Nat → Nat} {w l k : Nat} (h0 : ¬ w = 0) (h1 : ¬ w = 1) (e : ¬ n (16 + k) = l) : ¬ zP n w l k = true := by rw [zP_2 h0 h1]; exact fun q => e (of_decide_eq_true q)
set_option maxHeartbeats 2000000 in
set_option maxRecDepth 20000 in
theorem c_X10_isIn {lay : List zL} {I : zI} {J : zJ} {n : Nat → Nat} (hM : kM lay) (hW : vW I n) (hB : bS n) {k w l : Nat} (hk : k < 9) (hw : w ≤ 2) (hl : l < 2147483648) : zMet lay MX10_isIn 3 [.ref 79, .int (nI k), .int (nI w), .int (nI l)] I J (fun r I' J' => ((r = .int (nI 1) ∧ (k / 3 < n 0 ∧ k % 3 < n 1) ∧ zP n w l k = true) ∨ (r = .int (nI 0) ∧ ¬ ((k / 3 < n 0 ∧ k % 3 < n 1) ∧ zP n w l k = true))) ∧ I = I' ∧ J = J') := by
  refine zMet_of (t := MX10_isIn) (ls := [.ref 79, .int (nI k), .int (nI w), .int (nI l)]) (by decide +kernel) (Nat.le_of_ble_eq_true rfl) rfl ?_
  obtain ⟨mo, m80, m81, m82, m83, m84, m85, m86, m87, m88, m89, m90, m91, m92, m93, m94, m95, m96⟩ := id hM
  have hwv := hW
  obtain ⟨b1, b2, b3, b4, b5, b6, b7, b8⟩ := id hB
  have h16 := b7 k hk
  refine z_aload_n (pc := 0) dX10_isIn_0 rfl rfl ?_
  refine z_iload_n (pc := 1) dX10_isIn_1 rfl rfl ?_
  refine z_callV (pc := 2) (c_X10_isHere hM hW hB (by omega)) dX10_isIn_2 l_RX10_82 m_MX10_isHere n_MX10_isHere e_MX10_isHere rfl (by omega) (by assumption) rfl rfl (Nat.le_of_ble_eq_true rfl) ?_
  rintro _ _ _ ⟨⟨rfl, hc⟩ | ⟨rfl, hc⟩, rfl, rfl⟩
  · skip
    try dsimp only [zov, Option.toList, List.cons_append, List.nil_append]
    first | refine z_if_eqN (pc := 5) (tgt := 46) (by with_reducible rfl) dX10_isIn_5 (by decide) (by omega) (fun hb5 => absurd hb5 (by decide)) (fun hb5 => ?_) | refine z_if_eq (pc := 5) (tgt := 46) dX10_isIn_5 (by decide) (fun hb5 => absurd hb5 (by decide)) (fun hb5 => ?_)
    · skip
      refine z_iload_n (pc := 8) dX10_isIn_8 rfl rfl ?_
      first | refine z_if_neN (pc := 9) (tgt := 18) (by with_reducible rfl) dX10_isIn_9 (by decide) (by omega) (fun hb9 => ?_) (fun hb9 => ?_) | refine z_if_ne (pc := 9) (tgt := 18) dX10_isIn_9 (by decide) (fun hb9 => ?_) (fun hb9 => ?_)
      · skip
        refine z_iload_n (pc := 18) dX10_isIn_18 rfl rfl ?_
        refine z_iconst (pc := 19) (v := nI 1) dX10_isIn_19 (by decide) ?_
        first | refine z_icmp_neN (pc := 20) (tgt := 29) (by with_reducible rfl) (by with_reducible rfl) dX10_isIn_20 (by decide) (by omega) (by omega) (fun hb20 => ?_) (fun hb20 => ?_) | refine z_icmp_ne (pc := 20) (tgt := 29) dX10_isIn_20 (by decide) (fun hb20 => ?_) (fun hb20 => ?_)
        · skip
          refine z_aload_n (pc := 29) dX10_isIn_29 rfl rfl ?_
          refine z_getR (pc := 30) dX10_isIn_30 f_RX10_11 (by assumption) rfl ?_
          refine z_bipush (pc := 33) (v := nI 16) dX10_isIn_33 (by decide) ?_
          refine z_iload_n (pc := 35) dX10_isIn_35 rfl rfl ?_
          first | refine z_iaddN (pc := 36) (by with_reducible rfl) (by with_reducible rfl) dX10_isIn_36 ?_ | refine z_iadd (pc := 36) dX10_isIn_36 ?_
          refine z_ialoadv (pc := 37) dX10_isIn_37 (by assumption) (by with_reducible rfl) (by omega) (by decide) (by first | assumption | exact hW _ (by omega) | rfl) ?_
          refine z_iload_n (pc := 38) dX10_isIn_38 rfl rfl ?_
          first | refine z_icmp_neN (pc := 39) (tgt := 46) (by with_reducible rfl) (by with_reducible rfl) dX10_isIn_39 (by decide) (by omega) (by omega) (fun hb39 => ?_) (fun hb39 => ?_) | refine z_icmp_ne (pc := 39) (tgt := 46) dX10_isIn_39 (by decide) (fun hb39 => ?_) (fun hb39 => ?_)
          · skip
            refine z_iconst (pc := 46) (v := nI 0) dX10_isIn_46 (by decide) ?_
            refine z_zret (pc := 47) dX10_isIn_47 rfl (by first | decide | assumption) ?_
            first
              | exact ⟨Or.inr ⟨rfl, fun q => hc q.1⟩, rfl, rfl⟩
              | exact ⟨Or.inl ⟨rfl, hc, zPy0 (by omega) (by omega)⟩, rfl, rfl⟩
              | exact ⟨Or.inr ⟨rfl, fun q => zPn0 (by omega) (by omega) q.2⟩, rfl, rfl⟩
              | exact ⟨Or.inl ⟨rfl, hc, zPy1 (by omega) (by omega)⟩, rfl, rfl⟩
              | exact ⟨Or.inr ⟨rfl, fun q => zPn1 (by omega) (by omega) q.2⟩, rfl, rfl⟩
              | exact ⟨Or.inl ⟨rfl, hc, zPy2 (by omega) (by omega) (by omega)⟩, rfl, rfl⟩
              | exact ⟨Or.inr ⟨rfl, fun q => zPn2 (by omega) (by omega) (by omega) q.2⟩, rfl, rfl⟩
              | fail
          · skip
            refine z_iconst (pc := 42) (v := nI 1) dX10_isIn_42 (by decide) ?_
            refine z_goto (pc := 43) (tgt := 47) dX10_isIn_43 (by decide) ?_
            refine z_zret (pc := 47) dX10_isIn_47 rfl (by first | decide | assumption) ?_
            first
              | exact ⟨Or.inr ⟨rfl, fun q => hc q.1⟩, rfl, rfl⟩
              | exact ⟨Or.inl ⟨rfl, hc, zPy0 (by omega) (by omega)⟩, rfl, rfl⟩
              | exact ⟨Or.inr ⟨rfl, fun q => zPn0 (by omega) (by omega) q.2⟩, rfl, rfl⟩
              | exact ⟨Or.inl ⟨rfl, hc, zPy1 (by omega) (by omega)⟩, rfl, rfl⟩
              | exact ⟨Or.inr ⟨rfl, fun q => zPn1 (by omega) (by omega) q.2⟩, rfl, rfl⟩
              | exact ⟨Or.inl ⟨rfl, hc, zPy2 (by omega) (by omega) (by omega)⟩, rfl, rfl⟩
              | exact ⟨Or.inr ⟨rfl, fun q => zPn2 (by omega) (by omega) (by omega) q.2⟩, rfl, rfl⟩
              | fail
        · skip
          refine z_iload_n (pc := 23) dX10_isIn_23 rfl rfl ?_
          refine z_iconst (pc := 24) (v := nI 3) dX10_isIn_24 (by decide) ?_
          refine z_iremN (pc := 25) (by with_reducible rfl) (by with_reducible rfl) dX10_isIn_25 (by omega) (by omega) (by omega) ?_
          refine z_goto (pc := 26) (tgt := 38) dX10_isIn_26 (by decide) ?_
          refine z_iload_n (pc := 38) dX10_isIn_38 rfl rfl ?_
          first | refine z_icmp_neN (pc := 39) (tgt := 46) (by with_reducible rfl) (by with_reducible rfl) dX10_isIn_39 (by decide) (by omega) (by omega) (fun hb39 => ?_) (fun hb39 => ?_) | refine z_icmp_ne (pc := 39) (tgt := 46) dX10_isIn_39 (by decide) (fun hb39 => ?_) (fun hb39 => ?_)
          · skip
            refine z_iconst (pc := 46) (v := nI 0) dX10_isIn_46 (by decide) ?_
            refine z_zret (pc := 47) dX10_isIn_47 rfl (by first | decide | assumption) ?_
            first
              | exact ⟨Or.inr ⟨rfl, fun q => hc q.1⟩, rfl, rfl⟩
              | exact ⟨Or.inl ⟨rfl, hc, zPy0 (by omega) (by omega)⟩, rfl, rfl⟩
              | exact ⟨Or.inr ⟨rfl, fun q => zPn0 (by omega) (by omega) q.2⟩, rfl, rfl⟩
              | exact ⟨Or.inl ⟨rfl, hc, zPy1 (by omega) (by omega)⟩, rfl, rfl⟩
              | exact ⟨Or.inr ⟨rfl, fun q => zPn1 (by omega) (by omega) q.2⟩, rfl, rfl⟩
              | exact ⟨Or.inl ⟨rfl, hc, zPy2 (by omega) (by omega) (by omega)⟩, rfl, rfl⟩
              | exact ⟨Or.inr ⟨rfl, fun q => zPn2 (by omega) (by omega) (by omega) q.2⟩, rfl, rfl⟩
              | fail
          · skip
            refine z_iconst (pc := 42) (v := nI 1) dX10_isIn_42 (by decide) ?_
            refine z_goto (pc := 43) (tgt := 47) dX10_isIn_43 (by decide) ?_
            refine z_zret (pc := 47) dX10_isIn_47 rfl (by first | decide | assumption) ?_
            first
              | exact ⟨Or.inr ⟨rfl, fun q => hc q.1⟩, rfl, rfl⟩
              | exact ⟨Or.inl ⟨rfl, hc, zPy0 (by omega) (by omega)⟩, rfl, rfl⟩
              | exact ⟨Or.inr ⟨rfl, fun q => zPn0 (by omega) (by omega) q.2⟩, rfl, rfl⟩
              | exact ⟨Or.inl ⟨rfl, hc, zPy1 (by omega) (by omega)⟩, rfl, rfl⟩
              | exact ⟨Or.inr ⟨rfl, fun q => zPn1 (by omega) (by omega) q.2⟩, rfl, rfl⟩
              | exact ⟨Or.inl ⟨rfl, hc, zPy2 (by omega) (by omega) (by omega)⟩, rfl, rfl⟩
              | exact ⟨Or.inr ⟨rfl, fun q => zPn2 (by omega) (by omega) (by omega) q.2⟩, rfl, rfl⟩
              | fail
      · skip
        refine z_iload_n (pc := 12) dX10_isIn_12 rfl rfl ?_
        refine z_iconst (pc := 13) (v := nI 3) dX10_isIn_13 (by decide) ?_
        refine z_idivN (pc := 14) (by with_reducible rfl) (by with_reducible rfl) dX10_isIn_14 (by omega) (by omega) (by omega) ?_
        refine z_goto (pc := 15) (tgt := 38) dX10_isIn_15 (by decide) ?_
        refine z_iload_n (pc := 38) dX10_isIn_38 rfl rfl ?_
        first | refine z_icmp_neN (pc := 39) (tgt := 46) (by with_reducible rfl) (by with_reducible rfl) dX10_isIn_39 (by decide) (by omega) (by omega) (fun hb39 => ?_) (fun hb39 => ?_) | refine z_icmp_ne (pc := 39) (tgt := 46) dX10_isIn_39 (by decide) (fun hb39 => ?_) (fun hb39 => ?_)
        · skip
          refine z_iconst (pc := 46) (v := nI 0) dX10_isIn_46 (by decide) ?_
          refine z_zret (pc := 47) dX10_isIn_47 rfl (by first | decide | assumption) ?_
          first
            | exact ⟨Or.inr ⟨rfl, fun q => hc q.1⟩, rfl, rfl⟩
            | exact ⟨Or.inl ⟨rfl, hc, zPy0 (by omega) (by omega)⟩, rfl, rfl⟩
            | exact ⟨Or.inr ⟨rfl, fun q => zPn0 (by omega) (by omega) q.2⟩, rfl, rfl⟩
            | exact ⟨Or.inl ⟨rfl, hc, zPy1 (by omega) (by omega)⟩, rfl, rfl⟩
            | exact ⟨Or.inr ⟨rfl, fun q => zPn1 (by omega) (by omega) q.2⟩, rfl, rfl⟩
            | exact ⟨Or.inl ⟨rfl, hc, zPy2 (by omega) (by omega) (by omega)⟩, rfl, rfl⟩
            | exact ⟨Or.inr ⟨rfl, fun q => zPn2 (by omega) (by omega) (by omega) q.2⟩, rfl, rfl⟩
            | fail
        · skip
          refine z_iconst (pc := 42) (v := nI 1) dX10_isIn_42 (by decide) ?_
          refine z_goto (pc := 43) (tgt := 47) dX10_isIn_43 (by decide) ?_
          refine z_zret (pc := 47) dX10_isIn_47 rfl (by first | decide | assumption) ?_
          first
            | exact ⟨Or.inr ⟨rfl, fun q => hc q.1⟩, rfl, rfl⟩
            | exact ⟨Or.inl ⟨rfl, hc, zPy0 (by omega) (by omega)⟩, rfl, rfl⟩
            | exact ⟨Or.inr ⟨rfl, fun q => zPn0 (by omega) (by omega) q.2⟩, rfl, rfl⟩
            | exact ⟨Or.inl ⟨rfl, hc, zPy1 (by omega) (by omega)⟩, rfl, rfl⟩
            | exact ⟨Or.inr ⟨rfl, fun q => zPn1 (by omega) (by omega) q.2⟩, rfl, rfl⟩
            | exact ⟨Or.inl ⟨rfl, hc, zPy2 (by omega) (by omega) (by omega)⟩, rfl, rfl⟩
            | exact ⟨Or.inr ⟨rfl, fun q => zPn2 (by omega) (by omega) (by omega) q.2⟩, rfl, rfl⟩
            | fail
  · skip
    try dsimp only [zov, Option.toList, List.cons_append, List.nil_append]
    first | refine z_if_eqN (pc := 5) (tgt := 46) (by with_reducible rfl) dX10_isIn_5 (by decide) (by omega) (fun hb5 => ?_) (fun hb5 => absurd hb5 (by decide)) | refine z_if_eq (pc := 5) (tgt := 46) dX10_isIn_5 (by decide) (fun hb5 => ?_) (fun hb5 => absurd hb5 (by decide))
    · skip
      refine z_iconst (pc := 46) (v := nI 0) dX10_isIn_46 (by decide) ?_
      refine z_zret (pc := 47) dX10_isIn_47 rfl (by first | decide | assumption) ?_
      first
        | exact ⟨Or.inr ⟨rfl, fun q => hc q.1⟩, rfl, rfl⟩
        | exact ⟨Or.inl ⟨rfl, hc, zPy0 (by omega) (by omega)⟩, rfl, rfl⟩
        | exact ⟨Or.inr ⟨rfl, fun q => zPn0 (by omega) (by omega) q.2⟩, rfl, rfl⟩
        | exact ⟨Or.inl ⟨rfl, hc, zPy1 (by omega) (by omega)⟩, rfl, rfl⟩
        | exact ⟨Or.inr ⟨rfl, fun q => zPn1 (by omega) (by omega) q.2⟩, rfl, rfl⟩
        | exact ⟨Or.inl ⟨rfl, hc, zPy2 (by omega) (by omega) (by omega)⟩, rfl, rfl⟩
        | exact ⟨Or.inr ⟨rfl, fun q => zPn2 (by omega) (by omega) (by omega) q.2⟩, rfl, rfl⟩
        | fail
set_option maxHeartbeats 2000000 in
set_option maxRecDepth 20000 in
theorem c_X10_becomes {lay : List zL} {I : zI} {J : zJ} {n : Nat → Nat} (hM : kM lay) (hW : vW I n) {k x : Nat} (hk : k < 73) : zMet lay MX10_becomes 0 [.ref 79, .int (nI k), .int (nI x)] I J (fun r I' J' => r = .int (nI (n k)) ∧ I' = zup I 80 k (nI x) ∧ J = J') := by
  refine zMet_of (t := MX10_becomes) (ls := [.ref 79, .int (nI k), .int (nI x), .null]) (by decide +kernel) (Nat.le_of_ble_eq_true rfl) rfl ?_
  obtain ⟨mo, m80, m81, m82, m83, m84, m85, m86, m87, m88, m89, m90, m91, m92, m93, m94, m95, m96⟩ := id hM
  refine z_aload_n (pc := 0) dX10_becomes_0 rfl rfl ?_
  refine z_getR (pc := 1) dX10_becomes_1 f_RX10_11 (by assumption) rfl ?_
  refine z_iload_n (pc := 4) dX10_becomes_4 rfl rfl ?_
  refine z_ialoadv (pc := 5) dX10_becomes_5 (by assumption) (by with_reducible rfl) (by omega) (by decide) (by first | assumption | exact hW _ (by omega) | rfl) ?_
  refine z_istore_n (pc := 6) dX10_becomes_6 rfl (by decide) rfl ?_
  try dsimp only [zst1, zst2, zk]
  refine z_aload_n (pc := 7) dX10_becomes_7 rfl rfl ?_
  refine z_getR (pc := 8) dX10_becomes_8 f_RX10_11 (by assumption) rfl ?_
  refine z_iload_n (pc := 11) dX10_becomes_11 rfl rfl ?_
  refine z_iload_n (pc := 12) dX10_becomes_12 rfl rfl ?_
  refine z_iastore (pc := 13) dX10_becomes_13 (by assumption) (by with_reducible rfl) (by omega) (by decide) ?_
  refine z_iload_n (pc := 14) dX10_becomes_14 rfl rfl ?_
  refine z_iret (pc := 15) dX10_becomes_15 rfl ?_
  exact ⟨rfl, rfl, rfl⟩
set_option maxHeartbeats 2000000 in
set_option maxRecDepth 20000 in
theorem c_X10_marginAt {lay : List zL} {I : zI} {J : zJ} {n : Nat → Nat} (hM : kM lay) (hW : vW I n) {w l : Nat} (hw : w ≤ 2) (hl : l < 3) : zMet lay MX10_marginAt 0 [.ref 79, .int (nI w), .int (nI l)] I J (fun r I' J' => r = .int (nI (n (25 + (3 * w + l)))) ∧ I = I' ∧ J = J') := by
  refine zMet_of (t := MX10_marginAt) (ls := [.ref 79, .int (nI w), .int (nI l)]) (by decide +kernel) (Nat.le_of_ble_eq_true rfl) rfl ?_
  obtain ⟨mo, m80, m81, m82, m83, m84, m85, m86, m87, m88, m89, m90, m91, m92, m93, m94, m95, m96⟩ := id hM
  refine z_aload_n (pc := 0) dX10_marginAt_0 rfl rfl ?_
  refine z_getR (pc := 1) dX10_marginAt_1 f_RX10_11 (by assumption) rfl ?_
  refine z_bipush (pc := 4) (v := nI 25) dX10_marginAt_4 (by decide) ?_
  refine z_iconst (pc := 6) (v := nI 3) dX10_marginAt_6 (by decide) ?_
  refine z_iload_n (pc := 7) dX10_marginAt_7 rfl rfl ?_
  first | refine z_imulN (pc := 8) (by with_reducible rfl) (by with_reducible rfl) dX10_marginAt_8 ?_ | refine z_imul (pc := 8) dX10_marginAt_8 ?_
  first | refine z_iaddN (pc := 9) (by with_reducible rfl) (by with_reducible rfl) dX10_marginAt_9 ?_ | refine z_iadd (pc := 9) dX10_marginAt_9 ?_
  refine z_iload_n (pc := 10) dX10_marginAt_10 rfl rfl ?_
  first | refine z_iaddN (pc := 11) (by with_reducible rfl) (by with_reducible rfl) dX10_marginAt_11 ?_ | refine z_iadd (pc := 11) dX10_marginAt_11 ?_
  refine z_ialoadv (pc := 12) dX10_marginAt_12 (by assumption) (by with_reducible rfl) (by omega) (by decide) (by first | assumption | exact hW _ (by omega) | rfl) ?_
  refine z_iret (pc := 13) dX10_marginAt_13 rfl ?_
  exact ⟨by rw [Nat.add_assoc], rfl, rfl⟩
set_option maxHeartbeats 2000000 in
set_option maxRecDepth 20000 in
theorem c_X10_cells {lay : List zL} {I : zI} {J : zJ} {n : Nat → Nat} (hM : kM lay) (hW : vW I n) (hB : bS n) : zMet lay MX10_cells 0 [.ref 79] I J (fun r I' J' => r = .int (nI (n 0 * n 1)) ∧ I = I' ∧ J = J') := by
  refine zMet_of (t := MX10_cells) (ls := [.ref 79]) (by decide +kernel) (Nat.le_of_ble_eq_true rfl) rfl ?_
  obtain ⟨mo, m80, m81, m82, m83, m84, m85, m86, m87, m88, m89, m90, m91, m92, m93, m94, m95, m96⟩ := id hM
  refine z_aload_n (pc := 0) dX10_cells_0 rfl rfl ?_
  refine z_getR (pc := 1) dX10_cells_1 f_RX10_11 (by assumption) rfl ?_
  refine z_iconst (pc := 4) (v := nI 0) dX10_cells_4 (by decide) ?_
  refine z_ialoadv (pc := 5) dX10_cells_5 (by assumption) (by with_reducible rfl) (by omega) (by decide) (by first | assumption | exact hW _ (by omega) | rfl) ?_
  refine z_aload_n (pc := 6) dX10_cells_6 rfl rfl ?_
  refine z_getR (pc := 7) dX10_cells_7 f_RX10_11 (by assumption) rfl ?_
  refine z_iconst (pc := 10) (v := nI 1) dX10_cells_10 (by decide) ?_
  refine z_ialoadv (pc := 11) dX10_cells_11 (by assumption) (by with_reducible rfl) (by omega) (by decide) (by first | assumption | exact hW _ (by omega) | rfl) ?_
  first | refine z_imulN (pc := 12) (by with_reducible rfl) (by with_reducible rfl) dX10_cells_12 ?_ | refine z_imul (pc := 12) dX10_cells_12 ?_
  refine z_iret (pc := 13) dX10_cells_13 rfl ?_
  exact ⟨rfl, rfl, rfl⟩
