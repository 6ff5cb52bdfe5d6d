/-! ===== fits, looked at from the model ===== -/
theorem zlf_in {r c : Nat} : ∀ (m k x : Nat), x ∈ zlf r c m k → k ≤ x ∧ x < k + m ∧ x / 3 < r ∧ x % 3 < c
  | 0, _, _, h => by cases h
  | m + 1, k, x, h => by
    unfold zlf at h
    by_cases q : k / 3 < r ∧ k % 3 < c
    · rw [if_pos q] at h
      rcases List.mem_cons.mp h with rfl | h
      · exact ⟨by omega, by omega, q⟩
      · have := zlf_in m (k + 1) x h
        exact ⟨by omega, by omega, this.2.2⟩
    · rw [if_neg q] at h
      have := zlf_in m (k + 1) x h
      exact ⟨by omega, by omega, this.2.2⟩
theorem zl_mem {r c k x : Nat} (h : x ∈ zl r c k) (hk : k ≤ 9) : x < 9 ∧ x / 3 < r ∧ x % 3 < c := by
  have := zlf_in _ _ _ h
  exact ⟨by omega, this.2.2⟩
theorem zl_mem_ge {r c k x : Nat} (h : x ∈ zl r c k) : k ≤ x := (zlf_in _ _ _ h).1
theorem zlf_of {r c : Nat} : ∀ (m k x : Nat), k ≤ x → x < k + m → x / 3 < r ∧ x % 3 < c → x ∈ zlf r c m k
  | 0, _, _, _, _, _ => by omega
  | m + 1, k, x, h1, h2, h3 => by
    unfold zlf
    by_cases q : k / 3 < r ∧ k % 3 < c
    · rw [if_pos q]
      by_cases e : x = k
      · rw [e]; exact List.mem_cons_self
      · exact List.mem_cons_of_mem _ (zlf_of m (k + 1) x (by omega) (by omega) h3)
    · rw [if_neg q]
      have e : x ≠ k := fun e => q (e ▸ h3)
      exact zlf_of m (k + 1) x (by omega) (by omega) h3
theorem zl_of {r c x : Nat} (hx : x < 9) (h : x / 3 < r ∧ x % 3 < c) : x ∈ zl r c 0 := zlf_of 9 0 x (by omega) (by omega) h
theorem zset_1 {m : Nat → Nat} {k : Nat} {q : Nat × Nat} : zset m k q (34 + k) = q.1 := by unfold zset; rw [if_pos rfl]
theorem zset_2 {m : Nat → Nat} {k : Nat} {q : Nat × Nat} (hk : k < 9) : zset m k q (43 + k) = q.2 := by unfold zset; rw [if_neg (by omega), if_pos rfl]
theorem zset_n {m : Nat → Nat} {k j : Nat} {q : Nat × Nat} (h1 : j ≠ 34 + k) (h2 : j ≠ 43 + k) : zset m k q j = m j := by unfold zset; rw [if_neg h1, if_neg h2]
theorem zfl_c {P : Nat → Bool} {x y : Nat} : ∀ (l : List Nat) (m m' : Nat → Nat), (∀ k ∈ l, k < 9) → zfl P x y l m = some m' → ∀ k, k < 9 → (P k = false ∨ k ∉ l) → m' (34 + k) = m (34 + k) ∧ m' (43 + k) = m (43 + k)
  | [], m, m', _, h, k, _, _ => by cases h; exact ⟨rfl, rfl⟩
  | a :: l, m, m', hl, h, k, hk, hP => by
    have ha := hl a List.mem_cons_self
    have hl' : ∀ k ∈ l, k < 9 := fun k h => hl k (List.mem_cons_of_mem _ h)
    have hP' : P k = false ∨ k ∉ l := hP.imp id (fun q z => q (List.mem_cons_of_mem _ z))
    unfold zfl at h
    split at h
    · split at h
      · have hne : k ≠ a := by
          rintro rfl
          rcases hP with q | q
          · rename_i h1 _; rw [q] at h1; cases h1
          · exact q List.mem_cons_self
        have := zfl_c l _ _ hl' h k hk hP'
        rw [zset_n (by omega) (by omega), zset_n (by omega) (by omega)] at this
        exact this
      · cases h
    · exact zfl_c l _ _ hl' h k hk hP'
theorem zset_bG {m : Nat → Nat} {k x y : Nat} (h : bG m) (hk : k < 9) (hy : 0 < y) : bG (zset m k (zred x y)) := by
  intro j hj
  by_cases e : j = k
  · rw [e, zset_1, zset_2 hk]
    exact Nat.coprime_div_gcd_div_gcd (Nat.gcd_pos_of_pos_left _ hy)
  · rw [zset_n (by omega) (by omega), zset_n (by omega) (by omega)]
    exact h j hj
theorem zfl_b {P : Nat → Bool} {x y : Nat} (hy : 0 < y) : ∀ (l : List Nat) (m m' : Nat → Nat), (∀ k ∈ l, k < 9) → bT m → bG m → zfl P x y l m = some m' → bT m' ∧ bG m'
  | [], m, m', _, h1, h2, h => by cases h; exact ⟨h1, h2⟩
  | k :: l, m, m', hl, h1, h2, h => by
    have hk := hl k List.mem_cons_self
    have hl' : ∀ k ∈ l, k < 9 := fun k h => hl k (List.mem_cons_of_mem _ h)
    have hpos : 0 < m (43 + k) * y := Nat.mul_pos (h1 k hk).2.1 hy
    unfold zfl at h
    split at h
    · split at h
      · rename_i _ hok
        exact zfl_b hy l _ _ hl' (zset_bT h1 hk (zok_bd hpos hok)) (zset_bG h2 hk hpos) h
      · cases h
    · exact zfl_b hy l _ _ hl' h1 h2 h
/-- a line's fit from a cell on -/
def zflk (n : Nat → Nat) (w l x y k : Nat) (m : Nat → Nat) : Option (Nat → Nat) := zfl (zP n w l) x y (zl (n 0) (n 1) k) m
theorem zflk_9 {n m : Nat → Nat} {w l x y : Nat} : zflk n w l x y 9 m = some m := by
  unfold zflk; rw [zl_9]; rfl
theorem zflk_n {n m : Nat → Nat} {w l x y k : Nat} (hk : k < 9) (h : ¬ ((k / 3 < n 0 ∧ k % 3 < n 1) ∧ zP n w l k = true)) : zflk n w l x y k m = zflk n w l x y (k + 1) m := by
  unfold zflk
  by_cases q : k / 3 < n 0 ∧ k % 3 < n 1
  · rw [zl_y hk q, zfl, if_neg (fun e => h ⟨q, e⟩)]
  · rw [zl_n hk q]
theorem zflk_y {n m : Nat → Nat} {w l x y k : Nat} (hk : k < 9) (h : (k / 3 < n 0 ∧ k % 3 < n 1) ∧ zP n w l k = true) (hq : zok (zred (m (34 + k) * x) (m (43 + k) * y)) = true) : zflk n w l x y k m = zflk n w l x y (k + 1) (zset m k (zred (m (34 + k) * x) (m (43 + k) * y))) := by
  unfold zflk
  rw [zl_y hk h.1, zfl, if_pos h.2, if_pos hq]
theorem zflk_f {n m : Nat → Nat} {w l x y k : Nat} (hk : k < 9) (h : (k / 3 < n 0 ∧ k % 3 < n 1) ∧ zP n w l k = true) (hq : zok (zred (m (34 + k) * x) (m (43 + k) * y)) = false) : zflk n w l x y k m = none := by
  unfold zflk
  rw [zl_y hk h.1, zfl, if_pos h.2, if_neg (by rw [hq]; decide)]
theorem zadd_congr {ab bl ab' bl' : Nat → Nat} {P P' : Nat → Bool} : ∀ (l : List Nat) (p : Nat × Nat), (∀ k ∈ l, P k = P' k) → (∀ k ∈ l, P k = true → ab k = ab' k ∧ bl k = bl' k) → zadd ab bl P l p = zadd ab' bl' P' l p
  | [], _, _, _ => rfl
  | k :: l, p, h0, h => by
    have e0 := h0 k List.mem_cons_self
    have hl0 : ∀ k ∈ l, P k = P' k := fun k q => h0 k (List.mem_cons_of_mem _ q)
    have hl : ∀ k ∈ l, P k = true → ab k = ab' k ∧ bl k = bl' k := fun k q => h k (List.mem_cons_of_mem _ q)
    unfold zadd
    by_cases q : P k = true
    · have e := h k List.mem_cons_self q
      rw [if_pos q, if_pos (e0.symm.trans q), e.1, e.2, zadd_congr l _ hl0 hl]
    · rw [if_neg q, if_neg (fun z => q (e0.trans z)), zadd_congr l p hl0 hl]
theorem zsm_cell {n m : Nat → Nat} {w l : Nat} (h : ∀ k, k < 9 → zP n w l k = true → m (34 + k) = n (34 + k) ∧ m (43 + k) = n (43 + k)) : zsm n m w l = zsm n n w l :=
  zadd_congr _ _ (fun _ _ => rfl) (fun k hk q => h k (zl_mem hk (by omega)).1 q)
theorem zfl_congrP {P P' : Nat → Bool} {x y : Nat} : ∀ (l : List Nat) (m : Nat → Nat), (∀ k ∈ l, P k = P' k) → zfl P x y l m = zfl P' x y l m
  | [], _, _ => rfl
  | k :: l, m, h => by
    have e := h k List.mem_cons_self
    have hl : ∀ k ∈ l, P k = P' k := fun k q => h k (List.mem_cons_of_mem _ q)
    unfold zfl
    by_cases q : P k = true
    · rw [if_pos q, if_pos (e.symm.trans q), zfl_congrP l _ hl]
    · rw [if_neg q, if_neg (fun z => q (e.trans z)), zfl_congrP l _ hl]
/-- alike as far as the setting goes -/
def zal (n a : Nat → Nat) : Prop := ∀ j, j < 34 → j ≠ 3 → n j = a j
theorem zP_al {n a : Nat → Nat} (h : zal n a) {w l k : Nat} (hk : k < 9) : zP n w l k = zP a w l k := by
  unfold zP zline
  exact congrArg (fun z => decide ((if w = 0 then k / 3 else if w = 1 then k % 3 else z) = l)) (h (16 + k) (by omega) (by omega))
theorem zsm_al {n a m : Nat → Nat} (h : zal n a) {w l : Nat} : zsm n m w l = zsm a m w l := by
  unfold zsm
  rw [h 0 (by omega) (by omega), h 1 (by omega) (by omega)]
  exact zadd_congr _ _ (fun k hk => zP_al h (zl_mem hk (by omega)).1) (fun _ _ _ => ⟨rfl, rfl⟩)
theorem zlines_le3 {n : Nat → Nat} (h : bS n) {w : Nat} : zlines (n 0) (n 1) w ≤ 3 := zlines_le h.2.1 h.2.2.2.1
theorem zfits_al {n a : Nat → Nat} (h : zal n a) {w : Nat} (hw : w ≤ 2) : ∀ (f l : Nat) (m : Nat → Nat), l + f ≤ 3 → zfits n w f l m = zfits a w f l m
  | 0, _, _, _ => rfl
  | f + 1, l, m, hl => by
    unfold zfits
    rw [zsm_al h]
    cases zsm a m w l with
    | none => rfl
    | some p =>
      dsimp only
      rw [h 0 (by omega) (by omega), h 1 (by omega) (by omega), h (25 + (3 * w + l)) (by omega) (by omega), zfl_congrP (zl (a 0) (a 1) 0) m (fun k hk => zP_al h (zl_mem hk (by omega)).1), zfits_al h hw f (l + 1) m (by omega)]
      split
      · cases zfl (zP a w l) (a (25 + (3 * w + l)) * p.2) p.1 (zl (a 0) (a 1) 0) m with
        | none => rfl
        | some m' => exact zfits_al h hw f (l + 1) m' (by omega)
      · rfl
theorem zfit_al {n a m : Nat → Nat} (h : zal n a) (hB : bS n) {w : Nat} (hw : w ≤ 2) : zfit n w m = zfit a w m := by
  unfold zfit
  have h3 := zlines_le3 hB (w := w)
  rw [← h 0 (by omega) (by omega), ← h 1 (by omega) (by omega)]
  exact zfits_al h hw _ 0 m (by omega)
theorem zdf_0 {c n : Nat → Nat} : ∀ (l : List Nat), zdf c n l = 0 ↔ ∀ k ∈ l, c (34 + k) = n (34 + k) ∧ c (43 + k) = n (43 + k)
  | [] => ⟨fun _ k h => (by cases h), fun _ => rfl⟩
  | k :: l => by
    unfold zdf
    constructor
    · intro h j hj
      have h1 : zdf c n l = 0 := by omega
      rcases List.mem_cons.mp hj with rfl | hj
      · by_cases q : c (34 + j) = n (34 + j) ∧ c (43 + j) = n (43 + j)
        · exact q
        · rw [if_neg q] at h; omega
      · exact (zdf_0 l).mp h1 j hj
    · intro h
      rw [if_pos (h k List.mem_cons_self), (zdf_0 l).mpr (fun j hj => h j (List.mem_cons_of_mem _ hj))]
/-- how many are otherwise, from a cell on, all cells counted -/
def zdfk (c n : Nat → Nat) : Nat → Nat → Nat
  | 0, _ => 0
  | f + 1, k => (if c (34 + k) = n (34 + k) ∧ c (43 + k) = n (43 + k) then 0 else 1) + zdfk c n f (k + 1)
theorem zdfk_l {c n : Nat → Nat} {r q : Nat} (h : ∀ k, k < 9 → ¬ (k / 3 < r ∧ k % 3 < q) → c (34 + k) = n (34 + k) ∧ c (43 + k) = n (43 + k)) : ∀ f k, k + f = 9 → zdfk c n f k = zdf c n (zl r q k)
  | 0, k, hk => by
    obtain rfl : k = 9 := by omega
    rw [zl_9]; rfl
  | f + 1, k, hk => by
    unfold zdfk
    rw [zdfk_l h f (k + 1) (by omega)]
    by_cases e : k / 3 < r ∧ k % 3 < q
    · rw [zl_y (by omega) e]; rfl
    · rw [zl_n (by omega) e, if_pos (h k (by omega) e), Nat.zero_add]
/-- what lines of a fit do: cells outside stay, bounds stay -/
theorem zfits_p {n : Nat → Nat} (hB : bS n) {w : Nat} : ∀ (f l : Nat) (m m' : Nat → Nat), zfits n w f l m = some m' → (∀ j, (j < 34 ∨ 52 ≤ j) → m' j = m j) ∧ ∀ k, k < 9 → ¬ (k / 3 < n 0 ∧ k % 3 < n 1) → m' (34 + k) = m (34 + k) ∧ m' (43 + k) = m (43 + k)
  | 0, _, m, m', h => by cases h; exact ⟨fun _ _ => rfl, fun _ _ _ => ⟨rfl, rfl⟩⟩
  | f + 1, l, m, m', h => by
    unfold zfits at h
    split at h
    · cases h
    · split at h
      · split at h
        · cases h
        · rename_i m1 e
          have h1 := zfits_p hB f (l + 1) _ _ h
          have h2 := zfl_o _ _ _ (fun k hk => (zl_mem hk (by omega)).1) e
          have h3 := zfl_c _ _ _ (fun k hk => (zl_mem hk (by omega)).1) e
          refine ⟨fun j hj => (h1.1 j hj).trans (h2 j hj), fun k hk hn => ?_⟩
          have h4 := h1.2 k hk hn
          have h5 := h3 k hk (Or.inr (fun q => hn (zl_mem q (by omega)).2))
          exact ⟨h4.1.trans h5.1, h4.2.trans h5.2⟩
      · exact zfits_p hB f (l + 1) _ _ h
theorem zfit_p {n m m' : Nat → Nat} (hB : bS n) {w : Nat} (h : zfit n w m = some m') : (∀ j, (j < 34 ∨ 52 ≤ j) → m' j = m j) ∧ ∀ k, k < 9 → ¬ (k / 3 < n 0 ∧ k % 3 < n 1) → m' (34 + k) = m (34 + k) ∧ m' (43 + k) = m (43 + k) := zfits_p hB _ _ _ _ h
theorem zfits_s {n m : Nat → Nat} {w l f : Nat} {p : Nat × Nat} (h : zsm n m w l = some p) (hp : 0 < p.1) {m' : Nat → Nat} (h2 : zfl (zP n w l) (n (25 + (3 * w + l)) * p.2) p.1 (zl (n 0) (n 1) 0) m = some m') : zfits n w (f + 1) l m = zfits n w f (l + 1) m' := by
  rw [zfits, h]
  dsimp only
  rw [if_pos hp, h2]
theorem zfits_f {n m : Nat → Nat} {w l f : Nat} {p : Nat × Nat} (h : zsm n m w l = some p) (hp : 0 < p.1) (h2 : zfl (zP n w l) (n (25 + (3 * w + l)) * p.2) p.1 (zl (n 0) (n 1) 0) m = none) : zfits n w (f + 1) l m = none := by
  rw [zfits, h]
  dsimp only
  rw [if_pos hp, h2]
theorem zfits_0 {n m : Nat → Nat} {w l f : Nat} {p : Nat × Nat} (h : zsm n m w l = some p) (hp : ¬ 0 < p.1) : zfits n w (f + 1) l m = zfits n w f (l + 1) m := by
  rw [zfits, h]
  dsimp only
  rw [if_neg hp]
theorem zfits_n {n m : Nat → Nat} {w l f : Nat} (h : zsm n m w l = none) : zfits n w (f + 1) l m = none := by
  rw [zfits, h]
/-- fits one after another -/
def zwf : Nat → Nat → (Nat → Nat) → Option (Nat → Nat)
  | 0, _, a => some a
  | f + 1, k, a => match zfit a k a with
    | none => none
    | some b => zwf f (k + 1) b
theorem zal_r (n : Nat → Nat) : zal n n := fun _ _ _ => rfl
theorem zal_fit {n a b : Nat → Nat} {w : Nat} (h : zal n a) (hB : bS a) (e : zfit a w a = some b) : zal n b := fun j hj h3 => (h j hj h3).trans ((zfit_p hB e).1 j (Or.inl hj)).symm
theorem bS_al {n a : Nat → Nat} (h : zal n a) (hB : bS n) : bS a := bS_to hB (fun k hk => (h k (by omega) (by omega)).symm)
theorem zrd_wf {n : Nat → Nat} (hB : bS n) : zrd n = (match zwf (2 + n 2) 0 n with
  | none => none
  | some c => if zdf c n (zl (n 0) (n 1) 0) = 0 then none else some (zset1 c 3 (n 3 + 1))) := by
  unfold zrd
  rw [show 2 + n 2 = (1 + n 2) + 1 by omega]
  unfold zwf
  cases e0 : zfit n 0 n with
  | none => rfl
  | some a =>
    dsimp only
    have h1 := zal_fit (zal_r n) hB e0
    have hBa := bS_al h1 hB
    rw [show 1 + n 2 = n 2 + 1 by omega]
    unfold zwf
    rw [zfit_al h1 hB (show 1 ≤ 2 by omega), Nat.zero_add]
    cases e1 : zfit a 1 a with
    | none => rfl
    | some b =>
      dsimp only
      have h2 := zal_fit h1 hBa e1
      have hBb := bS_al h2 hB
      have hn2 := hB.2.2.2.2.1
      by_cases q : n 2 = 0
      · rw [if_pos q, q]
        unfold zwf
        rfl
      · rw [if_neg q, show n 2 = 0 + 1 by omega]
        unfold zwf
        rw [zfit_al h2 hB (show 2 ≤ 2 by omega)]
        cases zfit b 2 b with
        | none => rfl
        | some c => unfold zwf; rfl
