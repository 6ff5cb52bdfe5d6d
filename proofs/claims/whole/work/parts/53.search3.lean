/-! ===== the two searches ===== -/
theorem zallb_iff {P : Nat → Bool} : ∀ (f k : Nat), zallb P f k = true ↔ ∀ i, k ≤ i → i < k + f → P i = true
  | 0, k => ⟨fun _ i h1 h2 => absurd h1 (by omega), fun _ => rfl⟩
  | f + 1, k => by
    unfold zallb
    rw [Bool.and_eq_true, zallb_iff f (k + 1)]
    constructor
    · rintro ⟨h1, h2⟩ i h3 h4
      by_cases q : i = k
      · rw [q]; exact h1
      · exact h2 i (by omega) (by omega)
    · intro h
      exact ⟨h k (by omega) (by omega), fun i h1 h2 => h i (by omega) (by omega)⟩
/-- all sums stand -/
def zokw (n v : Nat → Nat) : Bool := zallb (fun i => zst n n i (zrs n v i)) (n 0) 0 && (zallb (fun j => zst n n (3 + j) (zcs n v j)) (n 1) 0 && zst n n 6 (zas n v))
/-- cell by cell -/
def zgo (n : Nat → Nat) : Nat → Nat → (Nat → Nat) → Option (Nat → Nat)
  | 0, _, v => if zokw n v = true then some v else none
  | f + 1, k, v => match zgo n f (k + 1) (zset1 v k (n (34 + k) / n (43 + k))) with
    | some w => some w
    | none => if (k / 3 < n 0 ∧ k % 3 < n 1) ∧ n (43 + k) ≠ 1 then zgo n f (k + 1) (zset1 v k (n (34 + k) / n (43 + k) + 1)) else none
/-- alike in the cells that are there, from none on to k -/
def zhq (n v w : Nat → Nat) (k : Nat) : Prop := ∀ j, j < k → j / 3 < n 0 → j % 3 < n 1 → v j = w j
theorem zhq_r (n v : Nat → Nat) (k : Nat) : zhq n v v k := fun _ _ _ _ => rfl
theorem zhq_s {n v w : Nat → Nat} {k : Nat} (h : zhq n v w k) : zhq n w v k := fun j h1 h2 h3 => (h j h1 h2 h3).symm
theorem zhq_t {n v w x : Nat → Nat} {k : Nat} (h : zhq n v w k) (h2 : zhq n w x k) : zhq n v x k := fun j h1 h3 h4 => (h j h1 h3 h4).trans (h2 j h1 h3 h4)
theorem zhq_set {n v w : Nat → Nat} {k x : Nat} (h : zhq n v w k) : zhq n (zset1 v k x) (zset1 w k x) (k + 1) := fun j h1 h2 h3 => by
  by_cases e : j = k
  · rw [e, zset1_s, zset1_s]
  · rw [zset1_o e, zset1_o e]; exact h j (by omega) h2 h3
theorem zhq_skip {n v w : Nat → Nat} {k x : Nat} (h : zhq n v w k) (hn : ¬ (k / 3 < n 0 ∧ k % 3 < n 1)) : zhq n (zset1 v k x) w (k + 1) := fun j h1 h2 h3 => by
  have e : j ≠ k := fun e => hn (by rw [← e]; exact ⟨h2, h3⟩)
  rw [zset1_o e]; exact h j (by omega) h2 h3
/-- two outcomes alike -/
def zoe (n : Nat → Nat) : Option (Nat → Nat) → Option (Nat → Nat) → Prop
  | none, none => True
  | some v, some w => zhq n v w 9
  | _, _ => False
theorem zoe_r (n : Nat → Nat) (a : Option (Nat → Nat)) : zoe n a a := by
  cases a with
  | none => trivial
  | some v => exact zhq_r n v 9
theorem zoe_t {n : Nat → Nat} {a b c : Option (Nat → Nat)} (h : zoe n a b) (h2 : zoe n b c) : zoe n a c := by
  cases a <;> cases b <;> cases c <;> first | exact trivial | exact h.elim | exact h2.elim | exact zhq_t h h2
theorem zoe_s {n : Nat → Nat} {a b : Option (Nat → Nat)} (h : zoe n a b) : zoe n b a := by
  cases a <;> cases b <;> first | exact trivial | exact h.elim | exact zhq_s h
theorem zgo_1 {n v : Nat → Nat} {f k : Nat} : zgo n (f + 1) k v = (match zgo n f (k + 1) (zset1 v k (n (34 + k) / n (43 + k))) with
    | some w => some w
    | none => if (k / 3 < n 0 ∧ k % 3 < n 1) ∧ n (43 + k) ≠ 1 then zgo n f (k + 1) (zset1 v k (n (34 + k) / n (43 + k) + 1)) else none) := by
  rw [zgo]
theorem zgo_0 {n v : Nat → Nat} {k : Nat} : zgo n 0 k v = (if zokw n v = true then some v else none) := by rw [zgo]
theorem zrs_hq {n v w : Nat → Nat} {i k : Nat} (h : zhq n v w k) (hi : i < n 0) (hc : n 1 ≤ 3) (hk : 3 * i + n 1 ≤ k) : zrs n v i = zrs n w i :=
  zmsum_cg _ _ (fun j h1 h2 => h _ (by omega) (by omega) (by omega))
theorem zcs_hq {n v w : Nat → Nat} {j : Nat} (h : zhq n v w 9) (hj : j < n 1) (hr : n 0 ≤ 3) (hc : n 1 ≤ 3) : zcs n v j = zcs n w j :=
  zmsum_cg _ _ (fun i h1 h2 => h _ (by omega) (by omega) (by omega))
theorem zas_hq {n v w : Nat → Nat} (h : zhq n v w 9) (hr : n 0 ≤ 3) (hc : n 1 ≤ 3) : zas n v = zas n w :=
  zmsum_cg _ _ (fun i h1 h2 => zrs_hq h (by omega) hc (by omega))
theorem zokw_iff {n v : Nat → Nat} : zokw n v = true ↔ (∀ i, i < n 0 → zst n n i (zrs n v i) = true) ∧ (∀ j, j < n 1 → zst n n (3 + j) (zcs n v j) = true) ∧ zst n n 6 (zas n v) = true := by
  unfold zokw
  rw [Bool.and_eq_true, Bool.and_eq_true, zallb_iff, zallb_iff]
  constructor
  · rintro ⟨h1, h2, h3⟩
    exact ⟨fun i hi => h1 i (by omega) (by omega), fun j hj => h2 j (by omega) (by omega), h3⟩
  · rintro ⟨h1, h2, h3⟩
    exact ⟨fun i _ hi => h1 i (by omega), fun j _ hj => h2 j (by omega), h3⟩
theorem zokw_hq {n v w : Nat → Nat} (hB : bS n) (h : zhq n v w 9) : zokw n v = zokw n w := by
  have h1 := hB.2.1
  have h2 := hB.2.2.2.1
  rw [Bool.eq_iff_iff, zokw_iff, zokw_iff]
  have e1 : ∀ i, i < n 0 → zrs n v i = zrs n w i := fun i hi => zrs_hq h hi h2 (by omega)
  have e2 : ∀ j, j < n 1 → zcs n v j = zcs n w j := fun j hj => zcs_hq h hj h1 h2
  have e3 := zas_hq h h1 h2
  constructor
  · rintro ⟨q1, q2, q3⟩
    exact ⟨fun i hi => e1 i hi ▸ q1 i hi, fun j hj => e2 j hj ▸ q2 j hj, e3 ▸ q3⟩
  · rintro ⟨q1, q2, q3⟩
    exact ⟨fun i hi => e1 i hi ▸ q1 i hi, fun j hj => e2 j hj ▸ q2 j hj, e3 ▸ q3⟩
theorem zgo_hq {n : Nat → Nat} (hB : bS n) : ∀ (f k : Nat) (v w : Nat → Nat), k + f = 9 → zhq n v w k → zoe n (zgo n f k v) (zgo n f k w)
  | 0, k, v, w, hk, h => by
    obtain rfl : k = 9 := by omega
    rw [zgo_0, zgo_0, zokw_hq hB h]
    split
    · exact h
    · trivial
  | f + 1, k, v, w, hk, h => by
    have h1 := zgo_hq hB f (k + 1) _ _ (by omega) (zhq_set (x := n (34 + k) / n (43 + k)) h)
    have h2 := zgo_hq hB f (k + 1) _ _ (by omega) (zhq_set (x := n (34 + k) / n (43 + k) + 1) h)
    rw [zgo_1, zgo_1]
    revert h1
    cases zgo n f (k + 1) (zset1 v k (n (34 + k) / n (43 + k))) <;> cases zgo n f (k + 1) (zset1 w k (n (34 + k) / n (43 + k))) <;> intro h1
    · dsimp only
      split
      · exact h2
      · trivial
    · exact h1.elim
    · exact h1.elim
    · exact h1
theorem zgo_skip {n : Nat → Nat} (hB : bS n) {f k : Nat} {v : Nat → Nat} (hk : k + (f + 1) = 9) (hn : ¬ (k / 3 < n 0 ∧ k % 3 < n 1)) : zoe n (zgo n (f + 1) k v) (zgo n f (k + 1) v) := by
  have h := zgo_hq hB f (k + 1) _ _ (by omega) (zhq_skip (x := n (34 + k) / n (43 + k)) (zhq_r n v k) hn)
  rw [zgo_1, if_neg (fun q => hn q.1)]
  revert h
  cases zgo n f (k + 1) (zset1 v k (n (34 + k) / n (43 + k))) <;> intro h
  · exact h
  · exact h
theorem zgo_skips {n : Nat → Nat} (hB : bS n) : ∀ (d f k : Nat) (v : Nat → Nat), k + (f + d) = 9 → (∀ j, k ≤ j → j < k + d → ¬ (j / 3 < n 0 ∧ j % 3 < n 1)) → zoe n (zgo n (f + d) k v) (zgo n f (k + d) v)
  | 0, f, k, v, _, _ => zoe_r n _
  | d + 1, f, k, v, hk, hn => by
    have h1 := zgo_skip (v := v) hB (f := f + d) (k := k) (by omega) (hn k (by omega) (by omega))
    have h2 := zgo_skips hB d f (k + 1) v (by omega) (fun j h3 h4 => hn j (by omega) (by omega))
    rw [show k + (d + 1) = k + 1 + d by omega]
    exact zoe_t h1 h2
theorem zgo_none {n : Nat → Nat} (hB : bS n) {i : Nat} (hi : i < n 0) : ∀ (f k : Nat) (v : Nat → Nat), 3 * i + n 1 ≤ k → ¬ zst n n i (zrs n v i) = true → zgo n f k v = none
  | 0, k, v, hk, h => by
    rw [zgo_0, if_neg (fun q => h ((zokw_iff.mp q).1 i hi))]
  | f + 1, k, v, hk, h => by
    have e : ∀ x, zrs n (zset1 v k x) i = zrs n v i := fun x => zmsum_cg _ _ (fun j h1 h2 => zset1_o (by omega))
    rw [zgo_1, zgo_none hB hi f (k + 1) _ (by omega) (by rw [e]; exact h)]
    dsimp only
    split
    · exact zgo_none hB hi f (k + 1) _ (by omega) (by rw [e]; exact h)
    · rfl
theorem zdn_lt {a b : Nat} (hb : 1 ≤ b) (hg : Nat.gcd b a = 1) : a / b * b < a ↔ b ≠ 1 := by
  constructor
  · rintro h rfl
    rw [Nat.div_one, Nat.mul_one] at h
    exact absurd h (Nat.lt_irrefl _)
  · intro h
    have h1 := Nat.div_mul_le_self a b
    rcases Nat.lt_or_eq_of_le h1 with q | q
    · exact q
    · exfalso
      have h2 : b ∣ a := ⟨a / b, by rw [Nat.mul_comm]; exact q.symm⟩
      rw [Nat.gcd_eq_left h2] at hg
      exact h hg
theorem ztry_1 {f : Nat → Option (Nat → Nat)} {x : Nat} : ztry f 1 x = f x := by
  unfold ztry
  cases f x <;> rfl
theorem ztry_2 {f : Nat → Option (Nat → Nat)} {x : Nat} : ztry f 2 x = (match f x with
  | some w => some w
  | none => f (x + 1)) := by
  unfold ztry
  rw [ztry_1]
  cases f x <;> rfl
/-- the search that looks at each row is the search that looks at the end -/
theorem zpf_go {n : Nat → Nat} (hB : bS n) (hT : bT n) (hG : bG n) : ∀ (u i j : Nat) (v : Nat → Nat), 4 * (n 0 - i) + (n 1 - j) < u → i ≤ n 0 → j ≤ n 1 → (i = n 0 → j = 0) → (∀ i', i' < i → zst n n i' (zrs n v i') = true) → zoe n (zpf n n u i j v) (zgo n (9 - (3 * i + j)) (3 * i + j) v)
  | 0, i, j, v, hu, _, _, _, _ => absurd hu (by omega)
  | u + 1, i, j, v, hu, hi, hj, hij, hr => by
    have b1 := hB.2.1
    have b2 := hB.2.2.2.1
    by_cases c1 : n 0 ≤ i
    · obtain rfl : i = n 0 := by omega
      obtain rfl := hij rfl
      rw [zpf_1 c1]
      have h1 := zgo_skips hB (9 - (3 * n 0 + 0)) 0 (3 * n 0 + 0) v (by omega) (fun j h1 h2 q => by omega)
      rw [Nat.zero_add] at h1
      refine zoe_t ?_ (zoe_s h1)
      rw [zgo_0]
      have e : zokw n v = (zallb (fun j => zst n n (3 + j) (zcs n v j)) (n 1) 0 && zst n n 6 (zas n v)) := by
        unfold zokw
        rw [(zallb_iff (P := fun i => zst n n i (zrs n v i)) (n 0) 0).mpr (fun i _ h => hr i (by omega)), Bool.true_and]
      rw [e]
      exact zoe_r n _
    · by_cases c2 : n 1 ≤ j
      · obtain rfl : j = n 1 := by omega
        rw [zpf_2 c1 c2]
        by_cases c3 : zst n n i (zrs n v i) = true
        · rw [if_pos c3]
          have ih := zpf_go hB hT hG u (i + 1) 0 v (by omega) (by omega) (by omega) (fun _ => rfl) (fun i' h1 => by
            by_cases q : i' = i
            · rw [q]; exact c3
            · exact hr i' (by omega))
          have h1 := zgo_skips hB (3 - n 1) (9 - (3 * (i + 1) + 0)) (3 * i + n 1) v (by omega) (fun j h1 h2 q => by omega)
          rw [show 9 - (3 * (i + 1) + 0) + (3 - n 1) = 9 - (3 * i + n 1) by omega, show 3 * i + n 1 + (3 - n 1) = 3 * (i + 1) + 0 by omega] at h1
          exact zoe_t ih (zoe_s h1)
        · rw [if_neg c3, zgo_none hB (by omega) _ _ _ (Nat.le_refl _) c3]
          trivial
      · have hk : 3 * i + j < 9 := by omega
        have t := hT _ hk
        have hlt := zdn_lt t.2.1 (hG _ hk)
        have ih : ∀ x, zoe n (zpf n n u i (j + 1) (zset1 v (3 * i + j) x)) (zgo n (9 - (3 * i + j) - 1) (3 * i + j + 1) (zset1 v (3 * i + j) x)) := fun x => by
          have h := zpf_go hB hT hG u i (j + 1) (zset1 v (3 * i + j) x) (by omega) hi (by omega) (fun e => absurd e (by omega)) (fun i' h1 => by
            have e : zrs n (zset1 v (3 * i + j) x) i' = zrs n v i' := zmsum_cg _ _ (fun j' h1 h2 => zset1_o (by omega))
            rw [e]; exact hr i' h1)
          rw [show 9 - (3 * i + (j + 1)) = 9 - (3 * i + j) - 1 by omega, show 3 * i + (j + 1) = 3 * i + j + 1 by omega] at h
          exact h
        rw [zpf_3 c1 c2]
        obtain ⟨f, hf⟩ : ∃ f, 9 - (3 * i + j) = f + 1 := ⟨9 - (3 * i + j) - 1, by omega⟩
        rw [hf] at ih ⊢
        rw [Nat.add_sub_cancel] at ih
        have hkh : (3 * i + j) / 3 < n 0 ∧ (3 * i + j) % 3 < n 1 := by omega
        generalize 3 * i + j = k at *
        have hlo : zdn (n (34 + k), n (43 + k)) = n (34 + k) / n (43 + k) := rfl
        have hhi : zhi (n (34 + k), n (43 + k)) = n (34 + k) / n (43 + k) + (if n (34 + k) / n (43 + k) * n (43 + k) < n (34 + k) then 1 else 0) := rfl
        rw [zgo_1, hlo, hhi]
        have hhere : k / 3 < n 0 ∧ k % 3 < n 1 := hkh
        by_cases q : n (43 + k) = 1
        · rw [if_neg (fun z => (hlt.mp z) q), if_neg (fun z => z.2 q), show n (34 + k) / n (43 + k) + 0 + 1 - n (34 + k) / n (43 + k) = 1 by omega, ztry_1]
          have h1 := ih (n (34 + k) / n (43 + k))
          revert h1
          cases zgo n f (k + 1) (zset1 v k (n (34 + k) / n (43 + k))) <;> intro h1 <;> exact h1
        · rw [if_pos (hlt.mpr q), if_pos ⟨hhere, q⟩, show n (34 + k) / n (43 + k) + 1 + 1 - n (34 + k) / n (43 + k) = 2 by omega, ztry_2]
          have h1 := ih (n (34 + k) / n (43 + k))
          have h2 := ih (n (34 + k) / n (43 + k) + 1)
          revert h1
          cases zgo n f (k + 1) (zset1 v k (n (34 + k) / n (43 + k))) <;> cases zpf n n u i (j + 1) (zset1 v k (n (34 + k) / n (43 + k))) <;> intro h1
          · exact h2
          · exact h1.elim
          · exact h1.elim
          · exact h1
theorem zrnd_go {n : Nat → Nat} (hB : bS n) (hT : bT n) (hG : bG n) (h : zfnd n n) (v : Nat → Nat) : zoe n (zrnd n n) (zgo n 9 0 v) := by
  rw [zrnd_y h]
  exact zoe_t (zpf_go hB hT hG 16 0 0 (fun _ => 0) (by have := hB.2.1; have := hB.2.2.2.1; omega) (by omega) (by omega) (fun _ => rfl) (fun i' h => absurd h (by omega))) (zgo_hq hB 9 0 _ _ rfl (fun j h => absurd h (by omega)))
/-- the sums of a line of whole numbers -/
theorem ztg_0 {v : Nat → Nat} : ∀ r, r ≤ 3 → ∀ c, c ≤ 3 → ∀ i, i < r → zlsum (zif (fun k => decide (k / 3 = i)) v) (zl r c 0) = zmsum (fun j => v (3 * i + j)) c 0 := by
  intro r hr c hc i hi
  rcases (show r = 0 ∨ r = 1 ∨ r = 2 ∨ r = 3 by omega) with rfl | rfl | rfl | rfl <;> rcases (show c = 0 ∨ c = 1 ∨ c = 2 ∨ c = 3 by omega) with rfl | rfl | rfl | rfl <;> rcases (show i = 0 ∨ i = 1 ∨ i = 2 by omega) with rfl | rfl | rfl <;> first | omega | (simp [zlsum, zif, zl, zlf, zmsum]; done)
theorem ztg_1 {v : Nat → Nat} : ∀ r, r ≤ 3 → ∀ c, c ≤ 3 → ∀ j, j < c → zlsum (zif (fun k => decide (k % 3 = j)) v) (zl r c 0) = zmsum (fun i => v (3 * i + j)) r 0 := by
  intro r hr c hc j hj
  rcases (show r = 0 ∨ r = 1 ∨ r = 2 ∨ r = 3 by omega) with rfl | rfl | rfl | rfl <;> rcases (show c = 0 ∨ c = 1 ∨ c = 2 ∨ c = 3 by omega) with rfl | rfl | rfl | rfl <;> rcases (show j = 0 ∨ j = 1 ∨ j = 2 by omega) with rfl | rfl | rfl <;> first | omega | (simp [zlsum, zif, zl, zlf, zmsum]; done)
theorem ztg_rs {n v : Nat → Nat} (hB : bS n) {i : Nat} (hi : i < n 0) : ztg n v 0 i = zrs n v i := ztg_0 _ hB.2.1 _ hB.2.2.2.1 _ hi
theorem ztg_cs {n v : Nat → Nat} (hB : bS n) {j : Nat} (hj : j < n 1) : ztg n v 1 j = zcs n v j := ztg_1 _ hB.2.1 _ hB.2.2.2.1 _ hj
theorem zhi_up {p : Nat × Nat} (h : 1 ≤ p.2) : (p.1 + p.2 - 1) / p.2 = zhi p := by
  have h1 := Nat.div_add_mod p.1 p.2
  have h2 := Nat.mod_lt p.1 h
  unfold zhi
  have h3 : p.1 / p.2 * p.2 = p.2 * (p.1 / p.2) := Nat.mul_comm _ _
  by_cases q : p.1 / p.2 * p.2 < p.1
  · rw [if_pos q]
    refine Nat.div_eq_of_lt_le ?_ ?_
    · rw [Nat.add_mul]; omega
    · rw [Nat.add_mul, Nat.add_mul]; omega
  · rw [if_neg q]
    refine Nat.div_eq_of_lt_le ?_ ?_
    · rw [Nat.add_zero]; omega
    · rw [Nat.add_zero, Nat.add_mul]; omega
