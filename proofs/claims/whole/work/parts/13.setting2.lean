/-! ===== rows of the heap; the setting's writers ===== -/
theorem zup_o {α : Type} {I : Nat → Nat → α} {a k x : Nat} {v : α} (h : x ≠ a) : zup I a k v x = I x := funext fun y => zup_n I v (fun q => h q.1)
theorem zup_a {α : Type} {I : Nat → Nat → α} {a k : Nat} {v : α} : zup I a k v a = fun y => if y = k then v else I a y := funext fun y => by simp [zup]
theorem zcp_o {α : Type} {I : Nat → Nat → α} {a i b j n x : Nat} (h : x ≠ b) : zcp I a i b j n x = I x := funext fun y => by simp [zcp, h]
theorem zcp_b {α : Type} {I : Nat → Nat → α} {a i b j n : Nat} : zcp I a i b j n b = fun y => if j ≤ y ∧ y < j + n then I a (i + (y - j)) else I b y := funext fun y => by simp [zcp]
/-- the setting as told anew -/
def zbec (n : Nat → Nat) (r c : Nat) : Nat → Nat := fun k => if k = 0 then r else if k = 1 then c else if 7 ≤ k ∧ k < 16 then 1 else if 16 ≤ k ∧ k < 25 then 0 else if 25 ≤ k ∧ k < 34 then 10 else n k
def zbI (I0 : zI) (s r c : Nat) (x2 : Int32) (k : Nat) (I : zI) : Prop := I s 0 = nI r ∧ I s 1 = nI c ∧ I s 2 = x2 ∧ (∀ y, y < k → I (s + 1) y = nI 1) ∧ (∀ y, y < k → I (s + 2) y = nI 0) ∧ (∀ y, y < k → I (s + 3) y = nI 10) ∧ ∀ x, (x < s ∨ s + 3 < x) → I x = I0 x
theorem zbI_step {I0 I : zI} {s r c k : Nat} {x2 : Int32} (h : zbI I0 s r c x2 k I) : zbI I0 s r c x2 (k + 1) (zup (zup (zup I (s + 1) k (nI 1)) (s + 2) k (nI 0)) (s + 3) k (nI 10)) := by
  obtain ⟨h0, h1, h2, h3, h4, h5, h6⟩ := h
  refine ⟨?_, ?_, ?_, fun y hy => ?_, fun y hy => ?_, fun y hy => ?_, fun x hx => ?_⟩
  · simp (disch := omega) only [zup_o]; exact h0
  · simp (disch := omega) only [zup_o]; exact h1
  · simp (disch := omega) only [zup_o]; exact h2
  · simp (disch := omega) only [zup_o, zup_a]
    split
    · rfl
    · exact h3 y (by omega)
  · simp (disch := omega) only [zup_o, zup_a]
    split
    · rfl
    · exact h4 y (by omega)
  · simp (disch := omega) only [zup_o, zup_a]
    split
    · rfl
    · exact h5 y (by omega)
  · simp (disch := omega) only [zup_o]; exact h6 x hx
set_option maxHeartbeats 2000000 in
set_option maxRecDepth 20000 in
theorem l_X6_become {lay : List zL} {Q : Value → zI → zJ → Prop} {J : zJ} {d s r c : Nat} {x2 : Int32} {I0 : zI} (hS : kS lay s) : ∀ (m k : Nat) (I : zI), k + m = 9 → zbI I0 s r c x2 k I → (∀ I', zbI I0 s r c x2 9 I' → Q .null I' J) → Z lay MX6_become d 12 [.ref s, .int (nI r), .int (nI c), .int (nI k)] [] I J Q := by
  obtain ⟨h1, h2, h3, h4⟩ := hS
  intro m
  induction m with
  | zero =>
    intro k I hk h hq
    obtain rfl : k = 9 := (by omega)
    refine z_iload_n (pc := 12) dX6_become_12 rfl rfl ?_
    refine z_bipush (pc := 13) (v := nI 9) dX6_become_13 (by decide) ?_
    first | refine z_icmp_geN (pc := 15) (tgt := 46) (by with_reducible rfl) (by with_reducible rfl) dX6_become_15 (by decide) (by omega) (by omega) (fun hb15 => ?_) (fun hb15 => absurd hb15 (by omega)) | refine z_icmp_ge (pc := 15) (tgt := 46) dX6_become_15 (by decide) (fun hb15 => ?_) (fun hb15 => absurd hb15 (by omega))
    · skip
      refine z_vret (pc := 46) dX6_become_46 rfl ?_
      exact hq _ h
  | succ m ih =>
    intro k I hk h hq
    refine z_iload_n (pc := 12) dX6_become_12 rfl rfl ?_
    refine z_bipush (pc := 13) (v := nI 9) dX6_become_13 (by decide) ?_
    first | refine z_icmp_geN (pc := 15) (tgt := 46) (by with_reducible rfl) (by with_reducible rfl) dX6_become_15 (by decide) (by omega) (by omega) (fun hb15 => absurd hb15 (by omega)) (fun hb15 => ?_) | refine z_icmp_ge (pc := 15) (tgt := 46) dX6_become_15 (by decide) (fun hb15 => absurd hb15 (by omega)) (fun hb15 => ?_)
    · skip
      refine z_aload_n (pc := 18) dX6_become_18 rfl rfl ?_
      refine z_getR (pc := 19) dX6_become_19 f_RX6_9 (by assumption) rfl ?_
      refine z_iload_n (pc := 22) dX6_become_22 rfl rfl ?_
      refine z_iconst (pc := 23) (v := nI 1) dX6_become_23 (by decide) ?_
      refine z_iastore (pc := 24) dX6_become_24 (by assumption) (by with_reducible rfl) (by omega) (by decide) ?_
      refine z_aload_n (pc := 25) dX6_become_25 rfl rfl ?_
      refine z_getR (pc := 26) dX6_become_26 f_RX6_15 (by assumption) rfl ?_
      refine z_iload_n (pc := 29) dX6_become_29 rfl rfl ?_
      refine z_iconst (pc := 30) (v := nI 0) dX6_become_30 (by decide) ?_
      refine z_iastore (pc := 31) dX6_become_31 (by assumption) (by with_reducible rfl) (by omega) (by decide) ?_
      refine z_aload_n (pc := 32) dX6_become_32 rfl rfl ?_
      refine z_getR (pc := 33) dX6_become_33 f_RX6_18 (by assumption) rfl ?_
      refine z_iload_n (pc := 36) dX6_become_36 rfl rfl ?_
      refine z_bipush (pc := 37) (v := nI 10) dX6_become_37 (by decide) ?_
      refine z_iastore (pc := 39) dX6_become_39 (by assumption) (by with_reducible rfl) (by omega) (by decide) ?_
      first | refine z_iincN (pc := 40) (c := 1) dX6_become_40 rfl (by with_reducible rfl) (by decide) (by decide) rfl ?_ | refine z_iinc (pc := 40) dX6_become_40 rfl rfl (by decide) rfl ?_
      try dsimp only [zst1, zst2, zk]
      refine z_goto (pc := 43) (tgt := 12) dX6_become_43 (by decide) ?_
      exact ih (k + 1) _ (by omega) (zbI_step h) hq
theorem zbI_end {I0 I' : zI} {s r c : Nat} {n : Nat → Nat} (h : zbI I0 s r c (nI (n 2)) 9 I') : vS I' s (zbec n r c) ∧ ∀ x, (x < s ∨ s + 3 < x) → I' x = I0 x := by
  obtain ⟨h0, h1, h2, h3, h4, h5, h6⟩ := h
  refine ⟨⟨h0, h1, h2, fun k hk => ?_, fun k hk => ?_, fun k hk => ?_⟩, h6⟩
  · rw [h3 k hk]; unfold zbec; rw [if_neg (by omega), if_neg (by omega), if_pos (by omega)]
  · rw [h4 k hk]; unfold zbec; rw [if_neg (by omega), if_neg (by omega), if_neg (by omega), if_pos (by omega)]
  · rw [h5 k hk]; unfold zbec; rw [if_neg (by omega), if_neg (by omega), if_neg (by omega), if_neg (by omega), if_pos (by omega)]
set_option maxHeartbeats 2000000 in
set_option maxRecDepth 20000 in
theorem c_X6_become {lay : List zL} {I : zI} {J : zJ} {s r0 c : Nat} {n : Nat → Nat} (hS : kS lay s) (h2 : I s 2 = nI (n 2)) : zMet lay MX6_become 0 [.ref s, .int (nI r0), .int (nI c)] I J (fun r I' J' => r = .null ∧ (vS I' s (zbec n r0 c) ∧ ∀ x, (x < s ∨ s + 3 < x) → I' x = I x) ∧ J = J') := by
  refine zMet_of (t := MX6_become) (ls := [.ref s, .int (nI r0), .int (nI c), .null]) (by decide +kernel) (Nat.le_of_ble_eq_true rfl) rfl ?_
  obtain ⟨h1, h3, h4, h5⟩ := id hS
  refine z_aload_n (pc := 0) dX6_become_0 rfl rfl ?_
  refine z_iload_n (pc := 1) dX6_become_1 rfl rfl ?_
  refine z_putI (pc := 2) dX6_become_2 f_RX6_25 (by assumption) rfl ?_
  refine z_aload_n (pc := 5) dX6_become_5 rfl rfl ?_
  refine z_iload_n (pc := 6) dX6_become_6 rfl rfl ?_
  refine z_putI (pc := 7) dX6_become_7 f_RX6_29 (by assumption) rfl ?_
  refine z_iconst (pc := 10) (v := nI 0) dX6_become_10 (by decide) ?_
  refine z_istore_n (pc := 11) dX6_become_11 rfl (by decide) rfl ?_
  try dsimp only [zst1, zst2, zk]
  refine l_X6_become hS 9 0 _ rfl ?_ (fun I' h => ⟨rfl, zbI_end (n := n) h, rfl⟩)
  refine ⟨?_, ?_, ?_, fun y hy => by omega, fun y hy => by omega, fun y hy => by omega, fun x hx => ?_⟩
  · simp (disch := omega) only [zup_a]; rfl
  · simp (disch := omega) only [zup_a]; rfl
  · simp (disch := omega) only [zup_a]; exact h2
  · simp (disch := omega) only [zup_o]
set_option maxHeartbeats 2000000 in
set_option maxRecDepth 20000 in
theorem c_X6_copyFrom {lay : List zL} {I : zI} {J : zJ} {s o : Nat} {n : Nat → Nat} (hS : kS lay s) (hO : kS lay o) (hV : vS I o n) (hso : s + 3 < o ∨ o + 3 < s) (hth : n 2 ≤ 1) : zMet lay MX6_copyFrom 1 [.ref s, .ref o] I J (fun r I' J' => r = .null ∧ (vS I' s n ∧ ∀ x, (x < s ∨ s + 3 < x) → I' x = I x) ∧ J = J') := by
  refine zMet_of (t := MX6_copyFrom) (ls := [.ref s, .ref o]) (by decide +kernel) (Nat.le_of_ble_eq_true rfl) rfl ?_
  obtain ⟨h1, h2, h3, h4⟩ := hS
  obtain ⟨g1, g2, g3, g4⟩ := hO
  obtain ⟨v0, v1, v2, v3, v4, v5⟩ := hV
  have hz : nI (n 2) = 0 ∨ nI (n 2) = 1 := (by rcases (show n 2 = 0 ∨ n 2 = 1 by omega) with q | q <;> rw [q] <;> decide)
  refine z_aload_n (pc := 0) dX6_copyFrom_0 rfl rfl ?_
  refine z_aload_n (pc := 1) dX6_copyFrom_1 rfl rfl ?_
  refine z_getIv (pc := 2) dX6_copyFrom_2 f_RX6_25 (by assumption) rfl (by first | assumption | (simp (disch := omega) only [zup_o]; assumption) | rfl) ?_
  refine z_putI (pc := 5) dX6_copyFrom_5 f_RX6_25 (by assumption) rfl ?_
  refine z_aload_n (pc := 8) dX6_copyFrom_8 rfl rfl ?_
  refine z_aload_n (pc := 9) dX6_copyFrom_9 rfl rfl ?_
  refine z_getIv (pc := 10) dX6_copyFrom_10 f_RX6_29 (by assumption) rfl (by first | assumption | (simp (disch := omega) only [zup_o]; assumption) | rfl) ?_
  refine z_putI (pc := 13) dX6_copyFrom_13 f_RX6_29 (by assumption) rfl ?_
  refine z_aload_n (pc := 16) dX6_copyFrom_16 rfl rfl ?_
  refine z_aload_n (pc := 17) dX6_copyFrom_17 rfl rfl ?_
  refine z_getIv (pc := 18) dX6_copyFrom_18 f_RX6_32 (by assumption) rfl (by first | assumption | (simp (disch := omega) only [zup_o]; assumption) | rfl) ?_
  refine z_putZ (pc := 21) dX6_copyFrom_21 f_RX6_32 (by assumption) rfl (by first | assumption | decide) ?_
  refine z_aload_n (pc := 24) dX6_copyFrom_24 rfl rfl ?_
  refine z_getR (pc := 25) dX6_copyFrom_25 f_RX6_9 (by assumption) rfl ?_
  refine z_iconst (pc := 28) (v := nI 0) dX6_copyFrom_28 (by decide) ?_
  refine z_aload_n (pc := 29) dX6_copyFrom_29 rfl rfl ?_
  refine z_getR (pc := 30) dX6_copyFrom_30 f_RX6_9 (by assumption) rfl ?_
  refine z_iconst (pc := 33) (v := nI 0) dX6_copyFrom_33 (by decide) ?_
  refine z_bipush (pc := 34) (v := nI 9) dX6_copyFrom_34 (by decide) ?_
  first | refine z_copyI (pc := 36) dX6_copyFrom_36 lc_RX6_36 (by assumption) (by assumption) rfl rfl rfl (by omega) (by omega) (by decide) (by decide) (by omega) (Nat.le_of_ble_eq_true rfl) ?_ | refine z_copyJ (pc := 36) dX6_copyFrom_36 lc_RX6_36 (by assumption) (by assumption) rfl rfl rfl (by omega) (by omega) (by decide) (by decide) (by omega) (Nat.le_of_ble_eq_true rfl) ?_
  refine z_aload_n (pc := 39) dX6_copyFrom_39 rfl rfl ?_
  refine z_getR (pc := 40) dX6_copyFrom_40 f_RX6_15 (by assumption) rfl ?_
  refine z_iconst (pc := 43) (v := nI 0) dX6_copyFrom_43 (by decide) ?_
  refine z_aload_n (pc := 44) dX6_copyFrom_44 rfl rfl ?_
  refine z_getR (pc := 45) dX6_copyFrom_45 f_RX6_15 (by assumption) rfl ?_
  refine z_iconst (pc := 48) (v := nI 0) dX6_copyFrom_48 (by decide) ?_
  refine z_bipush (pc := 49) (v := nI 9) dX6_copyFrom_49 (by decide) ?_
  first | refine z_copyI (pc := 51) dX6_copyFrom_51 lc_RX6_36 (by assumption) (by assumption) rfl rfl rfl (by omega) (by omega) (by decide) (by decide) (by omega) (Nat.le_of_ble_eq_true rfl) ?_ | refine z_copyJ (pc := 51) dX6_copyFrom_51 lc_RX6_36 (by assumption) (by assumption) rfl rfl rfl (by omega) (by omega) (by decide) (by decide) (by omega) (Nat.le_of_ble_eq_true rfl) ?_
  refine z_aload_n (pc := 54) dX6_copyFrom_54 rfl rfl ?_
  refine z_getR (pc := 55) dX6_copyFrom_55 f_RX6_18 (by assumption) rfl ?_
  refine z_iconst (pc := 58) (v := nI 0) dX6_copyFrom_58 (by decide) ?_
  refine z_aload_n (pc := 59) dX6_copyFrom_59 rfl rfl ?_
  refine z_getR (pc := 60) dX6_copyFrom_60 f_RX6_18 (by assumption) rfl ?_
  refine z_iconst (pc := 63) (v := nI 0) dX6_copyFrom_63 (by decide) ?_
  refine z_bipush (pc := 64) (v := nI 9) dX6_copyFrom_64 (by decide) ?_
  first | refine z_copyI (pc := 66) dX6_copyFrom_66 lc_RX6_36 (by assumption) (by assumption) rfl rfl rfl (by omega) (by omega) (by decide) (by decide) (by omega) (Nat.le_of_ble_eq_true rfl) ?_ | refine z_copyJ (pc := 66) dX6_copyFrom_66 lc_RX6_36 (by assumption) (by assumption) rfl rfl rfl (by omega) (by omega) (by decide) (by decide) (by omega) (Nat.le_of_ble_eq_true rfl) ?_
  refine z_vret (pc := 69) dX6_copyFrom_69 rfl ?_
  refine ⟨rfl, ⟨⟨?_, ?_, ?_, fun k hk => ?_, fun k hk => ?_, fun k hk => ?_⟩, fun x hx => ?_⟩, rfl⟩
  · simp (disch := omega) only [zup_o, zup_a, zcp_o, zcp_b]; rfl
  · simp (disch := omega) only [zup_o, zup_a, zcp_o, zcp_b]; rfl
  · simp (disch := omega) only [zup_o, zup_a, zcp_o, zcp_b]; rfl
  · simp (disch := omega) only [zup_o, zcp_o, zcp_b]
    rw [if_pos (by omega), ← v3 k hk]; congr 1; omega
  · simp (disch := omega) only [zup_o, zcp_o, zcp_b]
    rw [if_pos (by omega), ← v4 k hk]; congr 1; omega
  · simp (disch := omega) only [zup_o, zcp_o, zcp_b]
    rw [if_pos (by omega), ← v5 k hk]; congr 1; omega
  · simp (disch := omega) only [zup_o, zcp_o]
/-! ===== sums of margins, which sets forbid ===== -/
def zmsum (f : Nat → Nat) : Nat → Nat → Nat
  | 0, _ => 0
  | m + 1, k => f k + zmsum f m (k + 1)
def zbit (set i : Nat) : Bool := set / 2 ^ i % 2 == 1
def zif (P : Nat → Bool) (f : Nat → Nat) : Nat → Nat := fun k => if P k then f k else 0
def zany (P : Nat → Bool) : Nat → Nat → Bool
  | 0, _ => false
  | m + 1, k => P k || zany P m (k + 1)
/-- margins of the rows of a set; of the columns that it reaches -/
def zmo (n : Nat → Nat) (set : Nat) : Nat := zmsum (zif (zbit set) (fun i => n (25 + i))) (n 0) 0
def zre1 (n : Nat → Nat) (set j : Nat) : Bool := zany (fun i => zbit set i && decide (0 < n (7 + (3 * i + j)))) (n 0) 0
def zre (n : Nat → Nat) (set : Nat) : Nat := zmsum (zif (zre1 n set) (fun j => n (25 + (3 + j)))) (n 1) 0
def zfb (n : Nat → Nat) (set : Nat) : Bool := decide (zre n set < zmo n set)
def zfo (P : Nat → Bool) : Nat → Nat → Nat → Nat
  | 0, _, b => b
  | m + 1, s, b => zfo P m (s + 1) (if (b = 0 ∨ zpop s < zpop b) ∧ P s = true then s else b)
def zforb (n : Nat → Nat) : Nat := zfo (zfb n) (2 ^ n 0 - 1) 1 0
def zall (n : Nat → Nat) (w : Nat) : Nat := zmsum (fun k => n (25 + (3 * w + k))) (zlines (n 0) (n 1) w) 0
theorem zlines_le {r c w : Nat} (hr : r ≤ 3) (hc : c ≤ 3) : zlines r c w ≤ 3 := by unfold zlines; split; omega; split <;> omega
set_option maxHeartbeats 2000000 in
set_option maxRecDepth 20000 in
theorem l_X6_allMargins {lay : List zL} {Q : Value → zI → zJ → Prop} {I : zI} {J : zJ} {d : Nat} {s : Nat} {n : Nat → Nat} (hS : kS lay s) (hV : vS I s n) (hB : bS n) {w : Nat} (hw : w ≤ 2) : ∀ (m k x : Nat), k + m = zlines (n 0) (n 1) w → Q (.int (nI (x + zmsum (fun k => n (25 + (3 * w + k))) m k))) I J → Z lay MX6_allMargins (d + 1) 4 [.ref s, .int (nI w), .int (nI x), .int (nI k)] [] I J Q := by
  have hS' := hS
  have hV' := hV
  have hB' := hB
  obtain ⟨h1, h2, h3, h4⟩ := hS
  obtain ⟨v0, v1, v2, v3, v4, v5⟩ := hV
  obtain ⟨b1, b2, b3, b4, b5, b6, b7, b8⟩ := hB
  have hz := zlines_le (w := w) b2 b4
  intro m
  induction m with
  | zero =>
    intro k x hk hq
    refine z_iload_n (pc := 4) dX6_allMargins_4 rfl rfl ?_
    refine z_aload_n (pc := 5) dX6_allMargins_5 rfl rfl ?_
    refine z_iload_n (pc := 6) dX6_allMargins_6 rfl rfl ?_
    refine z_callV (pc := 7) (c_X6_lines (by assumption) (by assumption) (by assumption) (by omega)) dX6_allMargins_7 l_RX6_42 m_MX6_lines n_MX6_lines e_MX6_lines rfl (by omega) (by assumption) rfl rfl (Nat.le_of_ble_eq_true rfl) ?_
    rintro _ _ _ (⟨rfl, rfl, rfl⟩)
    try dsimp only [zov, Option.toList, List.cons_append, List.nil_append]
    first | refine z_icmp_geN (pc := 10) (tgt := 32) (by with_reducible rfl) (by with_reducible rfl) dX6_allMargins_10 (by decide) (by omega) (by omega) (fun hb10 => ?_) (fun hb10 => absurd hb10 (by omega)) | refine z_icmp_ge (pc := 10) (tgt := 32) dX6_allMargins_10 (by decide) (fun hb10 => ?_) (fun hb10 => absurd hb10 (by omega))
    · skip
      refine z_iload_n (pc := 32) dX6_allMargins_32 rfl rfl ?_
      refine z_iret (pc := 33) dX6_allMargins_33 rfl ?_
      exact hq
  | succ m ih =>
    intro k x hk hq
    refine z_iload_n (pc := 4) dX6_allMargins_4 rfl rfl ?_
    refine z_aload_n (pc := 5) dX6_allMargins_5 rfl rfl ?_
    refine z_iload_n (pc := 6) dX6_allMargins_6 rfl rfl ?_
    refine z_callV (pc := 7) (c_X6_lines (by assumption) (by assumption) (by assumption) (by omega)) dX6_allMargins_7 l_RX6_42 m_MX6_lines n_MX6_lines e_MX6_lines rfl (by omega) (by assumption) rfl rfl (Nat.le_of_ble_eq_true rfl) ?_
    rintro _ _ _ (⟨rfl, rfl, rfl⟩)
    try dsimp only [zov, Option.toList, List.cons_append, List.nil_append]
    first | refine z_icmp_geN (pc := 10) (tgt := 32) (by with_reducible rfl) (by with_reducible rfl) dX6_allMargins_10 (by decide) (by omega) (by omega) (fun hb10 => absurd hb10 (by omega)) (fun hb10 => ?_) | refine z_icmp_ge (pc := 10) (tgt := 32) dX6_allMargins_10 (by decide) (fun hb10 => absurd hb10 (by omega)) (fun hb10 => ?_)
    · skip
      refine z_iload_n (pc := 13) dX6_allMargins_13 rfl rfl ?_
      refine z_aload_n (pc := 14) dX6_allMargins_14 rfl rfl ?_
      refine z_getR (pc := 15) dX6_allMargins_15 f_RX6_18 (by assumption) rfl ?_
      refine z_iload_n (pc := 18) dX6_allMargins_18 rfl rfl ?_
      refine z_iload_n (pc := 19) dX6_allMargins_19 rfl rfl ?_
      refine z_callN (pc := 20) c_X9_place dX6_allMargins_20 zN_46 m_MX9_place s_MX9_place rfl (by omega) rfl (Nat.le_of_ble_eq_true rfl) ?_
      rintro _ _ _ (⟨rfl, rfl, rfl⟩)
      try dsimp only [zov, Option.toList, List.cons_append, List.nil_append]
      refine z_ialoadv (pc := 23) dX6_allMargins_23 (by assumption) (by with_reducible rfl) (by omega) (by decide) (by first | assumption | exact v3 _ (by omega) | exact v4 _ (by omega) | exact v5 _ (by omega) | rfl) ?_
      first | refine z_iaddN (pc := 24) (by with_reducible rfl) (by with_reducible rfl) dX6_allMargins_24 ?_ | refine z_iadd (pc := 24) dX6_allMargins_24 ?_
      refine z_istore_n (pc := 25) dX6_allMargins_25 rfl (by decide) rfl ?_
      try dsimp only [zst1, zst2, zk]
      first | refine z_iincN (pc := 26) (c := 1) dX6_allMargins_26 rfl (by with_reducible rfl) (by decide) (by decide) rfl ?_ | refine z_iinc (pc := 26) dX6_allMargins_26 rfl rfl (by decide) rfl ?_
      try dsimp only [zst1, zst2, zk]
      refine z_goto (pc := 29) (tgt := 4) dX6_allMargins_29 (by decide) ?_
      exact ih (k + 1) _ (by omega) (by rw [Nat.add_assoc]; exact hq)
set_option maxHeartbeats 2000000 in
set_option maxRecDepth 20000 in
theorem c_X6_allMargins {lay : List zL} {I : zI} {J : zJ} {s : Nat} {n : Nat → Nat} (hS : kS lay s) (hV : vS I s n) (hB : bS n) {w : Nat} (hw : w ≤ 2) : zMet lay MX6_allMargins 1 [.ref s, .int (nI w)] I J (fun r I' J' => r = .int (nI (zall n w)) ∧ I = I' ∧ J = J') := by
  refine zMet_of (t := MX6_allMargins) (ls := [.ref s, .int (nI w), .null, .null]) (by decide +kernel) (Nat.le_of_ble_eq_true rfl) rfl ?_
  have hS' := hS
  have hV' := hV
  have hB' := hB
  obtain ⟨h1, h2, h3, h4⟩ := hS
  obtain ⟨v0, v1, v2, v3, v4, v5⟩ := hV
  obtain ⟨b1, b2, b3, b4, b5, b6, b7, b8⟩ := hB
  refine z_iconst (pc := 0) (v := nI 0) dX6_allMargins_0 (by decide) ?_
  refine z_istore_n (pc := 1) dX6_allMargins_1 rfl (by decide) rfl ?_
  try dsimp only [zst1, zst2, zk]
  refine z_iconst (pc := 2) (v := nI 0) dX6_allMargins_2 (by decide) ?_
  refine z_istore_n (pc := 3) dX6_allMargins_3 rfl (by decide) rfl ?_
  try dsimp only [zst1, zst2, zk]
  exact l_X6_allMargins hS' hV' hB' hw _ 0 0 (Nat.zero_add _) ⟨by rw [Nat.zero_add]; rfl, rfl, rfl⟩
set_option maxHeartbeats 2000000 in
set_option maxRecDepth 20000 in
theorem l_X6_marginsOf {lay : List zL} {Q : Value → zI → zJ → Prop} {I : zI} {J : zJ} {d : Nat} {s : Nat} {n : Nat → Nat} (hS : kS lay s) (hV : vS I s n) (hB : bS n) {g : Nat} (hs : g < 8) : ∀ (m k x : Nat), k + m = n 0 → Q (.int (nI (x + zmsum (zif (zbit g) (fun i => n (25 + i))) m k))) I J → Z lay MX6_marginsOf (d + 1) 4 [.ref s, .int (nI g), .int (nI x), .int (nI k)] [] I J Q := by
  have hS' := hS
  have hV' := hV
  have hB' := hB
  obtain ⟨h1, h2, h3, h4⟩ := hS
  obtain ⟨v0, v1, v2, v3, v4, v5⟩ := hV
  obtain ⟨b1, b2, b3, b4, b5, b6, b7, b8⟩ := hB
  intro m
  induction m with
  | zero =>
    intro k x hk hq
    refine z_iload_n (pc := 4) dX6_marginsOf_4 rfl rfl ?_
    refine z_aload_n (pc := 5) dX6_marginsOf_5 rfl rfl ?_
    refine z_getIv (pc := 6) dX6_marginsOf_6 f_RX6_25 (by assumption) rfl (by first | assumption | exact v3 _ (by omega) | exact v4 _ (by omega) | exact v5 _ (by omega) | rfl) ?_
    first | refine z_icmp_geN (pc := 9) (tgt := 40) (by with_reducible rfl) (by with_reducible rfl) dX6_marginsOf_9 (by decide) (by omega) (by omega) (fun hb9 => ?_) (fun hb9 => absurd hb9 (by omega)) | refine z_icmp_ge (pc := 9) (tgt := 40) dX6_marginsOf_9 (by decide) (fun hb9 => ?_) (fun hb9 => absurd hb9 (by omega))
    · skip
      refine z_iload_n (pc := 40) dX6_marginsOf_40 rfl rfl ?_
      refine z_iret (pc := 41) dX6_marginsOf_41 rfl ?_
      exact hq
  | succ m ih =>
    intro k x hk hq
    have hp : g / 2 ^ k % 2 < 2 := Nat.mod_lt _ (by decide)
    refine z_iload_n (pc := 4) dX6_marginsOf_4 rfl rfl ?_
    refine z_aload_n (pc := 5) dX6_marginsOf_5 rfl rfl ?_
    refine z_getIv (pc := 6) dX6_marginsOf_6 f_RX6_25 (by assumption) rfl (by first | assumption | exact v3 _ (by omega) | exact v4 _ (by omega) | exact v5 _ (by omega) | rfl) ?_
    first | refine z_icmp_geN (pc := 9) (tgt := 40) (by with_reducible rfl) (by with_reducible rfl) dX6_marginsOf_9 (by decide) (by omega) (by omega) (fun hb9 => absurd hb9 (by omega)) (fun hb9 => ?_) | refine z_icmp_ge (pc := 9) (tgt := 40) dX6_marginsOf_9 (by decide) (fun hb9 => absurd hb9 (by omega)) (fun hb9 => ?_)
    · skip
      refine z_iload_n (pc := 12) dX6_marginsOf_12 rfl rfl ?_
      refine z_iload_n (pc := 13) dX6_marginsOf_13 rfl rfl ?_
      refine z_ishr (pc := 14) dX6_marginsOf_14 ?_
      refine z_iconst (pc := 15) (v := nI 1) dX6_marginsOf_15 (by decide) ?_
      refine z_iand (pc := 16) dX6_marginsOf_16 ?_
      rw [z_bit _ hs _ (by omega)]
      refine z_iconst (pc := 17) (v := nI 1) dX6_marginsOf_17 (by decide) ?_
      first | refine z_icmp_neN (pc := 18) (tgt := 34) (by with_reducible rfl) (by with_reducible rfl) dX6_marginsOf_18 (by decide) (by omega) (by omega) (fun hb18 => ?_) (fun hb18 => ?_) | refine z_icmp_ne (pc := 18) (tgt := 34) dX6_marginsOf_18 (by decide) (fun hb18 => ?_) (fun hb18 => ?_)
      · skip
        first | refine z_iincN (pc := 34) (c := 1) dX6_marginsOf_34 rfl (by with_reducible rfl) (by decide) (by decide) rfl ?_ | refine z_iinc (pc := 34) dX6_marginsOf_34 rfl rfl (by decide) rfl ?_
        try dsimp only [zst1, zst2, zk]
        refine z_goto (pc := 37) (tgt := 4) dX6_marginsOf_37 (by decide) ?_
        first | exact ih (k + 1) _ (by omega) (by have e : zif (zbit g) (fun i => n (25 + i)) k = n (25 + k) := (by simp [zif, zbit, hb18]); simp only [zmsum] at hq; rw [e] at hq; rw [Nat.add_assoc]; exact hq) | exact ih (k + 1) _ (by omega) (by have e : zif (zbit g) (fun i => n (25 + i)) k = 0 := (by simp [zif, zbit, hb18]); simp only [zmsum] at hq; rw [e, Nat.zero_add] at hq; exact hq)
      · skip
        refine z_iload_n (pc := 21) dX6_marginsOf_21 rfl rfl ?_
        refine z_aload_n (pc := 22) dX6_marginsOf_22 rfl rfl ?_
        refine z_getR (pc := 23) dX6_marginsOf_23 f_RX6_18 (by assumption) rfl ?_
        refine z_iconst (pc := 26) (v := nI 0) dX6_marginsOf_26 (by decide) ?_
        refine z_iload_n (pc := 27) dX6_marginsOf_27 rfl rfl ?_
        refine z_callN (pc := 28) c_X9_place dX6_marginsOf_28 zN_46 m_MX9_place s_MX9_place rfl (by omega) rfl (Nat.le_of_ble_eq_true rfl) ?_
        rintro _ _ _ (⟨rfl, rfl, rfl⟩)
        try dsimp only [zov, Option.toList, List.cons_append, List.nil_append]
        rw [show 3 * 0 + k = k by omega]
        refine z_ialoadv (pc := 31) dX6_marginsOf_31 (by assumption) (by with_reducible rfl) (by omega) (by decide) (by first | assumption | exact v3 _ (by omega) | exact v4 _ (by omega) | exact v5 _ (by omega) | rfl) ?_
        first | refine z_iaddN (pc := 32) (by with_reducible rfl) (by with_reducible rfl) dX6_marginsOf_32 ?_ | refine z_iadd (pc := 32) dX6_marginsOf_32 ?_
        refine z_istore_n (pc := 33) dX6_marginsOf_33 rfl (by decide) rfl ?_
        try dsimp only [zst1, zst2, zk]
        first | refine z_iincN (pc := 34) (c := 1) dX6_marginsOf_34 rfl (by with_reducible rfl) (by decide) (by decide) rfl ?_ | refine z_iinc (pc := 34) dX6_marginsOf_34 rfl rfl (by decide) rfl ?_
        try dsimp only [zst1, zst2, zk]
        refine z_goto (pc := 37) (tgt := 4) dX6_marginsOf_37 (by decide) ?_
        first | exact ih (k + 1) _ (by omega) (by have e : zif (zbit g) (fun i => n (25 + i)) k = n (25 + k) := (by simp [zif, zbit, hb18]); simp only [zmsum] at hq; rw [e] at hq; rw [Nat.add_assoc]; exact hq) | exact ih (k + 1) _ (by omega) (by have e : zif (zbit g) (fun i => n (25 + i)) k = 0 := (by simp [zif, zbit, hb18]); simp only [zmsum] at hq; rw [e, Nat.zero_add] at hq; exact hq)
set_option maxHeartbeats 2000000 in
set_option maxRecDepth 20000 in
theorem c_X6_marginsOf {lay : List zL} {I : zI} {J : zJ} {s : Nat} {n : Nat → Nat} (hS : kS lay s) (hV : vS I s n) (hB : bS n) {g : Nat} (hs : g < 8) : zMet lay MX6_marginsOf 1 [.ref s, .int (nI g)] I J (fun r I' J' => r = .int (nI (zmo n g)) ∧ I = I' ∧ J = J') := by
  refine zMet_of (t := MX6_marginsOf) (ls := [.ref s, .int (nI g), .null, .null]) (by decide +kernel) (Nat.le_of_ble_eq_true rfl) rfl ?_
  have hS' := hS
  have hV' := hV
  have hB' := hB
  obtain ⟨h1, h2, h3, h4⟩ := hS
  obtain ⟨v0, v1, v2, v3, v4, v5⟩ := hV
  obtain ⟨b1, b2, b3, b4, b5, b6, b7, b8⟩ := hB
  refine z_iconst (pc := 0) (v := nI 0) dX6_marginsOf_0 (by decide) ?_
  refine z_istore_n (pc := 1) dX6_marginsOf_1 rfl (by decide) rfl ?_
  try dsimp only [zst1, zst2, zk]
  refine z_iconst (pc := 2) (v := nI 0) dX6_marginsOf_2 (by decide) ?_
  refine z_istore_n (pc := 3) dX6_marginsOf_3 rfl (by decide) rfl ?_
  try dsimp only [zst1, zst2, zk]
  exact l_X6_marginsOf hS' hV' hB' hs (n 0) 0 0 (Nat.zero_add _) ⟨by rw [Nat.zero_add]; rfl, rfl, rfl⟩
