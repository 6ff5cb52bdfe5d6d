/-! ===== the model: fractions, sums ===== -/
/-- two fields alone may be otherwise: what was worked out -/
def zw2 (J J' : zJ) : Prop := ∀ x y, (x = 79 → y ≠ 7 ∧ y ≠ 8) → J' x y = J x y
theorem zw2_r (J : zJ) : zw2 J J := fun _ _ _ => rfl
theorem zw2_t {J J1 J2 : zJ} (h : zw2 J J1) (h2 : zw2 J1 J2) : zw2 J J2 := fun x y q => (h2 x y q).trans (h x y q)
theorem zw2_u {J : zJ} {a b : Int64} : zw2 J (zup (zup J 79 7 a) 79 8 b) := fun x y q => by
  rw [zup_n _ _ (by omega), zup_n _ _ (by omega)]
theorem zw2_m {J J' : zJ} (h : zw2 J J') : zmJ J J' := fun x y q => h x y (by omega)
def zab (J : zJ) (p : Nat × Nat) : Prop := J 79 7 = lN p.1 ∧ J 79 8 = lN p.2
theorem zab_u {J : zJ} {p : Nat × Nat} : zab (zup (zup J 79 7 (lN p.1)) 79 8 (lN p.2)) p := ⟨by rw [zup_n _ _ (by omega)]; exact zup_s _ _ _ _, zup_s _ _ _ _⟩
theorem zup_J0 {J : zJ} {v : Int64} : zup J 79 7 v 79 8 = J 79 8 := zup_n _ _ (by omega)
set_option maxHeartbeats 2000000 in
set_option maxRecDepth 20000 in
theorem l_X10_divisor {lay : List zL} {Q : Value → zI → zJ → Prop} {d : Nat} {I : zI} {J : zJ} : ∀ (m y x : Nat) (vx vy : Int64) (w : Value), y < m → x < 9223372036854775808 → y < 9223372036854775808 → Q (.long (lN (Nat.gcd y x))) I J → Z lay MX10_divisor d 6 [.long vx, .null, .long vy, .null, .long (lN x), .null, .long (lN y), .null, w, .null] [] I J Q := by
  intro m
  induction m with
  | zero => intro y x vx vy w h; exact absurd h (by omega)
  | succ m ih =>
    intro y x vx vy w hm hx hy hq
    refine z_lload (pc := 6) dX10_divisor_6 rfl ?_
    refine z_lconst (pc := 8) (v := lN 0) dX10_divisor_8 rfl ?_
    first | refine z_lc_eqN (pc := 9) (tgt := 31) (by with_reducible rfl) (by with_reducible rfl) dX10_divisor_9 rfl dX10_divisor_10 (by decide) (by omega) (by omega) (fun hb9 => ?_) (fun hb9 => ?_) | refine z_lc_eq (pc := 9) (tgt := 31) dX10_divisor_9 rfl dX10_divisor_10 (by decide) (fun hb9 => ?_) (fun hb9 => ?_)
    · skip
      refine z_lload (pc := 31) dX10_divisor_31 rfl ?_
      refine z_lret (pc := 33) dX10_divisor_33 rfl ?_
      subst hb9
      rw [Nat.gcd_zero_left] at hq
      exact hq
    · skip
      refine z_lload (pc := 13) dX10_divisor_13 rfl ?_
      refine z_lload (pc := 15) dX10_divisor_15 rfl ?_
      refine z_lremN (pc := 17) (by with_reducible rfl) (by with_reducible rfl) dX10_divisor_17 (by omega) (by omega) (by omega) ?_
      refine z_lstore (pc := 18) dX10_divisor_18 (by decide) rfl ?_
      try dsimp only [zst1, zst2, zk]
      refine z_lload (pc := 20) dX10_divisor_20 rfl ?_
      refine z_lstore (pc := 22) dX10_divisor_22 (by decide) rfl ?_
      try dsimp only [zst1, zst2, zk]
      refine z_lload (pc := 24) dX10_divisor_24 rfl ?_
      refine z_lstore (pc := 26) dX10_divisor_26 (by decide) rfl ?_
      try dsimp only [zst1, zst2, zk]
      refine z_goto (pc := 28) (tgt := 6) dX10_divisor_28 (by decide) ?_
      have hmod : x % y < y := Nat.mod_lt _ (by omega)
      exact ih (x % y) y _ _ _ (by omega) hy (by omega) (by rw [← Nat.gcd_rec]; exact hq)
set_option maxHeartbeats 2000000 in
set_option maxRecDepth 20000 in
theorem c_X10_divisor {lay : List zL} {I : zI} {J : zJ} {x y : Nat} (hx : x < 9223372036854775808) (hy : y < 9223372036854775808) : zMet lay MX10_divisor 0 [.long (lN x), .long (lN y)] I J (fun r I' J' => r = .long (lN (Nat.gcd y x)) ∧ I = I' ∧ J = J') := by
  refine zMet_of (t := MX10_divisor) (ls := [.long (lN x), .null, .long (lN y), .null, .null, .null, .null, .null, .null, .null]) (by decide +kernel) (Nat.le_of_ble_eq_true rfl) rfl ?_
  refine z_lload_n (pc := 0) dX10_divisor_0 rfl rfl ?_
  refine z_lstore (pc := 1) dX10_divisor_1 (by decide) rfl ?_
  try dsimp only [zst1, zst2, zk]
  refine z_lload_n (pc := 3) dX10_divisor_3 rfl rfl ?_
  refine z_lstore (pc := 4) dX10_divisor_4 (by decide) rfl ?_
  try dsimp only [zst1, zst2, zk]
  exact l_X10_divisor (y + 1) y x _ _ _ (by omega) hx hy ⟨rfl, rfl, rfl⟩
theorem zgcd_pos {x y : Nat} (hy : 0 < y) : 0 < Nat.gcd x y := Nat.gcd_pos_of_pos_right _ hy
theorem zgcd_le {x y : Nat} (hy : 0 < y) : Nat.gcd x y ≤ y := Nat.gcd_le_right _ hy
theorem zred_c {x y : Nat} : zred x y = (x / Nat.gcd x y, y / Nat.gcd x y) := by unfold zred; rw [Nat.gcd_comm]
set_option maxHeartbeats 2000000 in
set_option maxRecDepth 20000 in
theorem c_X10_worksOut {lay : List zL} {I : zI} {J : zJ} (hM : kM lay) {x y : Nat} (hx : x < 9223372036854775808) (hy : y < 9223372036854775808) (h0 : 0 < y) : zMet lay MX10_worksOut 1 [.ref 79, .long (lN x), .long (lN y)] I J (fun r I' J' => ((r = .int (nI 1) ∧ zok (zred x y) = true) ∨ (r = .int (nI 0) ∧ zok (zred x y) = false)) ∧ I = I' ∧ J' = zup (zup J 79 7 (lN (zred x y).1)) 79 8 (lN (zred x y).2)) := by
  refine zMet_of (t := MX10_worksOut) (ls := [.ref 79, .long (lN x), .null, .long (lN y), .null, .null, .null]) (by decide +kernel) (Nat.le_of_ble_eq_true rfl) rfl ?_
  obtain ⟨mo, m80, m81, m82, m83, m84, m85, m86, m87, m88, m89, m90, m91, m92, m93, m94, m95, m96⟩ := id hM
  have hg0 := zgcd_pos (x := x) h0
  have hg1 := zgcd_le (x := x) h0
  have hd1 := Nat.div_le_self x (Nat.gcd x y)
  have hd2 := Nat.div_le_self y (Nat.gcd x y)
  rw [zred_c]
  dsimp only
  refine z_lload_n (pc := 0) dX10_worksOut_0 rfl rfl ?_
  refine z_lload_n (pc := 1) dX10_worksOut_1 rfl rfl ?_
  refine z_callS (pc := 2) (c_X10_divisor hy hx) dX10_worksOut_2 l_RX10_143 m_MX10_divisor s_MX10_divisor rfl (by omega) rfl (Nat.le_of_ble_eq_true rfl) ?_
  rintro _ _ _ (⟨rfl, rfl, rfl⟩)
  try dsimp only [zov, Option.toList, List.cons_append, List.nil_append]
  refine z_lstore (pc := 5) dX10_worksOut_5 (by decide) rfl ?_
  try dsimp only [zst1, zst2, zk]
  refine z_aload_n (pc := 7) dX10_worksOut_7 rfl rfl ?_
  refine z_lload_n (pc := 8) dX10_worksOut_8 rfl rfl ?_
  refine z_lload (pc := 9) dX10_worksOut_9 rfl ?_
  refine z_ldivN (pc := 11) (by with_reducible rfl) (by with_reducible rfl) dX10_worksOut_11 (by omega) (by omega) (by omega) ?_
  refine z_putJ (pc := 12) dX10_worksOut_12 f_RX10_147 (by assumption) rfl ?_
  refine z_aload_n (pc := 15) dX10_worksOut_15 rfl rfl ?_
  refine z_lload_n (pc := 16) dX10_worksOut_16 rfl rfl ?_
  refine z_lload (pc := 17) dX10_worksOut_17 rfl ?_
  refine z_ldivN (pc := 19) (by with_reducible rfl) (by with_reducible rfl) dX10_worksOut_19 (by omega) (by omega) (by omega) ?_
  refine z_putJ (pc := 20) dX10_worksOut_20 f_RX10_151 (by assumption) rfl ?_
  refine z_aload_n (pc := 23) dX10_worksOut_23 rfl rfl ?_
  refine z_getJv (pc := 24) dX10_worksOut_24 f_RX10_147 (by assumption) rfl (by first | assumption | exact (zup_n _ _ (by decide)).trans (zup_s _ _ _ _) | exact zup_s _ _ _ _ | rfl) ?_
  refine z_ldc2 (pc := 27) (v := lN 999999) dX10_worksOut_27 q_RX10_154 ?_
  first | refine z_lc_gtN (pc := 30) (tgt := 49) (by with_reducible rfl) (by with_reducible rfl) dX10_worksOut_30 rfl dX10_worksOut_31 (by decide) (by omega) (by omega) (fun hb30 => ?_) (fun hb30 => ?_) | refine z_lc_gt (pc := 30) (tgt := 49) dX10_worksOut_30 rfl dX10_worksOut_31 (by decide) (fun hb30 => ?_) (fun hb30 => ?_)
  · skip
    refine z_iconst (pc := 49) (v := nI 0) dX10_worksOut_49 (by decide) ?_
    refine z_zret (pc := 50) dX10_worksOut_50 rfl (by first | decide | assumption) ?_
    first
      | exact ⟨Or.inl ⟨rfl, decide_eq_true ⟨by omega, by omega⟩⟩, rfl, rfl⟩
      | exact ⟨Or.inr ⟨rfl, decide_eq_false (by omega)⟩, rfl, rfl⟩
      | fail
  · skip
    refine z_aload_n (pc := 34) dX10_worksOut_34 rfl rfl ?_
    refine z_getJv (pc := 35) dX10_worksOut_35 f_RX10_151 (by assumption) rfl (by first | assumption | exact (zup_n _ _ (by decide)).trans (zup_s _ _ _ _) | exact zup_s _ _ _ _ | rfl) ?_
    refine z_ldc2 (pc := 38) (v := lN 999999) dX10_worksOut_38 q_RX10_154 ?_
    first | refine z_lc_gtN (pc := 41) (tgt := 49) (by with_reducible rfl) (by with_reducible rfl) dX10_worksOut_41 rfl dX10_worksOut_42 (by decide) (by omega) (by omega) (fun hb41 => ?_) (fun hb41 => ?_) | refine z_lc_gt (pc := 41) (tgt := 49) dX10_worksOut_41 rfl dX10_worksOut_42 (by decide) (fun hb41 => ?_) (fun hb41 => ?_)
    · skip
      refine z_iconst (pc := 49) (v := nI 0) dX10_worksOut_49 (by decide) ?_
      refine z_zret (pc := 50) dX10_worksOut_50 rfl (by first | decide | assumption) ?_
      first
        | exact ⟨Or.inl ⟨rfl, decide_eq_true ⟨by omega, by omega⟩⟩, rfl, rfl⟩
        | exact ⟨Or.inr ⟨rfl, decide_eq_false (by omega)⟩, rfl, rfl⟩
        | fail
    · skip
      refine z_iconst (pc := 45) (v := nI 1) dX10_worksOut_45 (by decide) ?_
      refine z_goto (pc := 46) (tgt := 50) dX10_worksOut_46 (by decide) ?_
      refine z_zret (pc := 50) dX10_worksOut_50 rfl (by first | decide | assumption) ?_
      first
        | exact ⟨Or.inl ⟨rfl, decide_eq_true ⟨by omega, by omega⟩⟩, rfl, rfl⟩
        | exact ⟨Or.inr ⟨rfl, decide_eq_false (by omega)⟩, rfl, rfl⟩
        | fail
set_option maxHeartbeats 2000000 in
set_option maxRecDepth 20000 in
theorem c_X10_adds {lay : List zL} {I : zI} {J : zJ} (hM : kM lay) {p : Nat × Nat} {u v : Nat} (hp : zab J p) (h1 : p.1 * v + u * p.2 < 9223372036854775808) (h2 : p.2 * v < 9223372036854775808) (h0 : 0 < p.2 * v) : zMet lay MX10_adds 2 [.ref 79, .long (lN u), .long (lN v)] I J (fun r I' J' => ((r = .int (nI 1) ∧ zok (zred (p.1 * v + u * p.2) (p.2 * v)) = true) ∨ (r = .int (nI 0) ∧ zok (zred (p.1 * v + u * p.2) (p.2 * v)) = false)) ∧ I = I' ∧ J' = zup (zup J 79 7 (lN (zred (p.1 * v + u * p.2) (p.2 * v)).1)) 79 8 (lN (zred (p.1 * v + u * p.2) (p.2 * v)).2)) := by
  refine zMet_of (t := MX10_adds) (ls := [.ref 79, .long (lN u), .null, .long (lN v), .null]) (by decide +kernel) (Nat.le_of_ble_eq_true rfl) rfl ?_
  obtain ⟨mo, m80, m81, m82, m83, m84, m85, m86, m87, m88, m89, m90, m91, m92, m93, m94, m95, m96⟩ := id hM
  obtain ⟨hp1, hp2⟩ := hp
  refine z_aload_n (pc := 0) dX10_adds_0 rfl rfl ?_
  refine z_aload_n (pc := 1) dX10_adds_1 rfl rfl ?_
  refine z_getJv (pc := 2) dX10_adds_2 f_RX10_147 (by assumption) rfl (by first | assumption | rfl) ?_
  refine z_lload_n (pc := 5) dX10_adds_5 rfl rfl ?_
  first | refine z_lmulN (pc := 6) (by with_reducible rfl) (by with_reducible rfl) dX10_adds_6 ?_ | refine z_lmul (pc := 6) dX10_adds_6 ?_
  refine z_lload_n (pc := 7) dX10_adds_7 rfl rfl ?_
  refine z_aload_n (pc := 8) dX10_adds_8 rfl rfl ?_
  refine z_getJv (pc := 9) dX10_adds_9 f_RX10_151 (by assumption) rfl (by first | assumption | rfl) ?_
  first | refine z_lmulN (pc := 12) (by with_reducible rfl) (by with_reducible rfl) dX10_adds_12 ?_ | refine z_lmul (pc := 12) dX10_adds_12 ?_
  first | refine z_laddN (pc := 13) (by with_reducible rfl) (by with_reducible rfl) dX10_adds_13 ?_ | refine z_ladd (pc := 13) dX10_adds_13 ?_
  refine z_aload_n (pc := 14) dX10_adds_14 rfl rfl ?_
  refine z_getJv (pc := 15) dX10_adds_15 f_RX10_151 (by assumption) rfl (by first | assumption | rfl) ?_
  refine z_lload_n (pc := 18) dX10_adds_18 rfl rfl ?_
  first | refine z_lmulN (pc := 19) (by with_reducible rfl) (by with_reducible rfl) dX10_adds_19 ?_ | refine z_lmul (pc := 19) dX10_adds_19 ?_
  refine z_callV (pc := 20) (c_X10_worksOut hM h1 h2 h0) dX10_adds_20 l_RX10_156 m_MX10_worksOut n_MX10_worksOut e_MX10_worksOut rfl (by omega) (by assumption) rfl rfl (Nat.le_of_ble_eq_true rfl) ?_
  rintro _ _ _ ⟨hr | hr, rfl, rfl⟩
  · obtain ⟨rfl, hok⟩ := hr
    try dsimp only [zov, Option.toList, List.cons_append, List.nil_append]
    refine z_zret (pc := 23) dX10_adds_23 rfl (by first | decide | assumption) ?_
    first
      | exact ⟨Or.inl ⟨rfl, hok⟩, rfl, rfl⟩
      | exact ⟨Or.inr ⟨rfl, hok⟩, rfl, rfl⟩
  · obtain ⟨rfl, hok⟩ := hr
    try dsimp only [zov, Option.toList, List.cons_append, List.nil_append]
    refine z_zret (pc := 23) dX10_adds_23 rfl (by first | decide | assumption) ?_
    first
      | exact ⟨Or.inl ⟨rfl, hok⟩, rfl, rfl⟩
      | exact ⟨Or.inr ⟨rfl, hok⟩, rfl, rfl⟩
/-- a line's sum from a cell on -/
def zsmk (n : Nat → Nat) (w l k : Nat) (p : Nat × Nat) : Option (Nat × Nat) := zadd (fun k => n (34 + k)) (fun k => n (43 + k)) (zP n w l) (zl (n 0) (n 1) k) p
theorem zsm_k {n : Nat → Nat} {w l : Nat} : zsm n n w l = zsmk n w l 0 (0, 1) := rfl
theorem zsmk_9 {n : Nat → Nat} {w l : Nat} {p : Nat × Nat} : zsmk n w l 9 p = some p := by
  unfold zsmk; rw [zl_9]; rfl
theorem zsmk_n {n : Nat → Nat} {w l k : Nat} {p : Nat × Nat} (hk : k < 9) (h : ¬ ((k / 3 < n 0 ∧ k % 3 < n 1) ∧ zP n w l k = true)) : zsmk n w l k p = zsmk n w l (k + 1) p := by
  unfold zsmk
  by_cases q : k / 3 < n 0 ∧ k % 3 < n 1
  · rw [zl_y hk q, zadd, if_neg (fun e => h ⟨q, e⟩)]
  · rw [zl_n hk q]
theorem zsmk_y {n : Nat → Nat} {w l k : Nat} {p : Nat × Nat} (hk : k < 9) (h : (k / 3 < n 0 ∧ k % 3 < n 1) ∧ zP n w l k = true) (hq : zok (zred (p.1 * n (43 + k) + n (34 + k) * p.2) (p.2 * n (43 + k))) = true) : zsmk n w l k p = zsmk n w l (k + 1) (zred (p.1 * n (43 + k) + n (34 + k) * p.2) (p.2 * n (43 + k))) := by
  unfold zsmk
  rw [zl_y hk h.1, zadd, if_pos h.2, if_pos hq]
theorem zsmk_f {n : Nat → Nat} {w l k : Nat} {p : Nat × Nat} (hk : k < 9) (h : (k / 3 < n 0 ∧ k % 3 < n 1) ∧ zP n w l k = true) (hq : zok (zred (p.1 * n (43 + k) + n (34 + k) * p.2) (p.2 * n (43 + k))) = false) : zsmk n w l k p = none := by
  unfold zsmk
  rw [zl_y hk h.1, zadd, if_pos h.2, if_neg (by rw [hq]; decide)]
theorem zadd_lt {p : Nat × Nat} {u v : Nat} (hp : zbd p) (hu : u ≤ 999999) (hv : 1 ≤ v ∧ v ≤ 999999) : p.1 * v + u * p.2 < 2000000000000 ∧ p.2 * v < 1000000000000 ∧ 0 < p.2 * v := by
  obtain ⟨h1, h2, h3⟩ := hp
  have e1 : p.1 * v ≤ 999999 * 999999 := Nat.mul_le_mul h1 hv.2
  have e2 : u * p.2 ≤ 999999 * 999999 := Nat.mul_le_mul hu h3
  have e3 : p.2 * v ≤ 999999 * 999999 := Nat.mul_le_mul h3 hv.2
  exact ⟨by omega, by omega, Nat.mul_pos h2 hv.1⟩
set_option maxHeartbeats 2000000 in
set_option maxRecDepth 20000 in
theorem l0_X10_sums {lay : List zL} {Q : Value → zI → zJ → Prop} {d w l k : Nat} {I : zI} {J : zJ} (hk : k ≤ 9) (hq : Q (.int (nI 0)) I J) : Z lay MX10_sums d 15 [.ref 79, .int (nI w), .int (nI l), .int (nI 0), .int (nI k)] [] I J Q := by
  refine z_iload (pc := 15) dX10_sums_15 rfl ?_
  refine z_bipush (pc := 17) (v := nI 9) dX10_sums_17 (by decide) ?_
  first | refine z_icmp_geN (pc := 19) (tgt := 78) (by with_reducible rfl) (by with_reducible rfl) dX10_sums_19 (by decide) (by omega) (by omega) (fun hb19 => ?_) (fun hb19 => ?_) | refine z_icmp_ge (pc := 19) (tgt := 78) dX10_sums_19 (by decide) (fun hb19 => ?_) (fun hb19 => ?_)
  · skip
    refine z_iload_n (pc := 78) dX10_sums_78 rfl rfl ?_
    refine z_zret (pc := 79) dX10_sums_79 rfl (by first | decide | assumption) ?_
    exact hq
  · skip
    refine z_iload_n (pc := 22) dX10_sums_22 rfl rfl ?_
    first | refine z_if_eqN (pc := 23) (tgt := 78) (by with_reducible rfl) dX10_sums_23 (by decide) (by omega) (fun hb23 => ?_) (fun hb23 => absurd hb23 (by decide)) | refine z_if_eq (pc := 23) (tgt := 78) dX10_sums_23 (by decide) (fun hb23 => ?_) (fun hb23 => absurd hb23 (by decide))
    · skip
      refine z_iload_n (pc := 78) dX10_sums_78 rfl rfl ?_
      refine z_zret (pc := 79) dX10_sums_79 rfl (by first | decide | assumption) ?_
      exact hq
set_option maxHeartbeats 2000000 in
set_option maxRecDepth 20000 in
theorem l_X10_sums {lay : List zL} {Q : Value → zI → zJ → Prop} {n : Nat → Nat} {d w l : Nat} {I : zI} {J0 : zJ} (hM : kM lay) (hW : vW I n) (hB : bS n) (hT : bT n) (hw : w ≤ 2) (hl : l < 2147483648) : ∀ (m k : Nat) (p : Nat × Nat) (J : zJ), k + m = 9 → zbd p → zab J p → zw2 J0 J → (∀ q J', zsmk n w l k p = some q → zbd q → zab J' q → zw2 J0 J' → Q (.int (nI 1)) I J') → (∀ J', zsmk n w l k p = none → zw2 J0 J' → Q (.int (nI 0)) I J') → Z lay MX10_sums (d + 4) 15 [.ref 79, .int (nI w), .int (nI l), .int (nI 1), .int (nI k)] [] I J Q := by
  intro m
  induction m with
  | zero =>
    intro k p J hm hp ha hf hy hn
    obtain rfl : k = 9 := (by omega)
    refine z_iload (pc := 15) dX10_sums_15 rfl ?_
    refine z_bipush (pc := 17) (v := nI 9) dX10_sums_17 (by decide) ?_
    first | refine z_icmp_geN (pc := 19) (tgt := 78) (by with_reducible rfl) (by with_reducible rfl) dX10_sums_19 (by decide) (by omega) (by omega) (fun hb19 => ?_) (fun hb19 => absurd hb19 (by omega)) | refine z_icmp_ge (pc := 19) (tgt := 78) dX10_sums_19 (by decide) (fun hb19 => ?_) (fun hb19 => absurd hb19 (by omega))
    · skip
      refine z_iload_n (pc := 78) dX10_sums_78 rfl rfl ?_
      refine z_zret (pc := 79) dX10_sums_79 rfl (by first | decide | assumption) ?_
      exact hy p J zsmk_9 hp ha hf
  | succ m ih =>
    intro k p J hm hp ha hf hy hn
    obtain ⟨mo, m80, m81, m82, m83, m84, m85, m86, m87, m88, m89, m90, m91, m92, m93, m94, m95, m96⟩ := id hM
    have hwv := hW
    obtain ⟨b1, b2, b3, b4, b5, b6, b7, b8⟩ := id hB
    have ht := hT k (by omega)
    have hlt := zadd_lt hp ht.1 ht.2
    refine z_iload (pc := 15) dX10_sums_15 rfl ?_
    refine z_bipush (pc := 17) (v := nI 9) dX10_sums_17 (by decide) ?_
    first | refine z_icmp_geN (pc := 19) (tgt := 78) (by with_reducible rfl) (by with_reducible rfl) dX10_sums_19 (by decide) (by omega) (by omega) (fun hb19 => absurd hb19 (by omega)) (fun hb19 => ?_) | refine z_icmp_ge (pc := 19) (tgt := 78) dX10_sums_19 (by decide) (fun hb19 => absurd hb19 (by omega)) (fun hb19 => ?_)
    · skip
      refine z_iload_n (pc := 22) dX10_sums_22 rfl rfl ?_
      first | refine z_if_eqN (pc := 23) (tgt := 78) (by with_reducible rfl) dX10_sums_23 (by decide) (by omega) (fun hb23 => absurd hb23 (by omega)) (fun hb23 => ?_) | refine z_if_eq (pc := 23) (tgt := 78) dX10_sums_23 (by decide) (fun hb23 => absurd hb23 (by omega)) (fun hb23 => ?_)
      · skip
        refine z_aload_n (pc := 26) dX10_sums_26 rfl rfl ?_
        refine z_iload (pc := 27) dX10_sums_27 rfl ?_
        refine z_iload_n (pc := 29) dX10_sums_29 rfl rfl ?_
        refine z_iload_n (pc := 30) dX10_sums_30 rfl rfl ?_
        refine z_callV (pc := 31) (c_X10_isIn hM hW hB (by omega) hw hl) dX10_sums_31 l_RX10_160 m_MX10_isIn n_MX10_isIn e_MX10_isIn rfl (by omega) (by assumption) rfl rfl (Nat.le_of_ble_eq_true rfl) ?_
        rintro _ _ _ ⟨⟨rfl, hc⟩ | ⟨rfl, hc⟩, rfl, rfl⟩
        · skip
          try dsimp only [zov, Option.toList, List.cons_append, List.nil_append]
          first | refine z_if_eqN (pc := 34) (tgt := 66) (by with_reducible rfl) dX10_sums_34 (by decide) (by omega) (fun hb34 => absurd hb34 (by decide)) (fun hb34 => ?_) | refine z_if_eq (pc := 34) (tgt := 66) dX10_sums_34 (by decide) (fun hb34 => absurd hb34 (by decide)) (fun hb34 => ?_)
          · skip
            refine z_aload_n (pc := 37) dX10_sums_37 rfl rfl ?_
            refine z_aload_n (pc := 38) dX10_sums_38 rfl rfl ?_
            refine z_getR (pc := 39) dX10_sums_39 f_RX10_11 (by assumption) rfl ?_
            refine z_bipush (pc := 42) (v := nI 34) dX10_sums_42 (by decide) ?_
            refine z_iload (pc := 44) dX10_sums_44 rfl ?_
            first | refine z_iaddN (pc := 46) (by with_reducible rfl) (by with_reducible rfl) dX10_sums_46 ?_ | refine z_iadd (pc := 46) dX10_sums_46 ?_
            refine z_ialoadv (pc := 47) dX10_sums_47 (by assumption) (by with_reducible rfl) (by omega) (by decide) (by first | assumption | exact hW _ (by omega) | rfl) ?_
            first | refine z_i2lN (pc := 48) (by with_reducible rfl) dX10_sums_48 (by omega) ?_ | refine z_i2l (pc := 48) dX10_sums_48 rfl ?_
            refine z_aload_n (pc := 49) dX10_sums_49 rfl rfl ?_
            refine z_getR (pc := 50) dX10_sums_50 f_RX10_11 (by assumption) rfl ?_
            refine z_bipush (pc := 53) (v := nI 43) dX10_sums_53 (by decide) ?_
            refine z_iload (pc := 55) dX10_sums_55 rfl ?_
            first | refine z_iaddN (pc := 57) (by with_reducible rfl) (by with_reducible rfl) dX10_sums_57 ?_ | refine z_iadd (pc := 57) dX10_sums_57 ?_
            refine z_ialoadv (pc := 58) dX10_sums_58 (by assumption) (by with_reducible rfl) (by omega) (by decide) (by first | assumption | exact hW _ (by omega) | rfl) ?_
            first | refine z_i2lN (pc := 59) (by with_reducible rfl) dX10_sums_59 (by omega) ?_ | refine z_i2l (pc := 59) dX10_sums_59 rfl ?_
            refine z_callV (pc := 60) (c_X10_adds hM ha (by omega) (by omega) hlt.2.2) dX10_sums_60 l_RX10_164 m_MX10_adds n_MX10_adds e_MX10_adds rfl (by omega) (by assumption) rfl rfl (Nat.le_of_ble_eq_true rfl) ?_
            rintro _ _ _ ⟨⟨rfl, hok⟩ | ⟨rfl, hok⟩, rfl, rfl⟩
            · skip
              try dsimp only [zov, Option.toList, List.cons_append, List.nil_append]
              first | refine z_if_eqN (pc := 63) (tgt := 70) (by with_reducible rfl) dX10_sums_63 (by decide) (by omega) (fun hb63 => absurd hb63 (by decide)) (fun hb63 => ?_) | refine z_if_eq (pc := 63) (tgt := 70) dX10_sums_63 (by decide) (fun hb63 => absurd hb63 (by decide)) (fun hb63 => ?_)
              · skip
                refine z_iconst (pc := 66) (v := nI 1) dX10_sums_66 (by decide) ?_
                refine z_goto (pc := 67) (tgt := 71) dX10_sums_67 (by decide) ?_
                refine z_istore_n (pc := 71) dX10_sums_71 rfl (by decide) rfl ?_
                try dsimp only [zst1, zst2, zk]
                first | refine z_iincN (pc := 72) (c := 1) dX10_sums_72 rfl (by with_reducible rfl) (by decide) (by decide) rfl ?_ | refine z_iinc (pc := 72) dX10_sums_72 rfl rfl (by decide) rfl ?_
                try dsimp only [zst1, zst2, zk]
                refine z_goto (pc := 75) (tgt := 15) dX10_sums_75 (by decide) ?_
                first
                | exact l0_X10_sums (by omega) (hn _ (zsmk_f (by omega) hc hok) (zw2_t hf zw2_u))
                | exact ih (k + 1) _ _ (by omega) (zok_bd hlt.2.2 hok) zab_u (zw2_t hf zw2_u) (fun q J' h1 => hy q J' (by rw [zsmk_y (by omega) hc hok]; exact h1)) (fun J' h1 => hn J' (by rw [zsmk_y (by omega) hc hok]; exact h1))
                | exact ih (k + 1) p J (by omega) hp ha hf (fun q J' h1 => hy q J' (by rw [zsmk_n (by omega) hc]; exact h1)) (fun J' h1 => hn J' (by rw [zsmk_n (by omega) hc]; exact h1))
                | fail
            · skip
              try dsimp only [zov, Option.toList, List.cons_append, List.nil_append]
              first | refine z_if_eqN (pc := 63) (tgt := 70) (by with_reducible rfl) dX10_sums_63 (by decide) (by omega) (fun hb63 => ?_) (fun hb63 => absurd hb63 (by decide)) | refine z_if_eq (pc := 63) (tgt := 70) dX10_sums_63 (by decide) (fun hb63 => ?_) (fun hb63 => absurd hb63 (by decide))
              · skip
                refine z_iconst (pc := 70) (v := nI 0) dX10_sums_70 (by decide) ?_
                refine z_istore_n (pc := 71) dX10_sums_71 rfl (by decide) rfl ?_
                try dsimp only [zst1, zst2, zk]
                first | refine z_iincN (pc := 72) (c := 1) dX10_sums_72 rfl (by with_reducible rfl) (by decide) (by decide) rfl ?_ | refine z_iinc (pc := 72) dX10_sums_72 rfl rfl (by decide) rfl ?_
                try dsimp only [zst1, zst2, zk]
                refine z_goto (pc := 75) (tgt := 15) dX10_sums_75 (by decide) ?_
                first
                | exact l0_X10_sums (by omega) (hn _ (zsmk_f (by omega) hc hok) (zw2_t hf zw2_u))
                | exact ih (k + 1) _ _ (by omega) (zok_bd hlt.2.2 hok) zab_u (zw2_t hf zw2_u) (fun q J' h1 => hy q J' (by rw [zsmk_y (by omega) hc hok]; exact h1)) (fun J' h1 => hn J' (by rw [zsmk_y (by omega) hc hok]; exact h1))
                | exact ih (k + 1) p J (by omega) hp ha hf (fun q J' h1 => hy q J' (by rw [zsmk_n (by omega) hc]; exact h1)) (fun J' h1 => hn J' (by rw [zsmk_n (by omega) hc]; exact h1))
                | fail
        · skip
          try dsimp only [zov, Option.toList, List.cons_append, List.nil_append]
          first | refine z_if_eqN (pc := 34) (tgt := 66) (by with_reducible rfl) dX10_sums_34 (by decide) (by omega) (fun hb34 => ?_) (fun hb34 => absurd hb34 (by decide)) | refine z_if_eq (pc := 34) (tgt := 66) dX10_sums_34 (by decide) (fun hb34 => ?_) (fun hb34 => absurd hb34 (by decide))
          · skip
            refine z_iconst (pc := 66) (v := nI 1) dX10_sums_66 (by decide) ?_
            refine z_goto (pc := 67) (tgt := 71) dX10_sums_67 (by decide) ?_
            refine z_istore_n (pc := 71) dX10_sums_71 rfl (by decide) rfl ?_
            try dsimp only [zst1, zst2, zk]
            first | refine z_iincN (pc := 72) (c := 1) dX10_sums_72 rfl (by with_reducible rfl) (by decide) (by decide) rfl ?_ | refine z_iinc (pc := 72) dX10_sums_72 rfl rfl (by decide) rfl ?_
            try dsimp only [zst1, zst2, zk]
            refine z_goto (pc := 75) (tgt := 15) dX10_sums_75 (by decide) ?_
            first
            | exact l0_X10_sums (by omega) (hn _ (zsmk_f (by omega) hc hok) (zw2_t hf zw2_u))
            | exact ih (k + 1) _ _ (by omega) (zok_bd hlt.2.2 hok) zab_u (zw2_t hf zw2_u) (fun q J' h1 => hy q J' (by rw [zsmk_y (by omega) hc hok]; exact h1)) (fun J' h1 => hn J' (by rw [zsmk_y (by omega) hc hok]; exact h1))
            | exact ih (k + 1) p J (by omega) hp ha hf (fun q J' h1 => hy q J' (by rw [zsmk_n (by omega) hc]; exact h1)) (fun J' h1 => hn J' (by rw [zsmk_n (by omega) hc]; exact h1))
            | fail
set_option maxHeartbeats 2000000 in
set_option maxRecDepth 20000 in
theorem c_X10_sums {lay : List zL} {I : zI} {J : zJ} {n : Nat → Nat} (hM : kM lay) (hW : vW I n) (hB : bS n) (hT : bT n) {w l : Nat} (hw : w ≤ 2) (hl : l < 2147483648) : zMet lay MX10_sums 4 [.ref 79, .int (nI w), .int (nI l)] I J (fun r I' J' => ((r = .int (nI 1) ∧ ∃ q, zsm n n w l = some q ∧ zbd q ∧ zab J' q) ∨ (r = .int (nI 0) ∧ zsm n n w l = none)) ∧ I = I' ∧ zw2 J J') := by
  refine zMet_of (t := MX10_sums) (ls := [.ref 79, .int (nI w), .int (nI l), .null, .null]) (by decide +kernel) (Nat.le_of_ble_eq_true rfl) rfl ?_
  obtain ⟨mo, m80, m81, m82, m83, m84, m85, m86, m87, m88, m89, m90, m91, m92, m93, m94, m95, m96⟩ := id hM
  refine z_aload_n (pc := 0) dX10_sums_0 rfl rfl ?_
  refine z_lconst (pc := 1) (v := lN 0) dX10_sums_1 rfl ?_
  refine z_putJ (pc := 2) dX10_sums_2 f_RX10_147 (by assumption) rfl ?_
  refine z_aload_n (pc := 5) dX10_sums_5 rfl rfl ?_
  refine z_lconst (pc := 6) (v := lN 1) dX10_sums_6 rfl ?_
  refine z_putJ (pc := 7) dX10_sums_7 f_RX10_151 (by assumption) rfl ?_
  refine z_iconst (pc := 10) (v := nI 1) dX10_sums_10 (by decide) ?_
  refine z_istore_n (pc := 11) dX10_sums_11 rfl (by decide) rfl ?_
  try dsimp only [zst1, zst2, zk]
  refine z_iconst (pc := 12) (v := nI 0) dX10_sums_12 (by decide) ?_
  refine z_istore (pc := 13) dX10_sums_13 (by decide) rfl ?_
  try dsimp only [zst1, zst2, zk]
  exact l_X10_sums (d := 0) hM hW hB hT hw hl 9 0 (0, 1) _ rfl (by unfold zbd; omega) (zab_u (p := (0, 1))) zw2_u (fun q J' h1 h2 h3 h4 => ⟨Or.inl ⟨rfl, q, h1, h2, h3⟩, rfl, h4⟩) (fun J' h1 h2 => ⟨Or.inr ⟨rfl, h1⟩, rfl, h2⟩)
/-- the gap of a sum -/
def zgq (m : Nat) (q : Nat × Nat) : Nat × Nat := zred (if m * q.2 ≤ q.1 then q.1 - m * q.2 else m * q.2 - q.1) q.2
theorem zgp_q {n : Nat → Nat} {w l : Nat} {q : Nat × Nat} (h : zsm n n w l = some q) : zgp n w l = some (zgq (n (25 + (3 * w + l))) q) := zgp_y h
theorem zneg_l {a b : Nat} (h : ¬ b ≤ a) : -(lN a - lN b) = lN (b - a) := by
  rw [← lN_sub (show a ≤ b by omega)]
  exact Int64.neg_sub
theorem zlt0 {a b : Nat} (ha : a < 4611686018427387904) (hb : b < 4611686018427387904) (h : ¬ lN 0 ≤ lN a - lN b) : ¬ b ≤ a := by
  intro q
  rw [lN_sub q] at h
  exact h (Int64.not_lt.mp (fun z => absurd ((pk_lLT (a := a - b) (b := 0) (by omega) (by omega)).mp z) (by omega)))
theorem zge0 {a b : Nat} (ha : a < 4611686018427387904) (hb : b < 4611686018427387904) (h : lN 0 ≤ lN a - lN b) : b ≤ a := by
  by_cases q : b ≤ a
  · exact q
  · exfalso
    have e := zneg_l q
    have e2 : lN a - lN b = -(lN (b - a)) := by rw [← e]; exact Int64.neg_neg.symm
    rw [e2] at h
    refine absurd h (Int64.not_le.mpr ?_)
    rw [Int64.lt_iff_toInt_lt]
    have h3 : (lN (b - a)).toInt = ((b - a : Nat) : Int) := Int64.toInt_ofNat_of_lt (by omega)
    have h4 : (lN 0).toInt = 0 := by decide
    rw [Int64.toInt_neg, h3, h4, zbm64 (by omega) (by omega)]
    omega
set_option maxHeartbeats 2000000 in
set_option maxRecDepth 20000 in
theorem c_X10_gaps {lay : List zL} {I : zI} {J : zJ} (hM : kM lay) {q : Nat × Nat} {m : Nat} (hm : m ≤ 60) (hq : zbd q) (ha : zab J q) : zMet lay MX10_gaps 2 [.ref 79, .int (nI m)] I J (fun r I' J' => r = .null ∧ I = I' ∧ J' = zup (zup J 79 7 (lN (zgq m q).1)) 79 8 (lN (zgq m q).2)) := by
  refine zMet_of (t := MX10_gaps) (ls := [.ref 79, .int (nI m), .null, .null]) (by decide +kernel) (Nat.le_of_ble_eq_true rfl) rfl ?_
  obtain ⟨mo, m80, m81, m82, m83, m84, m85, m86, m87, m88, m89, m90, m91, m92, m93, m94, m95, m96⟩ := id hM
  obtain ⟨ha1, ha2⟩ := ha
  obtain ⟨hq1, hq2, hq3⟩ := hq
  have hmq : m * q.2 ≤ 60 * 999999 := Nat.mul_le_mul hm hq3
  refine z_aload_n (pc := 0) dX10_gaps_0 rfl rfl ?_
  refine z_getJv (pc := 1) dX10_gaps_1 f_RX10_147 (by assumption) rfl (by first | assumption | rfl) ?_
  refine z_iload_n (pc := 4) dX10_gaps_4 rfl rfl ?_
  first | refine z_i2lN (pc := 5) (by with_reducible rfl) dX10_gaps_5 (by omega) ?_ | refine z_i2l (pc := 5) dX10_gaps_5 rfl ?_
  refine z_aload_n (pc := 6) dX10_gaps_6 rfl rfl ?_
  refine z_getJv (pc := 7) dX10_gaps_7 f_RX10_151 (by assumption) rfl (by first | assumption | rfl) ?_
  first | refine z_lmulN (pc := 10) (by with_reducible rfl) (by with_reducible rfl) dX10_gaps_10 ?_ | refine z_lmul (pc := 10) dX10_gaps_10 ?_
  first | refine z_lsubN (pc := 11) (by with_reducible rfl) (by with_reducible rfl) dX10_gaps_11 (by omega) ?_ | refine z_lsub (pc := 11) dX10_gaps_11 ?_
  refine z_lstore_n (pc := 12) dX10_gaps_12 rfl (by decide) rfl ?_
  try dsimp only [zst1, zst2, zk]
  refine z_aload_n (pc := 13) dX10_gaps_13 rfl rfl ?_
  refine z_lload_n (pc := 14) dX10_gaps_14 rfl rfl ?_
  refine z_lconst (pc := 15) (v := lN 0) dX10_gaps_15 rfl ?_
  refine z_lc_ge (pc := 16) (tgt := 25) dX10_gaps_16 rfl dX10_gaps_17 (by decide) (fun hb16 => ?_) (fun hb16 => ?_)
  · skip
    have hle := zge0 (by omega) (by omega) hb16
    have eG : zgq m q = zred (q.1 - m * q.2) q.2 := (by unfold zgq; rw [if_pos hle])
    rw [eG]
    refine z_lload_n (pc := 25) dX10_gaps_25 rfl rfl ?_
    first | refine z_topJ (lN_sub hle) ?_ | skip
    refine z_aload_n (pc := 26) dX10_gaps_26 rfl rfl ?_
    refine z_getJv (pc := 27) dX10_gaps_27 f_RX10_151 (by assumption) rfl (by first | assumption | rfl) ?_
    refine z_callV (pc := 30) (c_X10_worksOut hM (by omega) (by omega) (by omega)) dX10_gaps_30 l_RX10_156 m_MX10_worksOut n_MX10_worksOut e_MX10_worksOut rfl (by omega) (by assumption) rfl rfl (Nat.le_of_ble_eq_true rfl) ?_
    rintro _ _ _ ⟨⟨rfl, hok⟩ | ⟨rfl, hok⟩, rfl, rfl⟩
    · skip
      try dsimp only [zov, Option.toList, List.cons_append, List.nil_append]
      refine z_pop (pc := 33) dX10_gaps_33 rfl ?_
      refine z_vret (pc := 34) dX10_gaps_34 rfl ?_
      exact ⟨rfl, rfl, rfl⟩
    · skip
      try dsimp only [zov, Option.toList, List.cons_append, List.nil_append]
      refine z_pop (pc := 33) dX10_gaps_33 rfl ?_
      refine z_vret (pc := 34) dX10_gaps_34 rfl ?_
      exact ⟨rfl, rfl, rfl⟩
  · skip
    have hle := zlt0 (by omega) (by omega) hb16
    have eG : zgq m q = zred (m * q.2 - q.1) q.2 := (by unfold zgq; rw [if_neg hle])
    rw [eG]
    refine z_lload_n (pc := 20) dX10_gaps_20 rfl rfl ?_
    refine z_lneg (pc := 21) dX10_gaps_21 ?_
    refine z_topJ (zneg_l hle) ?_
    refine z_goto (pc := 22) (tgt := 26) dX10_gaps_22 (by decide) ?_
    first | refine z_topJ (lN_sub hle) ?_ | skip
    refine z_aload_n (pc := 26) dX10_gaps_26 rfl rfl ?_
    refine z_getJv (pc := 27) dX10_gaps_27 f_RX10_151 (by assumption) rfl (by first | assumption | rfl) ?_
    refine z_callV (pc := 30) (c_X10_worksOut hM (by omega) (by omega) (by omega)) dX10_gaps_30 l_RX10_156 m_MX10_worksOut n_MX10_worksOut e_MX10_worksOut rfl (by omega) (by assumption) rfl rfl (Nat.le_of_ble_eq_true rfl) ?_
    rintro _ _ _ ⟨⟨rfl, hok⟩ | ⟨rfl, hok⟩, rfl, rfl⟩
    · skip
      try dsimp only [zov, Option.toList, List.cons_append, List.nil_append]
      refine z_pop (pc := 33) dX10_gaps_33 rfl ?_
      refine z_vret (pc := 34) dX10_gaps_34 rfl ?_
      exact ⟨rfl, rfl, rfl⟩
    · skip
      try dsimp only [zov, Option.toList, List.cons_append, List.nil_append]
      refine z_pop (pc := 33) dX10_gaps_33 rfl ?_
      refine z_vret (pc := 34) dX10_gaps_34 rfl ?_
      exact ⟨rfl, rfl, rfl⟩
