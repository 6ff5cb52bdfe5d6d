/-! ===== the model's calls: reading, on ===== -/
/-- where the clauses begin -/
def zpos (len : Nat) (tx : Nat → Nat) : Nat → Nat
  | 0 => 0
  | j + 1 => (zce len tx (zpos len tx j)).2 + 1
theorem zkd_le {len a e : Nat} {tx : Nat → Nat} (h : zkd len tx a e) : a < len ∧ e ≤ len ∧ a < e := by
  obtain ⟨h0, h⟩ := h
  refine ⟨h0, ?_⟩
  rcases h with ⟨_, h1, h2, h3⟩ | ⟨_, h1, h2, h3, h4⟩ | ⟨_, h1, h2, h3, h4⟩ | ⟨_, h1⟩
  · have := zisb_lt h2; omega
  · have z3 := zisb_lt h3
    rcases h4 with h4 | ⟨h4, h5⟩
    · omega
    · have := zisb_lt h5; omega
  · have := zisb_lt h3; omega
  · omega
def zrow (I : zI) (len : Nat) (tx : Nat → Nat) (n : Nat) : Prop := ∀ j, j < n → (zce len tx (zpos len tx j)).1 = true ∧ zclr I tx j (zpos len tx j) (zce len tx (zpos len tx j)).2
theorem zclr_to {I I' : zI} {tx : Nat → Nat} {k a e : Nat} (h : zclr I tx k a e) (hf : ∀ y, 4 * k ≤ y → y < 4 * k + 4 → I' 84 y = I 84 y) : zclr I' tx k a e := by
  obtain ⟨h0, h1, h2⟩ := h
  exact ⟨(hf _ (by omega) (by omega)).trans h0, fun q => ⟨(hf _ (by omega) (by omega)).trans (h1 q).1, (hf _ (by omega) (by omega)).trans (h1 q).2⟩, fun q1 q2 => (hf _ (by omega) (by omega)).trans (h2 q1 q2)⟩
theorem zrow_s {I I' : zI} {len n p e : Nat} {tx : Nat → Nat} (h : zrow I len tx n) (hf : zfc4 I I' n) (hp : zpos len tx n = p) (hz : zce len tx p = (true, e)) (h2 : zclr I' tx n p e) : zrow I' len tx (n + 1) := by
  intro j hj
  by_cases q : j = n
  · rw [q, hp, hz]; exact ⟨rfl, h2⟩
  · have := h j (by omega)
    exact ⟨this.1, zclr_to this.2 (fun y q1 q2 => hf 84 y (by omega))⟩
theorem zpos_s {len n p e : Nat} {t : Bool} {tx : Nat → Nat} (hp : zpos len tx n = p) (hz : zce len tx p = (t, e)) : zpos len tx (n + 1) = e + 1 := by
  rw [zpos, hp, hz]
theorem zng_i {e : Nat} (h : e ≤ 1000) : (-10 - nI e : Int32).toInt = -10 - (e : Int) := by
  have h1 : (-10 : Int32).toInt = -10 := by decide
  rw [Int32.toInt_sub, h1, nI_toInt (by omega), zbm32 (by omega) (by omega)]
theorem zng_1 {e : Nat} (h : e ≤ 1000) : ¬ (0 : Int32) ≤ -10 - nI e := by
  have h0 : (0 : Int32).toInt = 0 := by decide
  rw [Int32.le_iff_toInt_le, zng_i h, h0]
  omega
theorem zng_2 {e : Nat} (h : e ≤ 1000) : (-10 - nI e : Int32) ≤ nI 0 := by
  rw [Int32.le_iff_toInt_le, zng_i h, nI_toInt (by omega)]
  omega
theorem zfa_f {len a f e : Nat} {tx : Nat → Nat} (h : zce len tx a = (false, e)) : zfa len tx (f + 1) a = some e := by
  rw [zfa, h]; exact if_neg (fun q => Bool.noConfusion q)
theorem zfa_e {len a f e : Nat} {tx : Nat → Nat} (h : zce len tx a = (true, e)) (h2 : len ≤ e) : zfa len tx (f + 1) a = none := by
  rw [zfa, h]; exact (if_pos rfl).trans (if_pos h2)
theorem zfa_b {len a f e : Nat} {tx : Nat → Nat} (h : zce len tx a = (true, e)) (h2 : ¬ len ≤ e) (h3 : tx e ≠ 59 ∨ f = 0) : zfa len tx (f + 1) a = some e := by
  rw [zfa, h]; exact (if_pos rfl).trans ((if_neg h2).trans (if_pos h3))
theorem zfa_g {len a f e : Nat} {tx : Nat → Nat} (h : zce len tx a = (true, e)) (h2 : ¬ len ≤ e) (h3 : ¬ (tx e ≠ 59 ∨ f = 0)) : zfa len tx (f + 1) a = zfa len tx f (e + 1) := by
  rw [zfa, h]; exact (if_pos rfl).trans ((if_neg h2).trans (if_neg h3))
theorem zce_pr (len a : Nat) (tx : Nat → Nat) : ∃ t e, zce len tx a = (t, e) ∧ e ≤ a + 5 := ⟨_, _, rfl, zce_le⟩
theorem c_X10_readsClauseE {lay : List zL} {I : zI} {J : zJ} {len : Nat} {tx : Nat → Nat} (hM : kM lay) (hX : vMT I len tx) {a k e : Nat} {t : Bool} (hal : a ≤ len) (hkk : k < 12) (hz : zce len tx a = (t, e)) : zMet lay MX10_readsClause 2 [.ref 79, .int (nI a), .int (nI k)] I J (fun r I' J' => ((t = true ∧ r = .int (nI e) ∧ zclr I' tx k a e) ∨ (t = false ∧ r = .int (-10 - nI e))) ∧ zfc4 I I' k ∧ J = J') :=
  zMet_to (c_X10_readsClause hM hX hal hkk) (fun r I' J' q => by rw [hz] at q; exact q)
theorem zkd_len {len a e : Nat} {tx : Nat → Nat} (hz : zce len tx a = (true, e)) : a < len ∧ e ≤ len ∧ a < e := by
  have h := zce_kd (len := len) (tx := tx) (a := a) (by rw [hz])
  rw [hz] at h
  exact zkd_le h
set_option maxHeartbeats 2000000 in
set_option maxRecDepth 20000 in
theorem l0_X10_readsAll {lay : List zL} {Q : Value → zI → zJ → Prop} {d n e : Nat} {x2 : Value} {I : zI} {J : zJ} (he : e ≤ 1000) (hq : Q (.int (-10 - nI e)) I J) : Z lay MX10_readsAll d 10 [.ref 79, .int (nI n), x2] [.int (-10 - nI e)] I J Q := by
  refine z_istore_n (pc := 10) dX10_readsAll_10 rfl (by decide) rfl ?_
  try dsimp only [zst1, zst2, zk]
  refine z_iload_n (pc := 11) dX10_readsAll_11 rfl rfl ?_
  refine z_if_ge (pc := 12) (tgt := 17) dX10_readsAll_12 (by decide) (fun hb12 => absurd hb12 (zng_1 he)) (fun hb12 => ?_)
  refine z_iload_n (pc := 15) dX10_readsAll_15 rfl rfl ?_
  refine z_iret (pc := 16) dX10_readsAll_16 rfl ?_
  exact hq
set_option maxHeartbeats 2000000 in
set_option maxRecDepth 20000 in
theorem l_X10_readsAll {lay : List zL} {Q : Value → zI → zJ → Prop} {len : Nat} {tx : Nat → Nat} {d : Nat} {I0 : zI} {J : zJ} (hM : kM lay) (hX0 : vMT I0 len tx) : ∀ (f n p : Nat) (I : zI), n + (f + 1) = 12 → zpos len tx n = p → p ≤ len → zrow I len tx n → zfc4 I0 I 0 → (∀ N I', zfa len tx (f + 1) p = none → N ≤ 12 → zrow I' len tx N → len ≤ zpos len tx N → zfc4 I0 I' 0 → Q (.int (nI N)) I' J) → (∀ e I', zfa len tx (f + 1) p = some e → e ≤ 1000 → zfc4 I0 I' 0 → Q (.int (-10 - nI e)) I' J) → Z lay MX10_readsAll (d + 3) 4 [.ref 79, .int (nI n), .int (nI p)] [] I J Q := by
  obtain ⟨x1', x2, x3', x4⟩ := id hX0
  have h84 : ∀ {I I' : zI} {k : Nat}, zfc4 I0 I 0 → zfc4 I I' k → zfc4 I0 I' 0 := fun h h2 x y q => (h2 x y (by omega)).trans (h x y q)
  intro f
  induction f with
  | zero =>
    intro n p I hn hp ha hr hf K hno
    obtain rfl : n = 11 := (by omega)
    have hX := zfc4_X hf hX0
    obtain ⟨t, e, hz, hle⟩ := zce_pr len p tx
    obtain ⟨mo, m80, m81, m82, m83, m84, m85, m86, m87, m88, m89, m90, m91, m92, m93, m94, m95, m96⟩ := id hM
    refine z_aload_n (pc := 4) dX10_readsAll_4 rfl rfl ?_
    refine z_iload_n (pc := 5) dX10_readsAll_5 rfl rfl ?_
    refine z_iload_n (pc := 6) dX10_readsAll_6 rfl rfl ?_
    refine z_callV (pc := 7) (c_X10_readsClauseE hM hX ha (by omega) hz) dX10_readsAll_7 l_RX10_124 m_MX10_readsClause n_MX10_readsClause e_MX10_readsClause rfl (by omega) (by assumption) rfl rfl (Nat.le_of_ble_eq_true rfl) ?_
    rintro _ _ _ ⟨⟨rfl, rfl, hcl⟩ | ⟨rfl, rfl⟩, hf1, rfl⟩
    · have hX1 := zfc4_X hf1 hX; have y1 := hX1.1; have y3 := hX1.2.2.1; have hkd := zkd_len hz; have hr1 := zrow_s hr hf1 hp hz hcl; have hp1 := zpos_s hp hz
      try dsimp only [zov, Option.toList, List.cons_append, List.nil_append]
      refine z_istore_n (pc := 10) dX10_readsAll_10 rfl (by decide) rfl ?_
      try dsimp only [zst1, zst2, zk]
      refine z_iload_n (pc := 11) dX10_readsAll_11 rfl rfl ?_
      first | refine z_if_geN (pc := 12) (tgt := 17) (by with_reducible rfl) dX10_readsAll_12 (by decide) (by omega) (fun hb12 => ?_) (fun hb12 => ?_) | refine z_if_ge (pc := 12) (tgt := 17) dX10_readsAll_12 (by decide) (fun hb12 => ?_) (fun hb12 => ?_)
      · skip
        first | refine z_iincN (pc := 17) (c := 1) dX10_readsAll_17 rfl (by with_reducible rfl) (by decide) (by decide) rfl ?_ | refine z_iinc (pc := 17) dX10_readsAll_17 rfl rfl (by decide) rfl ?_
        try dsimp only [zst1, zst2, zk]
        refine z_iload_n (pc := 20) dX10_readsAll_20 rfl rfl ?_
        refine z_aload_n (pc := 21) dX10_readsAll_21 rfl rfl ?_
        refine z_getIv (pc := 22) dX10_readsAll_22 f_RX10_107 (by assumption) rfl (by first | assumption | exact y1 | exact y3 _ (by omega) | rfl) ?_
        first | refine z_icmp_neN (pc := 25) (tgt := 30) (by with_reducible rfl) (by with_reducible rfl) dX10_readsAll_25 (by decide) (by omega) (by omega) (fun hb25 => ?_) (fun hb25 => ?_) | refine z_icmp_ne (pc := 25) (tgt := 30) dX10_readsAll_25 (by decide) (fun hb25 => ?_) (fun hb25 => ?_)
        · skip
          refine z_aload_n (pc := 30) dX10_readsAll_30 rfl rfl ?_
          refine z_getR (pc := 31) dX10_readsAll_31 f_RX10_21 (by assumption) rfl ?_
          refine z_iload_n (pc := 34) dX10_readsAll_34 rfl rfl ?_
          refine z_ialoadv (pc := 35) dX10_readsAll_35 (by assumption) (by with_reducible rfl) (by omega) (by decide) (by first | assumption | exact y1 | exact y3 _ (by omega) | rfl) ?_
          have h127 := x4 e (by omega)
          refine z_bipush (pc := 36) (v := nI 59) dX10_readsAll_36 (by decide) ?_
          first | refine z_icmp_neN (pc := 38) (tgt := 47) (by with_reducible rfl) (by with_reducible rfl) dX10_readsAll_38 (by decide) (by omega) (by omega) (fun hb38 => ?_) (fun hb38 => ?_) | refine z_icmp_ne (pc := 38) (tgt := 47) dX10_readsAll_38 (by decide) (fun hb38 => ?_) (fun hb38 => ?_)
          · skip
            refine z_bipush (pc := 47) (v := -10) dX10_readsAll_47 (by decide) ?_
            refine z_iload_n (pc := 49) dX10_readsAll_49 rfl rfl ?_
            first | refine z_isubN (pc := 50) (by with_reducible rfl) (by with_reducible rfl) dX10_readsAll_50 (by omega) ?_ | refine z_isub (pc := 50) dX10_readsAll_50 ?_
            refine z_iret (pc := 51) dX10_readsAll_51 rfl ?_
            exact hno _ _ (zfa_b hz (by omega) (by omega)) (by omega) (h84 hf hf1)
          · skip
            refine z_iload_n (pc := 41) dX10_readsAll_41 rfl rfl ?_
            refine z_bipush (pc := 42) (v := nI 12) dX10_readsAll_42 (by decide) ?_
            first | refine z_icmp_neN (pc := 44) (tgt := 52) (by with_reducible rfl) (by with_reducible rfl) dX10_readsAll_44 (by decide) (by omega) (by omega) (fun hb44 => ?_) (fun hb44 => ?_) | refine z_icmp_ne (pc := 44) (tgt := 52) dX10_readsAll_44 (by decide) (fun hb44 => ?_) (fun hb44 => ?_)
            · skip
              first | refine z_iincN (pc := 52) (c := 1) dX10_readsAll_52 rfl (by with_reducible rfl) (by decide) (by decide) rfl ?_ | refine z_iinc (pc := 52) dX10_readsAll_52 rfl rfl (by decide) rfl ?_
              try dsimp only [zst1, zst2, zk]
              refine z_goto (pc := 55) (tgt := 4) dX10_readsAll_55 (by decide) ?_
              exact absurd hb44 (by omega)
            · skip
              refine z_bipush (pc := 47) (v := -10) dX10_readsAll_47 (by decide) ?_
              refine z_iload_n (pc := 49) dX10_readsAll_49 rfl rfl ?_
              first | refine z_isubN (pc := 50) (by with_reducible rfl) (by with_reducible rfl) dX10_readsAll_50 (by omega) ?_ | refine z_isub (pc := 50) dX10_readsAll_50 ?_
              refine z_iret (pc := 51) dX10_readsAll_51 rfl ?_
              exact hno _ _ (zfa_b hz (by omega) (by omega)) (by omega) (h84 hf hf1)
        · skip
          refine z_iload_n (pc := 28) dX10_readsAll_28 rfl rfl ?_
          refine z_iret (pc := 29) dX10_readsAll_29 rfl ?_
          exact K _ _ (zfa_e hz (by omega)) (by omega) hr1 (by omega) (h84 hf hf1)
      · skip
        refine z_iload_n (pc := 15) dX10_readsAll_15 rfl rfl ?_
        refine z_iret (pc := 16) dX10_readsAll_16 rfl ?_
        exact hb12.elim
    · exact l0_X10_readsAll (by omega) (hno _ _ (zfa_f hz) (by omega) (h84 hf hf1))
  | succ f ih =>
    intro n p I hn hp ha hr hf K hno
    have hX := zfc4_X hf hX0
    obtain ⟨t, e, hz, hle⟩ := zce_pr len p tx
    obtain ⟨mo, m80, m81, m82, m83, m84, m85, m86, m87, m88, m89, m90, m91, m92, m93, m94, m95, m96⟩ := id hM
    refine z_aload_n (pc := 4) dX10_readsAll_4 rfl rfl ?_
    refine z_iload_n (pc := 5) dX10_readsAll_5 rfl rfl ?_
    refine z_iload_n (pc := 6) dX10_readsAll_6 rfl rfl ?_
    refine z_callV (pc := 7) (c_X10_readsClauseE hM hX ha (by omega) hz) dX10_readsAll_7 l_RX10_124 m_MX10_readsClause n_MX10_readsClause e_MX10_readsClause rfl (by omega) (by assumption) rfl rfl (Nat.le_of_ble_eq_true rfl) ?_
    rintro _ _ _ ⟨⟨rfl, rfl, hcl⟩ | ⟨rfl, rfl⟩, hf1, rfl⟩
    · have hX1 := zfc4_X hf1 hX; have y1 := hX1.1; have y3 := hX1.2.2.1; have hkd := zkd_len hz; have hr1 := zrow_s hr hf1 hp hz hcl; have hp1 := zpos_s hp hz
      try dsimp only [zov, Option.toList, List.cons_append, List.nil_append]
      refine z_istore_n (pc := 10) dX10_readsAll_10 rfl (by decide) rfl ?_
      try dsimp only [zst1, zst2, zk]
      refine z_iload_n (pc := 11) dX10_readsAll_11 rfl rfl ?_
      first | refine z_if_geN (pc := 12) (tgt := 17) (by with_reducible rfl) dX10_readsAll_12 (by decide) (by omega) (fun hb12 => ?_) (fun hb12 => ?_) | refine z_if_ge (pc := 12) (tgt := 17) dX10_readsAll_12 (by decide) (fun hb12 => ?_) (fun hb12 => ?_)
      · skip
        first | refine z_iincN (pc := 17) (c := 1) dX10_readsAll_17 rfl (by with_reducible rfl) (by decide) (by decide) rfl ?_ | refine z_iinc (pc := 17) dX10_readsAll_17 rfl rfl (by decide) rfl ?_
        try dsimp only [zst1, zst2, zk]
        refine z_iload_n (pc := 20) dX10_readsAll_20 rfl rfl ?_
        refine z_aload_n (pc := 21) dX10_readsAll_21 rfl rfl ?_
        refine z_getIv (pc := 22) dX10_readsAll_22 f_RX10_107 (by assumption) rfl (by first | assumption | exact y1 | exact y3 _ (by omega) | rfl) ?_
        first | refine z_icmp_neN (pc := 25) (tgt := 30) (by with_reducible rfl) (by with_reducible rfl) dX10_readsAll_25 (by decide) (by omega) (by omega) (fun hb25 => ?_) (fun hb25 => ?_) | refine z_icmp_ne (pc := 25) (tgt := 30) dX10_readsAll_25 (by decide) (fun hb25 => ?_) (fun hb25 => ?_)
        · skip
          refine z_aload_n (pc := 30) dX10_readsAll_30 rfl rfl ?_
          refine z_getR (pc := 31) dX10_readsAll_31 f_RX10_21 (by assumption) rfl ?_
          refine z_iload_n (pc := 34) dX10_readsAll_34 rfl rfl ?_
          refine z_ialoadv (pc := 35) dX10_readsAll_35 (by assumption) (by with_reducible rfl) (by omega) (by decide) (by first | assumption | exact y1 | exact y3 _ (by omega) | rfl) ?_
          have h127 := x4 e (by omega)
          refine z_bipush (pc := 36) (v := nI 59) dX10_readsAll_36 (by decide) ?_
          first | refine z_icmp_neN (pc := 38) (tgt := 47) (by with_reducible rfl) (by with_reducible rfl) dX10_readsAll_38 (by decide) (by omega) (by omega) (fun hb38 => ?_) (fun hb38 => ?_) | refine z_icmp_ne (pc := 38) (tgt := 47) dX10_readsAll_38 (by decide) (fun hb38 => ?_) (fun hb38 => ?_)
          · skip
            refine z_bipush (pc := 47) (v := -10) dX10_readsAll_47 (by decide) ?_
            refine z_iload_n (pc := 49) dX10_readsAll_49 rfl rfl ?_
            first | refine z_isubN (pc := 50) (by with_reducible rfl) (by with_reducible rfl) dX10_readsAll_50 (by omega) ?_ | refine z_isub (pc := 50) dX10_readsAll_50 ?_
            refine z_iret (pc := 51) dX10_readsAll_51 rfl ?_
            exact hno _ _ (zfa_b hz (by omega) (by omega)) (by omega) (h84 hf hf1)
          · skip
            refine z_iload_n (pc := 41) dX10_readsAll_41 rfl rfl ?_
            refine z_bipush (pc := 42) (v := nI 12) dX10_readsAll_42 (by decide) ?_
            first | refine z_icmp_neN (pc := 44) (tgt := 52) (by with_reducible rfl) (by with_reducible rfl) dX10_readsAll_44 (by decide) (by omega) (by omega) (fun hb44 => ?_) (fun hb44 => ?_) | refine z_icmp_ne (pc := 44) (tgt := 52) dX10_readsAll_44 (by decide) (fun hb44 => ?_) (fun hb44 => ?_)
            · skip
              first | refine z_iincN (pc := 52) (c := 1) dX10_readsAll_52 rfl (by with_reducible rfl) (by decide) (by decide) rfl ?_ | refine z_iinc (pc := 52) dX10_readsAll_52 rfl rfl (by decide) rfl ?_
              try dsimp only [zst1, zst2, zk]
              refine z_goto (pc := 55) (tgt := 4) dX10_readsAll_55 (by decide) ?_
              exact ih (n + 1) (e + 1) _ (by omega) hp1 (by omega) hr1 (h84 hf hf1) (fun N I' h1 => K N I' (by rw [zfa_g hz (by omega) (by omega)]; exact h1)) (fun e' I' h1 => hno e' I' (by rw [zfa_g hz (by omega) (by omega)]; exact h1))
            · skip
              refine z_bipush (pc := 47) (v := -10) dX10_readsAll_47 (by decide) ?_
              refine z_iload_n (pc := 49) dX10_readsAll_49 rfl rfl ?_
              first | refine z_isubN (pc := 50) (by with_reducible rfl) (by with_reducible rfl) dX10_readsAll_50 (by omega) ?_ | refine z_isub (pc := 50) dX10_readsAll_50 ?_
              refine z_iret (pc := 51) dX10_readsAll_51 rfl ?_
              exact hno _ _ (zfa_b hz (by omega) (by omega)) (by omega) (h84 hf hf1)
        · skip
          refine z_iload_n (pc := 28) dX10_readsAll_28 rfl rfl ?_
          refine z_iret (pc := 29) dX10_readsAll_29 rfl ?_
          exact K _ _ (zfa_e hz (by omega)) (by omega) hr1 (by omega) (h84 hf hf1)
      · skip
        refine z_iload_n (pc := 15) dX10_readsAll_15 rfl rfl ?_
        refine z_iret (pc := 16) dX10_readsAll_16 rfl ?_
        exact hb12.elim
    · exact l0_X10_readsAll (by omega) (hno _ _ (zfa_f hz) (by omega) (h84 hf hf1))
set_option maxHeartbeats 2000000 in
set_option maxRecDepth 20000 in
theorem c_X10_readsAll {lay : List zL} {I : zI} {J : zJ} {len : Nat} {tx : Nat → Nat} (hM : kM lay) (hX : vMT I len tx) : zMet lay MX10_readsAll 3 [.ref 79] I J (fun r I' J' => ((∃ N, zfa len tx 12 0 = none ∧ r = .int (nI N) ∧ N ≤ 12 ∧ zrow I' len tx N ∧ len ≤ zpos len tx N) ∨ (∃ e, zfa len tx 12 0 = some e ∧ e ≤ 1000 ∧ r = .int (-10 - nI e))) ∧ zfc4 I I' 0 ∧ J = J') := by
  refine zMet_of (t := MX10_readsAll) (ls := [.ref 79, .null, .null]) (by decide +kernel) (Nat.le_of_ble_eq_true rfl) rfl ?_
  refine z_iconst (pc := 0) (v := nI 0) dX10_readsAll_0 (by decide) ?_
  refine z_istore_n (pc := 1) dX10_readsAll_1 rfl (by decide) rfl ?_
  try dsimp only [zst1, zst2, zk]
  refine z_iconst (pc := 2) (v := nI 0) dX10_readsAll_2 (by decide) ?_
  refine z_istore_n (pc := 3) dX10_readsAll_3 rfl (by decide) rfl ?_
  try dsimp only [zst1, zst2, zk]
  exact l_X10_readsAll (d := 0) (I0 := I) hM hX 11 0 0 I rfl rfl (Nat.zero_le _) (fun j h => absurd h (by omega)) (zfc4_r _ _) (fun N I' h1 h2 h3 h4 h5 => ⟨Or.inl ⟨N, h1, rfl, h2, h3, h4⟩, h5, rfl⟩) (fun e I' h1 h2 h3 => ⟨Or.inr ⟨e, h1, h2, rfl⟩, h3, rfl⟩)
/-- the end of a call that writes now alone -/
def zPN (I : zI) (J : zJ) (p : Value × zS) (r : Value) (I' : zI) (J' : zJ) : Prop := zPM I J p r I' J' ∧ ∀ x y, x ≠ 80 → I' x y = I x y
theorem zPN_same {I : zI} {J : zJ} {S : zS} {p : Value × zS} {r : Value} (h : vM I J S) (e : p = (r, S)) : zPN I J p r I J := ⟨zPM_same h e, fun _ _ _ => rfl⟩
theorem zPN_now {I I' : zI} {J J' : zJ} {S : zS} {n : Nat → Nat} {p : Value × zS} {r : Value} (h : vM I J S) (hI : ∀ x y, x ≠ 80 → I' x y = I x y) (hJ : zmJ J J') (hn : vW I' n) (hb : bN n) (hg : bG n) (e : p = (r, S.up n)) : zPN I J p r I' J' := ⟨zPM_now h (fun x y q _ => hI x y q) hJ hn hb hg e, hI⟩
set_option maxHeartbeats 2000000 in
set_option maxRecDepth 20000 in
theorem c_X10_sizeN {lay : List zL} {I : zI} {J : zJ} {S : zS} (hM : kM lay) (hV : vM I J S) {r0 c : Int32} : zMet lay MX10_size 2 [.ref 79, .int r0, .int c] I J (fun r I' J' => zPN I J (fsize S r0 c) r I' J') := by
  refine zMet_of (t := MX10_size) (ls := [.ref 79, .int r0, .int c, .null]) (by decide +kernel) (Nat.le_of_ble_eq_true rfl) rfl ?_
  obtain ⟨mo, m80, m81, m82, m83, m84, m85, m86, m87, m88, m89, m90, m91, m92, m93, m94, m95, m96⟩ := id hM
  have hW : vW I S.n := hV.1.1
  have hb := hV.1.2.1
  have hG := hV.1.2.2
  have hB := hb.1
  have hT := hb.2.1
  obtain ⟨b1, b2, b3, b4, b5, b6, b7, b8⟩ := id hB
  refine z_iload_n (pc := 0) dX10_size_0 rfl rfl ?_
  first | refine z_i2lN (pc := 1) (by with_reducible rfl) dX10_size_1 (by omega) ?_ | refine z_i2l (pc := 1) dX10_size_1 rfl ?_
  refine z_lconst (pc := 2) (v := lN 1) dX10_size_2 rfl ?_
  refine z_ldc2 (pc := 3) (v := lN 3) dX10_size_3 q_RX10_86 ?_
  refine z_callS (pc := 6) (c_X10_withinI (by omega) (by omega)) dX10_size_6 l_RX10_68 m_MX10_within s_MX10_within rfl (by omega) rfl (Nat.le_of_ble_eq_true rfl) ?_
  rintro _ _ _ ⟨⟨rfl, hr⟩ | ⟨rfl, hr⟩, rfl, rfl⟩
  · skip
    try dsimp only [zov, Option.toList, List.cons_append, List.nil_append]
    first | refine z_if_eqN (pc := 9) (tgt := 24) (by with_reducible rfl) dX10_size_9 (by decide) (by omega) (fun hb9 => absurd hb9 (by decide)) (fun hb9 => ?_) | refine z_if_eq (pc := 9) (tgt := 24) dX10_size_9 (by decide) (fun hb9 => absurd hb9 (by decide)) (fun hb9 => ?_)
    · skip
      refine z_iload_n (pc := 12) dX10_size_12 rfl rfl ?_
      first | refine z_i2lN (pc := 13) (by with_reducible rfl) dX10_size_13 (by omega) ?_ | refine z_i2l (pc := 13) dX10_size_13 rfl ?_
      refine z_lconst (pc := 14) (v := lN 1) dX10_size_14 rfl ?_
      refine z_ldc2 (pc := 15) (v := lN 3) dX10_size_15 q_RX10_86 ?_
      refine z_callS (pc := 18) (c_X10_withinI (by omega) (by omega)) dX10_size_18 l_RX10_68 m_MX10_within s_MX10_within rfl (by omega) rfl (Nat.le_of_ble_eq_true rfl) ?_
      rintro _ _ _ ⟨⟨rfl, hc⟩ | ⟨rfl, hc⟩, rfl, rfl⟩
      · obtain ⟨a, rfl, ha0, ha1⟩ := hr; obtain ⟨b, rfl, hb0, hb1⟩ := hc
        try dsimp only [zov, Option.toList, List.cons_append, List.nil_append]
        first | refine z_if_neN (pc := 21) (tgt := 27) (by with_reducible rfl) dX10_size_21 (by decide) (by omega) (fun hb21 => ?_) (fun hb21 => absurd hb21 (by decide)) | refine z_if_ne (pc := 21) (tgt := 27) dX10_size_21 (by decide) (fun hb21 => ?_) (fun hb21 => absurd hb21 (by decide))
        · skip
          refine z_aload_n (pc := 27) dX10_size_27 rfl rfl ?_
          refine z_getR (pc := 28) dX10_size_28 f_RX10_11 (by assumption) rfl ?_
          refine z_iconst (pc := 31) (v := nI 0) dX10_size_31 (by decide) ?_
          refine z_iload_n (pc := 32) dX10_size_32 rfl rfl ?_
          refine z_iastore (pc := 33) dX10_size_33 (by assumption) (by with_reducible rfl) (by omega) (by decide) ?_
          refine z_aload_n (pc := 34) dX10_size_34 rfl rfl ?_
          refine z_getR (pc := 35) dX10_size_35 f_RX10_11 (by assumption) rfl ?_
          refine z_iconst (pc := 38) (v := nI 1) dX10_size_38 (by decide) ?_
          refine z_iload_n (pc := 39) dX10_size_39 rfl rfl ?_
          refine z_iastore (pc := 40) dX10_size_40 (by assumption) (by with_reducible rfl) (by omega) (by decide) ?_
          refine z_iconst (pc := 41) (v := nI 0) dX10_size_41 (by decide) ?_
          refine z_istore_n (pc := 42) dX10_size_42 rfl (by decide) rfl ?_
          try dsimp only [zst1, zst2, zk]
          refine l_X10_size (n := S.n) (I0 := I) hM (fun I1 h1 hf1 => ?_) 9 0 _ rfl (fun j h3 h4 => ?_) (fun j hj => absurd hj (by omega)) (fun x y hx => by rw [zup_n _ _ (by omega), zup_n _ _ (by omega)])
          · skip
            refine z_aload_n (pc := 86) dX10_size_86 rfl rfl ?_
            refine z_getR (pc := 87) dX10_size_87 f_RX10_11 (by assumption) rfl ?_
            refine z_iconst (pc := 90) (v := nI 4) dX10_size_90 (by decide) ?_
            refine z_iconst (pc := 91) (v := nI 0) dX10_size_91 (by decide) ?_
            refine z_iastore (pc := 92) dX10_size_92 (by assumption) (by with_reducible rfl) (by omega) (by decide) ?_
            refine z_aload_n (pc := 93) dX10_size_93 rfl rfl ?_
            refine z_getR (pc := 94) dX10_size_94 f_RX10_11 (by assumption) rfl ?_
            refine z_iconst (pc := 97) (v := nI 5) dX10_size_97 (by decide) ?_
            refine z_iconst (pc := 98) (v := nI 0) dX10_size_98 (by decide) ?_
            refine z_iastore (pc := 99) dX10_size_99 (by assumption) (by with_reducible rfl) (by omega) (by decide) ?_
            refine z_aload_n (pc := 100) dX10_size_100 rfl rfl ?_
            refine z_getR (pc := 101) dX10_size_101 f_RX10_11 (by assumption) rfl ?_
            refine z_bipush (pc := 104) (v := nI 6) dX10_size_104 (by decide) ?_
            refine z_iconst (pc := 106) (v := nI 0) dX10_size_106 (by decide) ?_
            refine z_iastore (pc := 107) dX10_size_107 (by assumption) (by with_reducible rfl) (by omega) (by decide) ?_
            have hw1 : ∀ k, k < 73 → zup (zup (zup I1 80 4 (nI 0)) 80 5 (nI 0)) 80 6 (nI 0) 80 k = nI (zsz1 S.n a b k) := (by
              intro k hk
              unfold zsz1
              by_cases q6 : k = 6
              · rw [q6, if_pos (by omega)]; exact zup_s _ _ _ _
              rw [zup_n _ _ (by omega)]
              by_cases q5 : k = 5
              · rw [q5, if_pos (by omega)]; exact zup_s _ _ _ _
              rw [zup_n _ _ (by omega)]
              by_cases q4 : k = 4
              · rw [q4, if_pos (by omega)]; exact zup_s _ _ _ _
              rw [zup_n _ _ (by omega), if_neg (by omega)]
              exact h1 k hk (by omega))
            refine z_aload_n (pc := 108) dX10_size_108 rfl rfl ?_
            refine z_callV (pc := 109) (c_X10_begin (n := zsz1 S.n a b) hM (fun k hk => (by first | exact hw1 k hk))) dX10_size_109 l_RX10_88 m_MX10_begin n_MX10_begin e_MX10_begin rfl (by omega) (by assumption) rfl rfl (Nat.le_of_ble_eq_true rfl) ?_
            rintro _ _ _ (⟨rfl, hv, hi, rfl⟩)
            try dsimp only [zov, Option.toList, List.cons_append, List.nil_append]
            refine z_pop (pc := 112) dX10_size_112 rfl ?_
            refine z_iload_n (pc := 113) dX10_size_113 rfl rfl ?_
            refine z_iload_n (pc := 114) dX10_size_114 rfl rfl ?_
            first | refine z_imulN (pc := 115) (by with_reducible rfl) (by with_reducible rfl) dX10_size_115 ?_ | refine z_imul (pc := 115) dX10_size_115 ?_
            refine z_iret (pc := 116) dX10_size_116 rfl ?_
            exact zPN_now hV (fun x y q => by rw [hi x y q, zup_n _ _ (by omega), zup_n _ _ (by omega), zup_n _ _ (by omega)]; exact hf1 x y q) (zmJ_r _) (vW_eq hv (fun k _ => zsz1_tk.symm)) (zsize_bN ⟨ha0, ha1⟩ ⟨hb0, hb1⟩ b5) zsize_bG (fsize_y ⟨ha0, ha1⟩ ⟨hb0, hb1⟩)
          · unfold zbec
            by_cases q0 : j = 0
            · rw [q0, zup_n _ _ (by omega), if_pos rfl]; exact zup_s _ _ _ _
            by_cases q1 : j = 1
            · rw [q1, if_neg (by omega), if_pos rfl]; exact zup_s _ _ _ _
            rw [zup_n _ _ (by omega), zup_n _ _ (by omega), if_neg q0, if_neg q1, if_neg (by omega), if_neg (by omega), if_neg (by omega)]
            exact hW j h3
      · skip
        try dsimp only [zov, Option.toList, List.cons_append, List.nil_append]
        first | refine z_if_neN (pc := 21) (tgt := 27) (by with_reducible rfl) dX10_size_21 (by decide) (by omega) (fun hb21 => absurd hb21 (by decide)) (fun hb21 => ?_) | refine z_if_ne (pc := 21) (tgt := 27) dX10_size_21 (by decide) (fun hb21 => absurd hb21 (by decide)) (fun hb21 => ?_)
        · skip
          refine z_bipush (pc := 24) (v := -2) dX10_size_24 (by decide) ?_
          refine z_iret (pc := 26) dX10_size_26 rfl ?_
          first
            | exact zPN_same hV (fsize_n (fun q => hr (by obtain ⟨⟨a, e, h1, h2⟩, _⟩ := q; exact ⟨a, e, h1, h2⟩)))
            | exact zPN_same hV (fsize_n (fun q => hc (by obtain ⟨_, a, e, h1, h2⟩ := q; exact ⟨a, e, h1, h2⟩)))
            | fail
  · skip
    try dsimp only [zov, Option.toList, List.cons_append, List.nil_append]
    first | refine z_if_eqN (pc := 9) (tgt := 24) (by with_reducible rfl) dX10_size_9 (by decide) (by omega) (fun hb9 => ?_) (fun hb9 => absurd hb9 (by decide)) | refine z_if_eq (pc := 9) (tgt := 24) dX10_size_9 (by decide) (fun hb9 => ?_) (fun hb9 => absurd hb9 (by decide))
    · skip
      refine z_bipush (pc := 24) (v := -2) dX10_size_24 (by decide) ?_
      refine z_iret (pc := 26) dX10_size_26 rfl ?_
      first
        | exact zPN_same hV (fsize_n (fun q => hr (by obtain ⟨⟨a, e, h1, h2⟩, _⟩ := q; exact ⟨a, e, h1, h2⟩)))
        | exact zPN_same hV (fsize_n (fun q => hc (by obtain ⟨_, a, e, h1, h2⟩ := q; exact ⟨a, e, h1, h2⟩)))
        | fail
set_option maxHeartbeats 2000000 in
set_option maxRecDepth 20000 in
theorem c_X10_tellN {lay : List zL} {I : zI} {J : zJ} {S : zS} (hM : kM lay) (hV : vM I J S) {i j v : Int32} : zMet lay MX10_tell 2 [.ref 79, .int i, .int j, .int v] I J (fun r I' J' => zPN I J (ftell S i j v) r I' J') := by
  refine zMet_of (t := MX10_tell) (ls := [.ref 79, .int i, .int j, .int v, .null]) (by decide +kernel) (Nat.le_of_ble_eq_true rfl) rfl ?_
  obtain ⟨mo, m80, m81, m82, m83, m84, m85, m86, m87, m88, m89, m90, m91, m92, m93, m94, m95, m96⟩ := id hM
  have hW : vW I S.n := hV.1.1
  have hb := hV.1.2.1
  have hG := hV.1.2.2
  have hB := hb.1
  have hT := hb.2.1
  obtain ⟨b1, b2, b3, b4, b5, b6, b7, b8⟩ := id hB
  refine z_aload_n (pc := 0) dX10_tell_0 rfl rfl ?_
  refine z_iload_n (pc := 1) dX10_tell_1 rfl rfl ?_
  refine z_iload_n (pc := 2) dX10_tell_2 rfl rfl ?_
  refine z_callV (pc := 3) (c_X10_isCell hM hW hB) dX10_tell_3 l_RX10_72 m_MX10_isCell n_MX10_isCell e_MX10_isCell rfl (by omega) (by assumption) rfl rfl (Nat.le_of_ble_eq_true rfl) ?_
  rintro _ _ _ ⟨⟨rfl, hc⟩ | ⟨rfl, hc⟩, rfl, rfl⟩
  · obtain ⟨a, b, rfl, rfl, ha, hbb⟩ := hc; have hk : 3 * a + b < 9 := (by omega); have ea : 3 * a + b = 3 * a + b := rfl
    try dsimp only [zov, Option.toList, List.cons_append, List.nil_append]
    first | refine z_if_neN (pc := 6) (tgt := 11) (by with_reducible rfl) dX10_tell_6 (by decide) (by omega) (fun hb6 => ?_) (fun hb6 => absurd hb6 (by decide)) | refine z_if_ne (pc := 6) (tgt := 11) dX10_tell_6 (by decide) (fun hb6 => ?_) (fun hb6 => absurd hb6 (by decide))
    · skip
      refine z_iload_n (pc := 11) dX10_tell_11 rfl rfl ?_
      first | refine z_i2lN (pc := 12) (by with_reducible rfl) dX10_tell_12 (by omega) ?_ | refine z_i2l (pc := 12) dX10_tell_12 rfl ?_
      refine z_lconst (pc := 13) (v := lN 0) dX10_tell_13 rfl ?_
      refine z_ldc2 (pc := 14) (v := lN 20) dX10_tell_14 q_RX10_92 ?_
      refine z_callS (pc := 17) (c_X10_withinI (by omega) (by omega)) dX10_tell_17 l_RX10_68 m_MX10_within s_MX10_within rfl (by omega) rfl (Nat.le_of_ble_eq_true rfl) ?_
      rintro _ _ _ ⟨⟨rfl, hx⟩ | ⟨rfl, hx⟩, rfl, rfl⟩
      · obtain ⟨x, rfl, hx0, hx1⟩ := hx
        try dsimp only [zov, Option.toList, List.cons_append, List.nil_append]
        first | refine z_if_neN (pc := 20) (tgt := 26) (by with_reducible rfl) dX10_tell_20 (by decide) (by omega) (fun hb20 => ?_) (fun hb20 => absurd hb20 (by decide)) | refine z_if_ne (pc := 20) (tgt := 26) dX10_tell_20 (by decide) (fun hb20 => ?_) (fun hb20 => absurd hb20 (by decide))
        · skip
          refine z_aload_n (pc := 26) dX10_tell_26 rfl rfl ?_
          refine z_getR (pc := 27) dX10_tell_27 f_RX10_11 (by assumption) rfl ?_
          refine z_bipush (pc := 30) (v := nI 7) dX10_tell_30 (by decide) ?_
          refine z_iconst (pc := 32) (v := nI 3) dX10_tell_32 (by decide) ?_
          refine z_iload_n (pc := 33) dX10_tell_33 rfl rfl ?_
          first | refine z_imulN (pc := 34) (by with_reducible rfl) (by with_reducible rfl) dX10_tell_34 ?_ | refine z_imul (pc := 34) dX10_tell_34 ?_
          first | refine z_iaddN (pc := 35) (by with_reducible rfl) (by with_reducible rfl) dX10_tell_35 ?_ | refine z_iadd (pc := 35) dX10_tell_35 ?_
          refine z_iload_n (pc := 36) dX10_tell_36 rfl rfl ?_
          first | refine z_iaddN (pc := 37) (by with_reducible rfl) (by with_reducible rfl) dX10_tell_37 ?_ | refine z_iadd (pc := 37) dX10_tell_37 ?_
          refine z_ialoadv (pc := 38) dX10_tell_38 (by assumption) (by with_reducible rfl) (by omega) (by decide) (by first | assumption | exact hW _ (by omega) | rfl) ?_
          refine z_istore (pc := 39) dX10_tell_39 (by decide) rfl ?_
          try dsimp only [zst1, zst2, zk]
          refine z_aload_n (pc := 41) dX10_tell_41 rfl rfl ?_
          refine z_getR (pc := 42) dX10_tell_42 f_RX10_11 (by assumption) rfl ?_
          refine z_bipush (pc := 45) (v := nI 7) dX10_tell_45 (by decide) ?_
          refine z_iconst (pc := 47) (v := nI 3) dX10_tell_47 (by decide) ?_
          refine z_iload_n (pc := 48) dX10_tell_48 rfl rfl ?_
          first | refine z_imulN (pc := 49) (by with_reducible rfl) (by with_reducible rfl) dX10_tell_49 ?_ | refine z_imul (pc := 49) dX10_tell_49 ?_
          first | refine z_iaddN (pc := 50) (by with_reducible rfl) (by with_reducible rfl) dX10_tell_50 ?_ | refine z_iadd (pc := 50) dX10_tell_50 ?_
          refine z_iload_n (pc := 51) dX10_tell_51 rfl rfl ?_
          first | refine z_iaddN (pc := 52) (by with_reducible rfl) (by with_reducible rfl) dX10_tell_52 ?_ | refine z_iadd (pc := 52) dX10_tell_52 ?_
          refine z_iload_n (pc := 53) dX10_tell_53 rfl rfl ?_
          refine z_iastore (pc := 54) dX10_tell_54 (by assumption) (by with_reducible rfl) (by omega) (by decide) ?_
          refine z_aload_n (pc := 55) dX10_tell_55 rfl rfl ?_
          refine z_callV (pc := 56) (c_X10_begin hM (vW_up hW)) dX10_tell_56 l_RX10_88 m_MX10_begin n_MX10_begin e_MX10_begin rfl (by omega) (by assumption) rfl rfl (Nat.le_of_ble_eq_true rfl) ?_
          rintro _ _ _ (⟨rfl, hv, hi, rfl⟩)
          try dsimp only [zov, Option.toList, List.cons_append, List.nil_append]
          refine z_pop (pc := 59) dX10_tell_59 rfl ?_
          refine z_iload (pc := 60) dX10_tell_60 rfl ?_
          refine z_iret (pc := 62) dX10_tell_62 rfl ?_
          first
            | exact zPN_same hV (by rw [ftell, zC_n hc])
            | exact zPN_same hV (by rw [ftell, zC_y b2 b4 ha hbb, zR_n (isR_no hx)])
            | (rw [Nat.add_assoc] at hv
               exact zPN_now hV (fun x y q => by rw [hi x y q, zup_n _ _ (by omega)]) (zmJ_r _) hv (ztk_bN (zset1_bN hb (zset1_bSc hB hk hx1) (by omega) (by omega))) ztk_bG (by rw [ftell, zC_y b2 b4 ha hbb, zR_y (by decide) hx1, Nat.add_assoc]))
            | fail
      · skip
        try dsimp only [zov, Option.toList, List.cons_append, List.nil_append]
        first | refine z_if_neN (pc := 20) (tgt := 26) (by with_reducible rfl) dX10_tell_20 (by decide) (by omega) (fun hb20 => absurd hb20 (by decide)) (fun hb20 => ?_) | refine z_if_ne (pc := 20) (tgt := 26) dX10_tell_20 (by decide) (fun hb20 => absurd hb20 (by decide)) (fun hb20 => ?_)
        · skip
          refine z_bipush (pc := 23) (v := -2) dX10_tell_23 (by decide) ?_
          refine z_iret (pc := 25) dX10_tell_25 rfl ?_
          first
            | exact zPN_same hV (by rw [ftell, zC_n hc])
            | exact zPN_same hV (by rw [ftell, zC_y b2 b4 ha hbb, zR_n (isR_no hx)])
            | (rw [Nat.add_assoc] at hv
               exact zPN_now hV (fun x y q => by rw [hi x y q, zup_n _ _ (by omega)]) (zmJ_r _) hv (ztk_bN (zset1_bN hb (zset1_bSc hB hk hx1) (by omega) (by omega))) ztk_bG (by rw [ftell, zC_y b2 b4 ha hbb, zR_y (by decide) hx1, Nat.add_assoc]))
            | fail
  · skip
    try dsimp only [zov, Option.toList, List.cons_append, List.nil_append]
    first | refine z_if_neN (pc := 6) (tgt := 11) (by with_reducible rfl) dX10_tell_6 (by decide) (by omega) (fun hb6 => absurd hb6 (by decide)) (fun hb6 => ?_) | refine z_if_ne (pc := 6) (tgt := 11) dX10_tell_6 (by decide) (fun hb6 => absurd hb6 (by decide)) (fun hb6 => ?_)
    · skip
      refine z_iconst (pc := 9) (v := -1) dX10_tell_9 (by decide) ?_
      refine z_iret (pc := 10) dX10_tell_10 rfl ?_
      first
        | exact zPN_same hV (by rw [ftell, zC_n hc])
        | exact zPN_same hV (by rw [ftell, zC_y b2 b4 ha hbb, zR_n (isR_no hx)])
        | (rw [Nat.add_assoc] at hv
           exact zPN_now hV (fun x y q => by rw [hi x y q, zup_n _ _ (by omega)]) (zmJ_r _) hv (ztk_bN (zset1_bN hb (zset1_bSc hB hk hx1) (by omega) (by omega))) ztk_bG (by rw [ftell, zC_y b2 b4 ha hbb, zR_y (by decide) hx1, Nat.add_assoc]))
        | fail
set_option maxHeartbeats 2000000 in
set_option maxRecDepth 20000 in
theorem c_X10_markN {lay : List zL} {I : zI} {J : zJ} {S : zS} (hM : kM lay) (hV : vM I J S) {i j v : Int32} : zMet lay MX10_mark 2 [.ref 79, .int i, .int j, .int v] I J (fun r I' J' => zPN I J (fmark S i j v) r I' J') := by
  refine zMet_of (t := MX10_mark) (ls := [.ref 79, .int i, .int j, .int v]) (by decide +kernel) (Nat.le_of_ble_eq_true rfl) rfl ?_
  obtain ⟨mo, m80, m81, m82, m83, m84, m85, m86, m87, m88, m89, m90, m91, m92, m93, m94, m95, m96⟩ := id hM
  have hW : vW I S.n := hV.1.1
  have hb := hV.1.2.1
  have hG := hV.1.2.2
  have hB := hb.1
  have hT := hb.2.1
  obtain ⟨b1, b2, b3, b4, b5, b6, b7, b8⟩ := id hB
  refine z_aload_n (pc := 0) dX10_mark_0 rfl rfl ?_
  refine z_iload_n (pc := 1) dX10_mark_1 rfl rfl ?_
  refine z_iload_n (pc := 2) dX10_mark_2 rfl rfl ?_
  refine z_callV (pc := 3) (c_X10_isCell hM hW hB) dX10_mark_3 l_RX10_72 m_MX10_isCell n_MX10_isCell e_MX10_isCell rfl (by omega) (by assumption) rfl rfl (Nat.le_of_ble_eq_true rfl) ?_
  rintro _ _ _ ⟨⟨rfl, hc⟩ | ⟨rfl, hc⟩, rfl, rfl⟩
  · obtain ⟨a, b, rfl, rfl, ha, hbb⟩ := hc; have hk : 3 * a + b < 9 := (by omega); have ea : 3 * a + b = 3 * a + b := rfl
    try dsimp only [zov, Option.toList, List.cons_append, List.nil_append]
    first | refine z_if_neN (pc := 6) (tgt := 11) (by with_reducible rfl) dX10_mark_6 (by decide) (by omega) (fun hb6 => ?_) (fun hb6 => absurd hb6 (by decide)) | refine z_if_ne (pc := 6) (tgt := 11) dX10_mark_6 (by decide) (fun hb6 => ?_) (fun hb6 => absurd hb6 (by decide))
    · skip
      refine z_iload_n (pc := 11) dX10_mark_11 rfl rfl ?_
      first | refine z_i2lN (pc := 12) (by with_reducible rfl) dX10_mark_12 (by omega) ?_ | refine z_i2l (pc := 12) dX10_mark_12 rfl ?_
      refine z_lconst (pc := 13) (v := lN 0) dX10_mark_13 rfl ?_
      refine z_ldc2 (pc := 14) (v := lN 2) dX10_mark_14 q_RX10_76 ?_
      refine z_callS (pc := 17) (c_X10_withinI (by omega) (by omega)) dX10_mark_17 l_RX10_68 m_MX10_within s_MX10_within rfl (by omega) rfl (Nat.le_of_ble_eq_true rfl) ?_
      rintro _ _ _ ⟨⟨rfl, hx⟩ | ⟨rfl, hx⟩, rfl, rfl⟩
      · obtain ⟨x, rfl, hx0, hx1⟩ := hx
        try dsimp only [zov, Option.toList, List.cons_append, List.nil_append]
        first | refine z_if_eqN (pc := 20) (tgt := 39) (by with_reducible rfl) dX10_mark_20 (by decide) (by omega) (fun hb20 => absurd hb20 (by decide)) (fun hb20 => ?_) | refine z_if_eq (pc := 20) (tgt := 39) dX10_mark_20 (by decide) (fun hb20 => absurd hb20 (by decide)) (fun hb20 => ?_)
        · skip
          refine z_aload_n (pc := 23) dX10_mark_23 rfl rfl ?_
          refine z_bipush (pc := 24) (v := nI 16) dX10_mark_24 (by decide) ?_
          refine z_iconst (pc := 26) (v := nI 3) dX10_mark_26 (by decide) ?_
          refine z_iload_n (pc := 27) dX10_mark_27 rfl rfl ?_
          first | refine z_imulN (pc := 28) (by with_reducible rfl) (by with_reducible rfl) dX10_mark_28 ?_ | refine z_imul (pc := 28) dX10_mark_28 ?_
          first | refine z_iaddN (pc := 29) (by with_reducible rfl) (by with_reducible rfl) dX10_mark_29 ?_ | refine z_iadd (pc := 29) dX10_mark_29 ?_
          refine z_iload_n (pc := 30) dX10_mark_30 rfl rfl ?_
          first | refine z_iaddN (pc := 31) (by with_reducible rfl) (by with_reducible rfl) dX10_mark_31 ?_ | refine z_iadd (pc := 31) dX10_mark_31 ?_
          refine z_iload_n (pc := 32) dX10_mark_32 rfl rfl ?_
          refine z_callV (pc := 33) (c_X10_becomes hM hW (by omega)) dX10_mark_33 l_RX10_94 m_MX10_becomes n_MX10_becomes e_MX10_becomes rfl (by omega) (by assumption) rfl rfl (Nat.le_of_ble_eq_true rfl) ?_
          rintro _ _ _ (⟨rfl, rfl, rfl⟩)
          try dsimp only [zov, Option.toList, List.cons_append, List.nil_append]
          refine z_goto (pc := 36) (tgt := 41) dX10_mark_36 (by decide) ?_
          refine z_iret (pc := 41) dX10_mark_41 rfl ?_
          first
            | exact zPN_same hV (by rw [fmark, zC_n hc])
            | exact zPN_same hV (by rw [fmark, zC_y b2 b4 ha hbb, zR_n (isR_no hx)])
            | exact zPN_now hV (fun x y q => zup_n _ _ (by omega)) (zmJ_r _) (by rw [Nat.add_assoc]; exact vW_up hW) (zset1_bN hb (zset1_bSk hB hk hx1) (by omega) (by omega)) (zset1_bG hG (by omega)) (by rw [fmark, zC_y b2 b4 ha hbb, zR_y (by decide) hx1, Nat.add_assoc])
            | fail
      · skip
        try dsimp only [zov, Option.toList, List.cons_append, List.nil_append]
        first | refine z_if_eqN (pc := 20) (tgt := 39) (by with_reducible rfl) dX10_mark_20 (by decide) (by omega) (fun hb20 => ?_) (fun hb20 => absurd hb20 (by decide)) | refine z_if_eq (pc := 20) (tgt := 39) dX10_mark_20 (by decide) (fun hb20 => ?_) (fun hb20 => absurd hb20 (by decide))
        · skip
          refine z_bipush (pc := 39) (v := -2) dX10_mark_39 (by decide) ?_
          refine z_iret (pc := 41) dX10_mark_41 rfl ?_
          first
            | exact zPN_same hV (by rw [fmark, zC_n hc])
            | exact zPN_same hV (by rw [fmark, zC_y b2 b4 ha hbb, zR_n (isR_no hx)])
            | exact zPN_now hV (fun x y q => zup_n _ _ (by omega)) (zmJ_r _) (by rw [Nat.add_assoc]; exact vW_up hW) (zset1_bN hb (zset1_bSk hB hk hx1) (by omega) (by omega)) (zset1_bG hG (by omega)) (by rw [fmark, zC_y b2 b4 ha hbb, zR_y (by decide) hx1, Nat.add_assoc])
            | fail
  · skip
    try dsimp only [zov, Option.toList, List.cons_append, List.nil_append]
    first | refine z_if_neN (pc := 6) (tgt := 11) (by with_reducible rfl) dX10_mark_6 (by decide) (by omega) (fun hb6 => absurd hb6 (by decide)) (fun hb6 => ?_) | refine z_if_ne (pc := 6) (tgt := 11) dX10_mark_6 (by decide) (fun hb6 => absurd hb6 (by decide)) (fun hb6 => ?_)
    · skip
      refine z_iconst (pc := 9) (v := -1) dX10_mark_9 (by decide) ?_
      refine z_iret (pc := 10) dX10_mark_10 rfl ?_
      first
        | exact zPN_same hV (by rw [fmark, zC_n hc])
        | exact zPN_same hV (by rw [fmark, zC_y b2 b4 ha hbb, zR_n (isR_no hx)])
        | exact zPN_now hV (fun x y q => zup_n _ _ (by omega)) (zmJ_r _) (by rw [Nat.add_assoc]; exact vW_up hW) (zset1_bN hb (zset1_bSk hB hk hx1) (by omega) (by omega)) (zset1_bG hG (by omega)) (by rw [fmark, zC_y b2 b4 ha hbb, zR_y (by decide) hx1, Nat.add_assoc])
        | fail
set_option maxHeartbeats 2000000 in
set_option maxRecDepth 20000 in
theorem c_X10_marginN {lay : List zL} {I : zI} {J : zJ} {S : zS} (hM : kM lay) (hV : vM I J S) {w l v : Int32} : zMet lay MX10_margin 2 [.ref 79, .int w, .int l, .int v] I J (fun r I' J' => zPN I J (fmargin S w l v) r I' J') := by
  refine zMet_of (t := MX10_margin) (ls := [.ref 79, .int w, .int l, .int v]) (by decide +kernel) (Nat.le_of_ble_eq_true rfl) rfl ?_
  obtain ⟨mo, m80, m81, m82, m83, m84, m85, m86, m87, m88, m89, m90, m91, m92, m93, m94, m95, m96⟩ := id hM
  have hW : vW I S.n := hV.1.1
  have hb := hV.1.2.1
  have hG := hV.1.2.2
  have hB := hb.1
  have hT := hb.2.1
  obtain ⟨b1, b2, b3, b4, b5, b6, b7, b8⟩ := id hB
  refine z_aload_n (pc := 0) dX10_margin_0 rfl rfl ?_
  refine z_iload_n (pc := 1) dX10_margin_1 rfl rfl ?_
  refine z_iload_n (pc := 2) dX10_margin_2 rfl rfl ?_
  refine z_callV (pc := 3) (c_X10_isLine hM hW hB) dX10_margin_3 l_RX10_97 m_MX10_isLine n_MX10_isLine e_MX10_isLine rfl (by omega) (by assumption) rfl rfl (Nat.le_of_ble_eq_true rfl) ?_
  rintro _ _ _ ⟨⟨rfl, hc⟩ | ⟨rfl, hc⟩, rfl, rfl⟩
  · obtain ⟨a, b, rfl, rfl, ha, hbb⟩ := hc; have hz := zlines_le (w := a) b2 b4; have hk : 3 * a + b < 9 := (by omega)
    try dsimp only [zov, Option.toList, List.cons_append, List.nil_append]
    first | refine z_if_neN (pc := 6) (tgt := 11) (by with_reducible rfl) dX10_margin_6 (by decide) (by omega) (fun hb6 => ?_) (fun hb6 => absurd hb6 (by decide)) | refine z_if_ne (pc := 6) (tgt := 11) dX10_margin_6 (by decide) (fun hb6 => ?_) (fun hb6 => absurd hb6 (by decide))
    · skip
      refine z_iload_n (pc := 11) dX10_margin_11 rfl rfl ?_
      first | refine z_i2lN (pc := 12) (by with_reducible rfl) dX10_margin_12 (by omega) ?_ | refine z_i2l (pc := 12) dX10_margin_12 rfl ?_
      refine z_lconst (pc := 13) (v := lN 0) dX10_margin_13 rfl ?_
      refine z_ldc2 (pc := 14) (v := lN 60) dX10_margin_14 q_RX10_100 ?_
      refine z_callS (pc := 17) (c_X10_withinI (by omega) (by omega)) dX10_margin_17 l_RX10_68 m_MX10_within s_MX10_within rfl (by omega) rfl (Nat.le_of_ble_eq_true rfl) ?_
      rintro _ _ _ ⟨⟨rfl, hx⟩ | ⟨rfl, hx⟩, rfl, rfl⟩
      · obtain ⟨x, rfl, hx0, hx1⟩ := hx
        try dsimp only [zov, Option.toList, List.cons_append, List.nil_append]
        first | refine z_if_eqN (pc := 20) (tgt := 39) (by with_reducible rfl) dX10_margin_20 (by decide) (by omega) (fun hb20 => absurd hb20 (by decide)) (fun hb20 => ?_) | refine z_if_eq (pc := 20) (tgt := 39) dX10_margin_20 (by decide) (fun hb20 => absurd hb20 (by decide)) (fun hb20 => ?_)
        · skip
          refine z_aload_n (pc := 23) dX10_margin_23 rfl rfl ?_
          refine z_bipush (pc := 24) (v := nI 25) dX10_margin_24 (by decide) ?_
          refine z_iconst (pc := 26) (v := nI 3) dX10_margin_26 (by decide) ?_
          refine z_iload_n (pc := 27) dX10_margin_27 rfl rfl ?_
          first | refine z_imulN (pc := 28) (by with_reducible rfl) (by with_reducible rfl) dX10_margin_28 ?_ | refine z_imul (pc := 28) dX10_margin_28 ?_
          first | refine z_iaddN (pc := 29) (by with_reducible rfl) (by with_reducible rfl) dX10_margin_29 ?_ | refine z_iadd (pc := 29) dX10_margin_29 ?_
          refine z_iload_n (pc := 30) dX10_margin_30 rfl rfl ?_
          first | refine z_iaddN (pc := 31) (by with_reducible rfl) (by with_reducible rfl) dX10_margin_31 ?_ | refine z_iadd (pc := 31) dX10_margin_31 ?_
          refine z_iload_n (pc := 32) dX10_margin_32 rfl rfl ?_
          refine z_callV (pc := 33) (c_X10_becomes hM hW (by omega)) dX10_margin_33 l_RX10_94 m_MX10_becomes n_MX10_becomes e_MX10_becomes rfl (by omega) (by assumption) rfl rfl (Nat.le_of_ble_eq_true rfl) ?_
          rintro _ _ _ (⟨rfl, rfl, rfl⟩)
          try dsimp only [zov, Option.toList, List.cons_append, List.nil_append]
          refine z_goto (pc := 36) (tgt := 41) dX10_margin_36 (by decide) ?_
          refine z_iret (pc := 41) dX10_margin_41 rfl ?_
          first
            | exact zPN_same hV (by rw [fmargin, zLn_n hc])
            | exact zPN_same hV (by rw [fmargin, zLn_y b2 b4 ha hbb, zR_n (isR_no hx)])
            | exact zPN_now hV (fun x y q => zup_n _ _ (by omega)) (zmJ_r _) (by rw [Nat.add_assoc]; exact vW_up hW) (zset1_bN hb (zset1_bSm hB hk hx1) (by omega) (by omega)) (zset1_bG hG (by omega)) (by rw [fmargin, zLn_y b2 b4 ha hbb, zR_y (by decide) hx1, Nat.add_assoc])
            | fail
      · skip
        try dsimp only [zov, Option.toList, List.cons_append, List.nil_append]
        first | refine z_if_eqN (pc := 20) (tgt := 39) (by with_reducible rfl) dX10_margin_20 (by decide) (by omega) (fun hb20 => ?_) (fun hb20 => absurd hb20 (by decide)) | refine z_if_eq (pc := 20) (tgt := 39) dX10_margin_20 (by decide) (fun hb20 => ?_) (fun hb20 => absurd hb20 (by decide))
        · skip
          refine z_bipush (pc := 39) (v := -2) dX10_margin_39 (by decide) ?_
          refine z_iret (pc := 41) dX10_margin_41 rfl ?_
          first
            | exact zPN_same hV (by rw [fmargin, zLn_n hc])
            | exact zPN_same hV (by rw [fmargin, zLn_y b2 b4 ha hbb, zR_n (isR_no hx)])
            | exact zPN_now hV (fun x y q => zup_n _ _ (by omega)) (zmJ_r _) (by rw [Nat.add_assoc]; exact vW_up hW) (zset1_bN hb (zset1_bSm hB hk hx1) (by omega) (by omega)) (zset1_bG hG (by omega)) (by rw [fmargin, zLn_y b2 b4 ha hbb, zR_y (by decide) hx1, Nat.add_assoc])
            | fail
  · skip
    try dsimp only [zov, Option.toList, List.cons_append, List.nil_append]
    first | refine z_if_neN (pc := 6) (tgt := 11) (by with_reducible rfl) dX10_margin_6 (by decide) (by omega) (fun hb6 => absurd hb6 (by decide)) (fun hb6 => ?_) | refine z_if_ne (pc := 6) (tgt := 11) dX10_margin_6 (by decide) (fun hb6 => absurd hb6 (by decide)) (fun hb6 => ?_)
    · skip
      refine z_iconst (pc := 9) (v := -1) dX10_margin_9 (by decide) ?_
      refine z_iret (pc := 10) dX10_margin_10 rfl ?_
      first
        | exact zPN_same hV (by rw [fmargin, zLn_n hc])
        | exact zPN_same hV (by rw [fmargin, zLn_y b2 b4 ha hbb, zR_n (isR_no hx)])
        | exact zPN_now hV (fun x y q => zup_n _ _ (by omega)) (zmJ_r _) (by rw [Nat.add_assoc]; exact vW_up hW) (zset1_bN hb (zset1_bSm hB hk hx1) (by omega) (by omega)) (zset1_bG hG (by omega)) (by rw [fmargin, zLn_y b2 b4 ha hbb, zR_y (by decide) hx1, Nat.add_assoc])
        | fail
/-- the end of a clause -/
def zPE (I : zI) (J : zJ) (p : Value × zS) (r : Value) (I' : zI) (J' : zJ) : Prop := r = .int (nI (zge p.1)) ∧ vM I' J' p.2 ∧ (∀ x y, x ≠ 80 → I' x y = I x y) ∧ ∀ x, x < 79 → J' x = J x
theorem zPE_1 {I I' : zI} {J J' : zJ} {p : Value × zS} {x : Int32} (h : zPN I J p (.int x) I' J') (hx : ¬ x < 0) : zPE I J p (.int (nI 1)) I' J' := by
  obtain ⟨⟨h1, h2, h3, h4⟩, h5⟩ := h
  exact ⟨by rw [← h1]; show _ = Value.int (nI (if 0 ≤ x then 1 else 0)); rw [if_pos (Int32.not_lt.mp hx)], h2, h5, h4⟩
theorem zPE_0 {I I' : zI} {J J' : zJ} {p : Value × zS} {x : Int32} (h : zPN I J p (.int x) I' J') (hx : x < 0) : zPE I J p (.int (nI 0)) I' J' := by
  obtain ⟨⟨h1, h2, h3, h4⟩, h5⟩ := h
  exact ⟨by rw [← h1]; show _ = Value.int (nI (if 0 ≤ x then 1 else 0)); rw [if_neg (Int32.not_le.mpr hx)], h2, h5, h4⟩
set_option maxHeartbeats 2000000 in
set_option maxRecDepth 20000 in
theorem c_X10_does {lay : List zL} {I : zI} {J : zJ} {S : zS} (hM : kM lay) (hV : vM I J S) {len a e k : Nat} (hk12 : k < 12) (hkd : zkd len S.tx a e) (hr : zclr I S.tx k a e) : zMet lay MX10_does 3 [.ref 79, .int (nI k)] I J (fun r I' J' => zPE I J (zdoes S (zcl S.tx a e)) r I' J') := by
  refine zMet_of (t := MX10_does) (ls := [.ref 79, .int (nI k), .null, .null, .null]) (by decide +kernel) (Nat.le_of_ble_eq_true rfl) rfl ?_
  obtain ⟨mo, m80, m81, m82, m83, m84, m85, m86, m87, m88, m89, m90, m91, m92, m93, m94, m95, m96⟩ := id hM
  have hW : vW I S.n := hV.1.1
  have hb := hV.1.2.1
  have hG := hV.1.2.2
  have hB := hb.1
  have hT := hb.2.1
  obtain ⟨b1, b2, b3, b4, b5, b6, b7, b8⟩ := id hB
  obtain ⟨hr0, hr1, hr2⟩ := hr
  obtain ⟨hlt, hkd⟩ := hkd
  rcases hkd with ⟨hk, hd1, hd2, he⟩ | ⟨hk, hd1, hd2, hd3, he⟩ | ⟨hk, hd1, hd2, hd3, he⟩ | ⟨hk, he⟩
  · have z0 : I 84 (4 * k) = nI 115 := (by rw [hr0, hk])
    have z1 := (hr1 (by omega)).1
    have z2 := (hr1 (by omega)).2
    refine z_aload_n (pc := 0) dX10_does_0 rfl rfl ?_
    refine z_getR (pc := 1) dX10_does_1 f_RX10_24 (by assumption) rfl ?_
    refine z_iconst (pc := 4) (v := nI 4) dX10_does_4 (by decide) ?_
    refine z_iload_n (pc := 5) dX10_does_5 rfl rfl ?_
    first | refine z_imulN (pc := 6) (by with_reducible rfl) (by with_reducible rfl) dX10_does_6 ?_ | refine z_imul (pc := 6) dX10_does_6 ?_
    refine z_iconst (pc := 7) (v := nI 1) dX10_does_7 (by decide) ?_
    first | refine z_iaddN (pc := 8) (by with_reducible rfl) (by with_reducible rfl) dX10_does_8 ?_ | refine z_iadd (pc := 8) dX10_does_8 ?_
    refine z_ialoadv (pc := 9) dX10_does_9 (by assumption) (by with_reducible rfl) (by omega) (by decide) (by first | assumption | exact z0 | exact z1 | exact z2 | exact z3 | rfl) ?_
    refine z_istore_n (pc := 10) dX10_does_10 rfl (by decide) rfl ?_
    try dsimp only [zst1, zst2, zk]
    refine z_aload_n (pc := 11) dX10_does_11 rfl rfl ?_
    refine z_getR (pc := 12) dX10_does_12 f_RX10_24 (by assumption) rfl ?_
    refine z_iconst (pc := 15) (v := nI 4) dX10_does_15 (by decide) ?_
    refine z_iload_n (pc := 16) dX10_does_16 rfl rfl ?_
    first | refine z_imulN (pc := 17) (by with_reducible rfl) (by with_reducible rfl) dX10_does_17 ?_ | refine z_imul (pc := 17) dX10_does_17 ?_
    refine z_iconst (pc := 18) (v := nI 2) dX10_does_18 (by decide) ?_
    first | refine z_iaddN (pc := 19) (by with_reducible rfl) (by with_reducible rfl) dX10_does_19 ?_ | refine z_iadd (pc := 19) dX10_does_19 ?_
    refine z_ialoadv (pc := 20) dX10_does_20 (by assumption) (by with_reducible rfl) (by omega) (by decide) (by first | assumption | exact z0 | exact z1 | exact z2 | exact z3 | rfl) ?_
    refine z_istore_n (pc := 21) dX10_does_21 rfl (by decide) rfl ?_
    try dsimp only [zst1, zst2, zk]
    refine z_aload_n (pc := 22) dX10_does_22 rfl rfl ?_
    refine z_getR (pc := 23) dX10_does_23 f_RX10_24 (by assumption) rfl ?_
    refine z_iconst (pc := 26) (v := nI 4) dX10_does_26 (by decide) ?_
    refine z_iload_n (pc := 27) dX10_does_27 rfl rfl ?_
    first | refine z_imulN (pc := 28) (by with_reducible rfl) (by with_reducible rfl) dX10_does_28 ?_ | refine z_imul (pc := 28) dX10_does_28 ?_
    refine z_iconst (pc := 29) (v := nI 3) dX10_does_29 (by decide) ?_
    first | refine z_iaddN (pc := 30) (by with_reducible rfl) (by with_reducible rfl) dX10_does_30 ?_ | refine z_iadd (pc := 30) dX10_does_30 ?_
    refine z_ialoadv (pc := 31) dX10_does_31 (by assumption) (by with_reducible rfl) (by omega) (by decide) (by first | assumption | exact z0 | exact z1 | exact z2 | exact z3 | rfl) ?_
    refine z_istore (pc := 32) dX10_does_32 (by decide) rfl ?_
    try dsimp only [zst1, zst2, zk]
    refine z_aload_n (pc := 34) dX10_does_34 rfl rfl ?_
    refine z_getR (pc := 35) dX10_does_35 f_RX10_24 (by assumption) rfl ?_
    refine z_iconst (pc := 38) (v := nI 4) dX10_does_38 (by decide) ?_
    refine z_iload_n (pc := 39) dX10_does_39 rfl rfl ?_
    first | refine z_imulN (pc := 40) (by with_reducible rfl) (by with_reducible rfl) dX10_does_40 ?_ | refine z_imul (pc := 40) dX10_does_40 ?_
    refine z_ialoadv (pc := 41) dX10_does_41 (by assumption) (by with_reducible rfl) (by omega) (by decide) (by first | assumption | exact z0 | exact z1 | exact z2 | exact z3 | rfl) ?_
    refine z_tableIn (pc := 42) (off := 50) (tgt := 92) dX10_does_42 (by decide) (by decide) (by decide) (by decide) ?_
    refine z_aload_n (pc := 92) dX10_does_92 rfl rfl ?_
    refine z_iload_n (pc := 93) dX10_does_93 rfl rfl ?_
    refine z_iload_n (pc := 94) dX10_does_94 rfl rfl ?_
    refine z_callV (pc := 95) (c_X10_sizeN hM hV) dX10_does_95 l_RX10_64 m_MX10_size n_MX10_size e_MX10_size rfl (by omega) (by assumption) rfl rfl (Nat.le_of_ble_eq_true rfl) ?_
    rintro _ _ _ (hp)
    obtain ⟨x9, e9⟩ := fsize_i (S := S) (r := nI (S.tx (a + 1) - 48)) (c := nI (S.tx (a + 2) - 48))
    obtain rfl := hp.1.1.trans e9
    try dsimp only [zov, Option.toList, List.cons_append, List.nil_append]
    refine z_if_lt (pc := 98) (tgt := 105) dX10_does_98 (by decide) (fun hb98 => ?_) (fun hb98 => ?_)
    · skip
      refine z_iconst (pc := 105) (v := nI 0) dX10_does_105 (by decide) ?_
      refine z_zret (pc := 106) dX10_does_106 rfl (by first | decide | assumption) ?_
      first
      | (rw [zdoes_s hk]; exact zPE_1 hp hb98)
      | (rw [zdoes_s hk]; exact zPE_0 hp hb98)
      | fail
    · skip
      refine z_iconst (pc := 101) (v := nI 1) dX10_does_101 (by decide) ?_
      refine z_goto (pc := 102) (tgt := 106) dX10_does_102 (by decide) ?_
      refine z_zret (pc := 106) dX10_does_106 rfl (by first | decide | assumption) ?_
      first
      | (rw [zdoes_s hk]; exact zPE_1 hp hb98)
      | (rw [zdoes_s hk]; exact zPE_0 hp hb98)
      | fail
  · have z1 := (hr1 (by omega)).1
    have z2 := (hr1 (by omega)).2
    have z3 := hr2 (by omega) (by omega)
    rcases hk with hk | hk
    · have z0 : I 84 (4 * k) = nI 110 := (by rw [hr0, hk])
      refine z_aload_n (pc := 0) dX10_does_0 rfl rfl ?_
      refine z_getR (pc := 1) dX10_does_1 f_RX10_24 (by assumption) rfl ?_
      refine z_iconst (pc := 4) (v := nI 4) dX10_does_4 (by decide) ?_
      refine z_iload_n (pc := 5) dX10_does_5 rfl rfl ?_
      first | refine z_imulN (pc := 6) (by with_reducible rfl) (by with_reducible rfl) dX10_does_6 ?_ | refine z_imul (pc := 6) dX10_does_6 ?_
      refine z_iconst (pc := 7) (v := nI 1) dX10_does_7 (by decide) ?_
      first | refine z_iaddN (pc := 8) (by with_reducible rfl) (by with_reducible rfl) dX10_does_8 ?_ | refine z_iadd (pc := 8) dX10_does_8 ?_
      refine z_ialoadv (pc := 9) dX10_does_9 (by assumption) (by with_reducible rfl) (by omega) (by decide) (by first | assumption | exact z0 | exact z1 | exact z2 | exact z3 | rfl) ?_
      refine z_istore_n (pc := 10) dX10_does_10 rfl (by decide) rfl ?_
      try dsimp only [zst1, zst2, zk]
      refine z_aload_n (pc := 11) dX10_does_11 rfl rfl ?_
      refine z_getR (pc := 12) dX10_does_12 f_RX10_24 (by assumption) rfl ?_
      refine z_iconst (pc := 15) (v := nI 4) dX10_does_15 (by decide) ?_
      refine z_iload_n (pc := 16) dX10_does_16 rfl rfl ?_
      first | refine z_imulN (pc := 17) (by with_reducible rfl) (by with_reducible rfl) dX10_does_17 ?_ | refine z_imul (pc := 17) dX10_does_17 ?_
      refine z_iconst (pc := 18) (v := nI 2) dX10_does_18 (by decide) ?_
      first | refine z_iaddN (pc := 19) (by with_reducible rfl) (by with_reducible rfl) dX10_does_19 ?_ | refine z_iadd (pc := 19) dX10_does_19 ?_
      refine z_ialoadv (pc := 20) dX10_does_20 (by assumption) (by with_reducible rfl) (by omega) (by decide) (by first | assumption | exact z0 | exact z1 | exact z2 | exact z3 | rfl) ?_
      refine z_istore_n (pc := 21) dX10_does_21 rfl (by decide) rfl ?_
      try dsimp only [zst1, zst2, zk]
      refine z_aload_n (pc := 22) dX10_does_22 rfl rfl ?_
      refine z_getR (pc := 23) dX10_does_23 f_RX10_24 (by assumption) rfl ?_
      refine z_iconst (pc := 26) (v := nI 4) dX10_does_26 (by decide) ?_
      refine z_iload_n (pc := 27) dX10_does_27 rfl rfl ?_
      first | refine z_imulN (pc := 28) (by with_reducible rfl) (by with_reducible rfl) dX10_does_28 ?_ | refine z_imul (pc := 28) dX10_does_28 ?_
      refine z_iconst (pc := 29) (v := nI 3) dX10_does_29 (by decide) ?_
      first | refine z_iaddN (pc := 30) (by with_reducible rfl) (by with_reducible rfl) dX10_does_30 ?_ | refine z_iadd (pc := 30) dX10_does_30 ?_
      refine z_ialoadv (pc := 31) dX10_does_31 (by assumption) (by with_reducible rfl) (by omega) (by decide) (by first | assumption | exact z0 | exact z1 | exact z2 | exact z3 | rfl) ?_
      refine z_istore (pc := 32) dX10_does_32 (by decide) rfl ?_
      try dsimp only [zst1, zst2, zk]
      refine z_aload_n (pc := 34) dX10_does_34 rfl rfl ?_
      refine z_getR (pc := 35) dX10_does_35 f_RX10_24 (by assumption) rfl ?_
      refine z_iconst (pc := 38) (v := nI 4) dX10_does_38 (by decide) ?_
      refine z_iload_n (pc := 39) dX10_does_39 rfl rfl ?_
      first | refine z_imulN (pc := 40) (by with_reducible rfl) (by with_reducible rfl) dX10_does_40 ?_ | refine z_imul (pc := 40) dX10_does_40 ?_
      refine z_ialoadv (pc := 41) dX10_does_41 (by assumption) (by with_reducible rfl) (by omega) (by decide) (by first | assumption | exact z0 | exact z1 | exact z2 | exact z3 | rfl) ?_
      refine z_tableIn (pc := 42) (off := 65) (tgt := 107) dX10_does_42 (by decide) (by decide) (by decide) (by decide) ?_
      refine z_aload_n (pc := 107) dX10_does_107 rfl rfl ?_
      refine z_iload_n (pc := 108) dX10_does_108 rfl rfl ?_
      refine z_iload_n (pc := 109) dX10_does_109 rfl rfl ?_
      refine z_iload (pc := 110) dX10_does_110 rfl ?_
      refine z_callV (pc := 112) (c_X10_tellN hM hV) dX10_does_112 l_RX10_127 m_MX10_tell n_MX10_tell e_MX10_tell rfl (by omega) (by assumption) rfl rfl (Nat.le_of_ble_eq_true rfl) ?_
      rintro _ _ _ (hp)
      obtain ⟨x9, e9⟩ := ftell_i (S := S) (i := nI (S.tx (a + 1) - 48)) (j := nI (S.tx (a + 2) - 48)) (v := nI (if e = a + 4 then S.tx (a + 3) - 48 else 10 * (S.tx (a + 3) - 48) + (S.tx (a + 4) - 48)))
      obtain rfl := hp.1.1.trans e9
      try dsimp only [zov, Option.toList, List.cons_append, List.nil_append]
      refine z_if_lt (pc := 115) (tgt := 122) dX10_does_115 (by decide) (fun hb115 => ?_) (fun hb115 => ?_)
      · skip
        refine z_iconst (pc := 122) (v := nI 0) dX10_does_122 (by decide) ?_
        refine z_zret (pc := 123) dX10_does_123 rfl (by first | decide | assumption) ?_
        first
        | (rw [zdoes_n hk]; exact zPE_1 hp hb115)
        | (rw [zdoes_n hk]; exact zPE_0 hp hb115)
        | fail
      · skip
        refine z_iconst (pc := 118) (v := nI 1) dX10_does_118 (by decide) ?_
        refine z_goto (pc := 119) (tgt := 123) dX10_does_119 (by decide) ?_
        refine z_zret (pc := 123) dX10_does_123 rfl (by first | decide | assumption) ?_
        first
        | (rw [zdoes_n hk]; exact zPE_1 hp hb115)
        | (rw [zdoes_n hk]; exact zPE_0 hp hb115)
        | fail
    · have z0 : I 84 (4 * k) = nI 109 := (by rw [hr0, hk])
      refine z_aload_n (pc := 0) dX10_does_0 rfl rfl ?_
      refine z_getR (pc := 1) dX10_does_1 f_RX10_24 (by assumption) rfl ?_
      refine z_iconst (pc := 4) (v := nI 4) dX10_does_4 (by decide) ?_
      refine z_iload_n (pc := 5) dX10_does_5 rfl rfl ?_
      first | refine z_imulN (pc := 6) (by with_reducible rfl) (by with_reducible rfl) dX10_does_6 ?_ | refine z_imul (pc := 6) dX10_does_6 ?_
      refine z_iconst (pc := 7) (v := nI 1) dX10_does_7 (by decide) ?_
      first | refine z_iaddN (pc := 8) (by with_reducible rfl) (by with_reducible rfl) dX10_does_8 ?_ | refine z_iadd (pc := 8) dX10_does_8 ?_
      refine z_ialoadv (pc := 9) dX10_does_9 (by assumption) (by with_reducible rfl) (by omega) (by decide) (by first | assumption | exact z0 | exact z1 | exact z2 | exact z3 | rfl) ?_
      refine z_istore_n (pc := 10) dX10_does_10 rfl (by decide) rfl ?_
      try dsimp only [zst1, zst2, zk]
      refine z_aload_n (pc := 11) dX10_does_11 rfl rfl ?_
      refine z_getR (pc := 12) dX10_does_12 f_RX10_24 (by assumption) rfl ?_
      refine z_iconst (pc := 15) (v := nI 4) dX10_does_15 (by decide) ?_
      refine z_iload_n (pc := 16) dX10_does_16 rfl rfl ?_
      first | refine z_imulN (pc := 17) (by with_reducible rfl) (by with_reducible rfl) dX10_does_17 ?_ | refine z_imul (pc := 17) dX10_does_17 ?_
      refine z_iconst (pc := 18) (v := nI 2) dX10_does_18 (by decide) ?_
      first | refine z_iaddN (pc := 19) (by with_reducible rfl) (by with_reducible rfl) dX10_does_19 ?_ | refine z_iadd (pc := 19) dX10_does_19 ?_
      refine z_ialoadv (pc := 20) dX10_does_20 (by assumption) (by with_reducible rfl) (by omega) (by decide) (by first | assumption | exact z0 | exact z1 | exact z2 | exact z3 | rfl) ?_
      refine z_istore_n (pc := 21) dX10_does_21 rfl (by decide) rfl ?_
      try dsimp only [zst1, zst2, zk]
      refine z_aload_n (pc := 22) dX10_does_22 rfl rfl ?_
      refine z_getR (pc := 23) dX10_does_23 f_RX10_24 (by assumption) rfl ?_
      refine z_iconst (pc := 26) (v := nI 4) dX10_does_26 (by decide) ?_
      refine z_iload_n (pc := 27) dX10_does_27 rfl rfl ?_
      first | refine z_imulN (pc := 28) (by with_reducible rfl) (by with_reducible rfl) dX10_does_28 ?_ | refine z_imul (pc := 28) dX10_does_28 ?_
      refine z_iconst (pc := 29) (v := nI 3) dX10_does_29 (by decide) ?_
      first | refine z_iaddN (pc := 30) (by with_reducible rfl) (by with_reducible rfl) dX10_does_30 ?_ | refine z_iadd (pc := 30) dX10_does_30 ?_
      refine z_ialoadv (pc := 31) dX10_does_31 (by assumption) (by with_reducible rfl) (by omega) (by decide) (by first | assumption | exact z0 | exact z1 | exact z2 | exact z3 | rfl) ?_
      refine z_istore (pc := 32) dX10_does_32 (by decide) rfl ?_
      try dsimp only [zst1, zst2, zk]
      refine z_aload_n (pc := 34) dX10_does_34 rfl rfl ?_
      refine z_getR (pc := 35) dX10_does_35 f_RX10_24 (by assumption) rfl ?_
      refine z_iconst (pc := 38) (v := nI 4) dX10_does_38 (by decide) ?_
      refine z_iload_n (pc := 39) dX10_does_39 rfl rfl ?_
      first | refine z_imulN (pc := 40) (by with_reducible rfl) (by with_reducible rfl) dX10_does_40 ?_ | refine z_imul (pc := 40) dX10_does_40 ?_
      refine z_ialoadv (pc := 41) dX10_does_41 (by assumption) (by with_reducible rfl) (by omega) (by decide) (by first | assumption | exact z0 | exact z1 | exact z2 | exact z3 | rfl) ?_
      refine z_tableIn (pc := 42) (off := 99) (tgt := 141) dX10_does_42 (by decide) (by decide) (by decide) (by decide) ?_
      refine z_aload_n (pc := 141) dX10_does_141 rfl rfl ?_
      refine z_iload_n (pc := 142) dX10_does_142 rfl rfl ?_
      refine z_iload_n (pc := 143) dX10_does_143 rfl rfl ?_
      refine z_iload (pc := 144) dX10_does_144 rfl ?_
      refine z_callV (pc := 146) (c_X10_marginN hM hV) dX10_does_146 l_RX10_134 m_MX10_margin n_MX10_margin e_MX10_margin rfl (by omega) (by assumption) rfl rfl (Nat.le_of_ble_eq_true rfl) ?_
      rintro _ _ _ (hp)
      obtain ⟨x9, e9⟩ := fmargin_i (S := S) (i := nI (S.tx (a + 1) - 48)) (j := nI (S.tx (a + 2) - 48)) (v := nI (if e = a + 4 then S.tx (a + 3) - 48 else 10 * (S.tx (a + 3) - 48) + (S.tx (a + 4) - 48)))
      obtain rfl := hp.1.1.trans e9
      try dsimp only [zov, Option.toList, List.cons_append, List.nil_append]
      refine z_if_lt (pc := 149) (tgt := 156) dX10_does_149 (by decide) (fun hb149 => ?_) (fun hb149 => ?_)
      · skip
        refine z_iconst (pc := 156) (v := nI 0) dX10_does_156 (by decide) ?_
        refine z_zret (pc := 157) dX10_does_157 rfl (by first | decide | assumption) ?_
        first
        | (rw [zdoes_m hk]; exact zPE_1 hp hb149)
        | (rw [zdoes_m hk]; exact zPE_0 hp hb149)
        | fail
      · skip
        refine z_iconst (pc := 152) (v := nI 1) dX10_does_152 (by decide) ?_
        refine z_goto (pc := 153) (tgt := 157) dX10_does_153 (by decide) ?_
        refine z_zret (pc := 157) dX10_does_157 rfl (by first | decide | assumption) ?_
        first
        | (rw [zdoes_m hk]; exact zPE_1 hp hb149)
        | (rw [zdoes_m hk]; exact zPE_0 hp hb149)
        | fail
  · have z0 : I 84 (4 * k) = nI 107 := (by rw [hr0, hk])
    have z1 := (hr1 (by omega)).1
    have z2 := (hr1 (by omega)).2
    have z3 := hr2 (by omega) (by omega)
    refine z_aload_n (pc := 0) dX10_does_0 rfl rfl ?_
    refine z_getR (pc := 1) dX10_does_1 f_RX10_24 (by assumption) rfl ?_
    refine z_iconst (pc := 4) (v := nI 4) dX10_does_4 (by decide) ?_
    refine z_iload_n (pc := 5) dX10_does_5 rfl rfl ?_
    first | refine z_imulN (pc := 6) (by with_reducible rfl) (by with_reducible rfl) dX10_does_6 ?_ | refine z_imul (pc := 6) dX10_does_6 ?_
    refine z_iconst (pc := 7) (v := nI 1) dX10_does_7 (by decide) ?_
    first | refine z_iaddN (pc := 8) (by with_reducible rfl) (by with_reducible rfl) dX10_does_8 ?_ | refine z_iadd (pc := 8) dX10_does_8 ?_
    refine z_ialoadv (pc := 9) dX10_does_9 (by assumption) (by with_reducible rfl) (by omega) (by decide) (by first | assumption | exact z0 | exact z1 | exact z2 | exact z3 | rfl) ?_
    refine z_istore_n (pc := 10) dX10_does_10 rfl (by decide) rfl ?_
    try dsimp only [zst1, zst2, zk]
    refine z_aload_n (pc := 11) dX10_does_11 rfl rfl ?_
    refine z_getR (pc := 12) dX10_does_12 f_RX10_24 (by assumption) rfl ?_
    refine z_iconst (pc := 15) (v := nI 4) dX10_does_15 (by decide) ?_
    refine z_iload_n (pc := 16) dX10_does_16 rfl rfl ?_
    first | refine z_imulN (pc := 17) (by with_reducible rfl) (by with_reducible rfl) dX10_does_17 ?_ | refine z_imul (pc := 17) dX10_does_17 ?_
    refine z_iconst (pc := 18) (v := nI 2) dX10_does_18 (by decide) ?_
    first | refine z_iaddN (pc := 19) (by with_reducible rfl) (by with_reducible rfl) dX10_does_19 ?_ | refine z_iadd (pc := 19) dX10_does_19 ?_
    refine z_ialoadv (pc := 20) dX10_does_20 (by assumption) (by with_reducible rfl) (by omega) (by decide) (by first | assumption | exact z0 | exact z1 | exact z2 | exact z3 | rfl) ?_
    refine z_istore_n (pc := 21) dX10_does_21 rfl (by decide) rfl ?_
    try dsimp only [zst1, zst2, zk]
    refine z_aload_n (pc := 22) dX10_does_22 rfl rfl ?_
    refine z_getR (pc := 23) dX10_does_23 f_RX10_24 (by assumption) rfl ?_
    refine z_iconst (pc := 26) (v := nI 4) dX10_does_26 (by decide) ?_
    refine z_iload_n (pc := 27) dX10_does_27 rfl rfl ?_
    first | refine z_imulN (pc := 28) (by with_reducible rfl) (by with_reducible rfl) dX10_does_28 ?_ | refine z_imul (pc := 28) dX10_does_28 ?_
    refine z_iconst (pc := 29) (v := nI 3) dX10_does_29 (by decide) ?_
    first | refine z_iaddN (pc := 30) (by with_reducible rfl) (by with_reducible rfl) dX10_does_30 ?_ | refine z_iadd (pc := 30) dX10_does_30 ?_
    refine z_ialoadv (pc := 31) dX10_does_31 (by assumption) (by with_reducible rfl) (by omega) (by decide) (by first | assumption | exact z0 | exact z1 | exact z2 | exact z3 | rfl) ?_
    refine z_istore (pc := 32) dX10_does_32 (by decide) rfl ?_
    try dsimp only [zst1, zst2, zk]
    refine z_aload_n (pc := 34) dX10_does_34 rfl rfl ?_
    refine z_getR (pc := 35) dX10_does_35 f_RX10_24 (by assumption) rfl ?_
    refine z_iconst (pc := 38) (v := nI 4) dX10_does_38 (by decide) ?_
    refine z_iload_n (pc := 39) dX10_does_39 rfl rfl ?_
    first | refine z_imulN (pc := 40) (by with_reducible rfl) (by with_reducible rfl) dX10_does_40 ?_ | refine z_imul (pc := 40) dX10_does_40 ?_
    refine z_ialoadv (pc := 41) dX10_does_41 (by assumption) (by with_reducible rfl) (by omega) (by decide) (by first | assumption | exact z0 | exact z1 | exact z2 | exact z3 | rfl) ?_
    refine z_tableIn (pc := 42) (off := 82) (tgt := 124) dX10_does_42 (by decide) (by decide) (by decide) (by decide) ?_
    refine z_aload_n (pc := 124) dX10_does_124 rfl rfl ?_
    refine z_iload_n (pc := 125) dX10_does_125 rfl rfl ?_
    refine z_iload_n (pc := 126) dX10_does_126 rfl rfl ?_
    refine z_iload (pc := 127) dX10_does_127 rfl ?_
    refine z_callV (pc := 129) (c_X10_markN hM hV) dX10_does_129 l_RX10_131 m_MX10_mark n_MX10_mark e_MX10_mark rfl (by omega) (by assumption) rfl rfl (Nat.le_of_ble_eq_true rfl) ?_
    rintro _ _ _ (hp)
    obtain ⟨x9, e9⟩ := fmark_i (S := S) (i := nI (S.tx (a + 1) - 48)) (j := nI (S.tx (a + 2) - 48)) (v := nI (if e = a + 4 then S.tx (a + 3) - 48 else 10 * (S.tx (a + 3) - 48) + (S.tx (a + 4) - 48)))
    obtain rfl := hp.1.1.trans e9
    try dsimp only [zov, Option.toList, List.cons_append, List.nil_append]
    refine z_if_lt (pc := 132) (tgt := 139) dX10_does_132 (by decide) (fun hb132 => ?_) (fun hb132 => ?_)
    · skip
      refine z_iconst (pc := 139) (v := nI 0) dX10_does_139 (by decide) ?_
      refine z_zret (pc := 140) dX10_does_140 rfl (by first | decide | assumption) ?_
      first
      | (rw [zdoes_k hk]; exact zPE_1 hp hb132)
      | (rw [zdoes_k hk]; exact zPE_0 hp hb132)
      | fail
    · skip
      refine z_iconst (pc := 135) (v := nI 1) dX10_does_135 (by decide) ?_
      refine z_goto (pc := 136) (tgt := 140) dX10_does_136 (by decide) ?_
      refine z_zret (pc := 140) dX10_does_140 rfl (by first | decide | assumption) ?_
      first
      | (rw [zdoes_k hk]; exact zPE_1 hp hb132)
      | (rw [zdoes_k hk]; exact zPE_0 hp hb132)
      | fail
  · have z0 : I 84 (4 * k) = nI 120 := (by rw [hr0, hk])
    refine z_aload_n (pc := 0) dX10_does_0 rfl rfl ?_
    refine z_getR (pc := 1) dX10_does_1 f_RX10_24 (by assumption) rfl ?_
    refine z_iconst (pc := 4) (v := nI 4) dX10_does_4 (by decide) ?_
    refine z_iload_n (pc := 5) dX10_does_5 rfl rfl ?_
    first | refine z_imulN (pc := 6) (by with_reducible rfl) (by with_reducible rfl) dX10_does_6 ?_ | refine z_imul (pc := 6) dX10_does_6 ?_
    refine z_iconst (pc := 7) (v := nI 1) dX10_does_7 (by decide) ?_
    first | refine z_iaddN (pc := 8) (by with_reducible rfl) (by with_reducible rfl) dX10_does_8 ?_ | refine z_iadd (pc := 8) dX10_does_8 ?_
    refine z_ialoadv (pc := 9) dX10_does_9 (by assumption) (by with_reducible rfl) (by omega) (by decide) (by first | assumption | exact z0 | exact z1 | exact z2 | exact z3 | rfl) ?_
    refine z_istore_n (pc := 10) dX10_does_10 rfl (by decide) rfl ?_
    try dsimp only [zst1, zst2, zk]
    refine z_aload_n (pc := 11) dX10_does_11 rfl rfl ?_
    refine z_getR (pc := 12) dX10_does_12 f_RX10_24 (by assumption) rfl ?_
    refine z_iconst (pc := 15) (v := nI 4) dX10_does_15 (by decide) ?_
    refine z_iload_n (pc := 16) dX10_does_16 rfl rfl ?_
    first | refine z_imulN (pc := 17) (by with_reducible rfl) (by with_reducible rfl) dX10_does_17 ?_ | refine z_imul (pc := 17) dX10_does_17 ?_
    refine z_iconst (pc := 18) (v := nI 2) dX10_does_18 (by decide) ?_
    first | refine z_iaddN (pc := 19) (by with_reducible rfl) (by with_reducible rfl) dX10_does_19 ?_ | refine z_iadd (pc := 19) dX10_does_19 ?_
    refine z_ialoadv (pc := 20) dX10_does_20 (by assumption) (by with_reducible rfl) (by omega) (by decide) (by first | assumption | exact z0 | exact z1 | exact z2 | exact z3 | rfl) ?_
    refine z_istore_n (pc := 21) dX10_does_21 rfl (by decide) rfl ?_
    try dsimp only [zst1, zst2, zk]
    refine z_aload_n (pc := 22) dX10_does_22 rfl rfl ?_
    refine z_getR (pc := 23) dX10_does_23 f_RX10_24 (by assumption) rfl ?_
    refine z_iconst (pc := 26) (v := nI 4) dX10_does_26 (by decide) ?_
    refine z_iload_n (pc := 27) dX10_does_27 rfl rfl ?_
    first | refine z_imulN (pc := 28) (by with_reducible rfl) (by with_reducible rfl) dX10_does_28 ?_ | refine z_imul (pc := 28) dX10_does_28 ?_
    refine z_iconst (pc := 29) (v := nI 3) dX10_does_29 (by decide) ?_
    first | refine z_iaddN (pc := 30) (by with_reducible rfl) (by with_reducible rfl) dX10_does_30 ?_ | refine z_iadd (pc := 30) dX10_does_30 ?_
    refine z_ialoadv (pc := 31) dX10_does_31 (by assumption) (by with_reducible rfl) (by omega) (by decide) (by first | assumption | exact z0 | exact z1 | exact z2 | exact z3 | rfl) ?_
    refine z_istore (pc := 32) dX10_does_32 (by decide) rfl ?_
    try dsimp only [zst1, zst2, zk]
    refine z_aload_n (pc := 34) dX10_does_34 rfl rfl ?_
    refine z_getR (pc := 35) dX10_does_35 f_RX10_24 (by assumption) rfl ?_
    refine z_iconst (pc := 38) (v := nI 4) dX10_does_38 (by decide) ?_
    refine z_iload_n (pc := 39) dX10_does_39 rfl rfl ?_
    first | refine z_imulN (pc := 40) (by with_reducible rfl) (by with_reducible rfl) dX10_does_40 ?_ | refine z_imul (pc := 40) dX10_does_40 ?_
    refine z_ialoadv (pc := 41) dX10_does_41 (by assumption) (by with_reducible rfl) (by omega) (by decide) (by first | assumption | exact z0 | exact z1 | exact z2 | exact z3 | rfl) ?_
    refine z_tableOut (pc := 42) (tgt := 158) dX10_does_42 (by decide) (by decide) ?_
    refine z_aload_n (pc := 158) dX10_does_158 rfl rfl ?_
    refine z_getR (pc := 159) dX10_does_159 f_RX10_11 (by assumption) rfl ?_
    refine z_iconst (pc := 162) (v := nI 2) dX10_does_162 (by decide) ?_
    refine z_iconst (pc := 163) (v := nI 1) dX10_does_163 (by decide) ?_
    refine z_aload_n (pc := 164) dX10_does_164 rfl rfl ?_
    refine z_getR (pc := 165) dX10_does_165 f_RX10_11 (by assumption) rfl ?_
    refine z_iconst (pc := 168) (v := nI 2) dX10_does_168 (by decide) ?_
    refine z_ialoadv (pc := 169) dX10_does_169 (by assumption) (by with_reducible rfl) (by omega) (by decide) (by first | assumption | exact hW _ (by omega) | rfl) ?_
    first | refine z_isubN (pc := 170) (by with_reducible rfl) (by with_reducible rfl) dX10_does_170 (by omega) ?_ | refine z_isub (pc := 170) dX10_does_170 ?_
    refine z_iastore (pc := 171) dX10_does_171 (by assumption) (by with_reducible rfl) (by omega) (by decide) ?_
    refine z_iconst (pc := 172) (v := nI 1) dX10_does_172 (by decide) ?_
    refine z_zret (pc := 173) dX10_does_173 rfl (by first | decide | assumption) ?_
    rw [zdoes_x hk]
    exact ⟨(by show _ = Value.int (nI (if (0 : Int32) ≤ nI (S.n 2) then 1 else 0)); rw [if_pos (nI_le0 (by omega))]), vM_now hV (fun x y q _ => zup_n _ _ (by omega)) (zmJ_r _) (vW_up hW) (zset1_bN hb (zset1_bS2 hB (by omega)) (by omega) (by omega)) (zset1_bG hG (by omega)), fun x y q => zup_n _ _ (by omega), fun _ _ => rfl⟩
theorem fsize_u {S : zS} {r c : Int32} {l : Nat} {t : Nat → Nat} : fsize (S.upX l t) r c = ((fsize S r c).1, (fsize S r c).2.upX l t) := by
  unfold fsize
  cases zR 3 r <;> cases zR 3 c <;> first | rfl | (dsimp only; split <;> rfl)
theorem ftell_u {S : zS} {i j v : Int32} {l : Nat} {t : Nat → Nat} : ftell (S.upX l t) i j v = ((ftell S i j v).1, (ftell S i j v).2.upX l t) := by
  unfold ftell
  show (match zC (S.n 0) (S.n 1) i j with | none => _ | some k => _) = _
  cases zC (S.n 0) (S.n 1) i j with
  | none => rfl
  | some k => cases zR 20 v <;> rfl
theorem fmark_u {S : zS} {i j v : Int32} {l : Nat} {t : Nat → Nat} : fmark (S.upX l t) i j v = ((fmark S i j v).1, (fmark S i j v).2.upX l t) := by
  unfold fmark
  show (match zC (S.n 0) (S.n 1) i j with | none => _ | some k => _) = _
  cases zC (S.n 0) (S.n 1) i j with
  | none => rfl
  | some k => cases zR 2 v <;> rfl
theorem fmargin_u {S : zS} {w l9 v : Int32} {l : Nat} {t : Nat → Nat} : fmargin (S.upX l t) w l9 v = ((fmargin S w l9 v).1, (fmargin S w l9 v).2.upX l t) := by
  unfold fmargin
  show (match zLn (S.n 0) (S.n 1) w l9 with | none => _ | some k => _) = _
  cases zLn (S.n 0) (S.n 1) w l9 with
  | none => rfl
  | some k => cases zR 60 v <;> rfl
theorem zdoes_u {S : zS} {q : Nat × Nat × Nat × Nat} {l : Nat} {t : Nat → Nat} : zdoes (S.upX l t) q = ((zdoes S q).1, (zdoes S q).2.upX l t) := by
  unfold zdoes
  by_cases h1 : q.1 = 115
  · rw [if_pos h1, if_pos h1]; exact fsize_u
  rw [if_neg h1, if_neg h1]
  by_cases h2 : q.1 = 110
  · rw [if_pos h2, if_pos h2]; exact ftell_u
  rw [if_neg h2, if_neg h2]
  by_cases h3 : q.1 = 107
  · rw [if_pos h3, if_pos h3]; exact fmark_u
  rw [if_neg h3, if_neg h3]
  by_cases h4 : q.1 = 109
  · rw [if_pos h4, if_pos h4]; exact fmargin_u
  rw [if_neg h4, if_neg h4]
  rfl
theorem zdo_u {len : Nat} {tx : Nat → Nat} {l : Nat} {t : Nat → Nat} : ∀ (m a d : Nat) (S : zS), zdo len tx m a d (S.upX l t) = ((zdo len tx m a d S).1, (zdo len tx m a d S).2.upX l t)
  | 0, _, _, _ => rfl
  | m + 1, a, d, S => by
    unfold zdo
    by_cases h : len ≤ a
    · rw [if_pos h, if_pos h]
    · rw [if_neg h, if_neg h, zdoes_u]
      exact zdo_u m _ _ _
theorem zdoes_tx {S : zS} {q : Nat × Nat × Nat × Nat} : (zdoes S q).2.tx = S.tx := by
  obtain ⟨n, e⟩ := zdoes_t (S := S) (q := q)
  rw [e]; rfl
theorem zge_1 (v : Value) : zge v ≤ 1 := by
  unfold zge
  split
  · split <;> omega
  · omega
set_option maxHeartbeats 2000000 in
set_option maxRecDepth 20000 in
theorem l_X10_read {lay : List zL} {Q : Value → zI → zJ → Prop} {len N : Nat} {tx : Nat → Nat} {dd : Nat} {I0 : zI} {J0 : zJ} (hM : kM lay) (hN : N ≤ 12) (hend : len ≤ zpos len tx N) (hr0 : zrow I0 len tx N) : ∀ (f k d : Nat) (S : zS) (I : zI) (J : zJ), k + f = N → vM I J S → S.tx = tx → (∀ x y, x ≠ 80 → I x y = I0 x y) → (∀ x, x < 79 → J x = J0 x) → (∀ I' J', vM I' J' (zdo len tx (12 - k) (zpos len tx k) d S).2 → (∀ x y, x ≠ 80 → I' x y = I0 x y) → (∀ x, x < 79 → J' x = J0 x) → Q (.int (nI (zdo len tx (12 - k) (zpos len tx k) d S).1)) I' J') → Z lay MX10_read (dd + 4) 14 [.ref 79, .int (nI N), .int (nI d), .int (nI k)] [] I J Q := by
  intro f
  induction f with
  | zero =>
    intro k d S I J hk hV hx hf hj hq
    obtain rfl : k = N := (by omega)
    rw [zdo_e hend] at hq
    obtain ⟨mo, m80, m81, m82, m83, m84, m85, m86, m87, m88, m89, m90, m91, m92, m93, m94, m95, m96⟩ := id hM
    refine z_iload_n (pc := 14) dX10_read_14 rfl rfl ?_
    refine z_iload_n (pc := 15) dX10_read_15 rfl rfl ?_
    first | refine z_icmp_geN (pc := 16) (tgt := 41) (by with_reducible rfl) (by with_reducible rfl) dX10_read_16 (by decide) (by omega) (by omega) (fun hb16 => ?_) (fun hb16 => absurd hb16 (by omega)) | refine z_icmp_ge (pc := 16) (tgt := 41) dX10_read_16 (by decide) (fun hb16 => ?_) (fun hb16 => absurd hb16 (by omega))
    · skip
      refine z_iload_n (pc := 41) dX10_read_41 rfl rfl ?_
      first | refine z_if_geN (pc := 42) (tgt := 49) (by with_reducible rfl) dX10_read_42 (by decide) (by omega) (fun hb42 => ?_) (fun hb42 => ?_) | refine z_if_ge (pc := 42) (tgt := 49) dX10_read_42 (by decide) (fun hb42 => ?_) (fun hb42 => ?_)
      · skip
        refine z_iload_n (pc := 49) dX10_read_49 rfl rfl ?_
        refine z_iret (pc := 50) dX10_read_50 rfl ?_
        first | exact hq I J hV hf hj | exact hb42.elim | fail
      · skip
        refine z_iload_n (pc := 45) dX10_read_45 rfl rfl ?_
        refine z_goto (pc := 46) (tgt := 50) dX10_read_46 (by decide) ?_
        refine z_iret (pc := 50) dX10_read_50 rfl ?_
        first | exact hq I J hV hf hj | exact hb42.elim | fail
  | succ f ih =>
    intro k d S I J hk hV hx hf hj hq
    have hrk := hr0 k (by omega)
    have hcl := zclr_to (I' := I) hrk.2 (fun y _ _ => hf 84 y (by omega))
    have hkd := zce_kd hrk.1
    have hlt := zkd_le hkd
    rw [← hx] at hcl
    have hkd2 := hkd
    rw [← hx] at hkd2
    rw [show 12 - k = (12 - (k + 1)) + 1 by omega, zdo_s (by omega)] at hq
    have hzg := zge_1 (zdoes S (zcl S.tx (zpos len tx k) (zce len tx (zpos len tx k)).2)).1
    obtain ⟨mo, m80, m81, m82, m83, m84, m85, m86, m87, m88, m89, m90, m91, m92, m93, m94, m95, m96⟩ := id hM
    refine z_iload_n (pc := 14) dX10_read_14 rfl rfl ?_
    refine z_iload_n (pc := 15) dX10_read_15 rfl rfl ?_
    first | refine z_icmp_geN (pc := 16) (tgt := 41) (by with_reducible rfl) (by with_reducible rfl) dX10_read_16 (by decide) (by omega) (by omega) (fun hb16 => absurd hb16 (by omega)) (fun hb16 => ?_) | refine z_icmp_ge (pc := 16) (tgt := 41) dX10_read_16 (by decide) (fun hb16 => absurd hb16 (by omega)) (fun hb16 => ?_)
    · skip
      refine z_iload_n (pc := 19) dX10_read_19 rfl rfl ?_
      refine z_aload_n (pc := 20) dX10_read_20 rfl rfl ?_
      refine z_iload_n (pc := 21) dX10_read_21 rfl rfl ?_
      refine z_callV (pc := 22) (c_X10_does hM hV (k := k) (by omega) (by rw [hx]; exact hkd) (by rw [hx]; rw [hx] at hcl; exact hcl)) dX10_read_22 l_RX10_140 m_MX10_does n_MX10_does e_MX10_does rfl (by omega) (by assumption) rfl rfl (Nat.le_of_ble_eq_true rfl) ?_
      rintro _ _ _ (⟨rfl, hv1, hi1, hj1⟩)
      rw [hx] at hv1 hzg ⊢
      try dsimp only [zov, Option.toList, List.cons_append, List.nil_append]
      first | refine z_if_eqN (pc := 25) (tgt := 32) (by with_reducible rfl) dX10_read_25 (by decide) (by omega) (fun hb25 => ?_) (fun hb25 => ?_) | refine z_if_eq (pc := 25) (tgt := 32) dX10_read_25 (by decide) (fun hb25 => ?_) (fun hb25 => ?_)
      · skip
        refine z_iconst (pc := 32) (v := nI 0) dX10_read_32 (by decide) ?_
        first | refine z_iaddN (pc := 33) (by with_reducible rfl) (by with_reducible rfl) dX10_read_33 ?_ | refine z_iadd (pc := 33) dX10_read_33 ?_
        refine z_istore_n (pc := 34) dX10_read_34 rfl (by decide) rfl ?_
        try dsimp only [zst1, zst2, zk]
        first | refine z_iincN (pc := 35) (c := 1) dX10_read_35 rfl (by with_reducible rfl) (by decide) (by decide) rfl ?_ | refine z_iinc (pc := 35) dX10_read_35 rfl rfl (by decide) rfl ?_
        try dsimp only [zst1, zst2, zk]
        refine z_goto (pc := 38) (tgt := 14) dX10_read_38 (by decide) ?_
        first
        | exact ih (k + 1) (d + 0) _ _ _ (by omega) hv1 (zdoes_tx.trans hx) (fun x y h => (hi1 x y h).trans (hf x y h)) (fun x h => (hj1 x h).trans (hj x h)) (by rw [show d + 0 = d + zge (zdoes S (zcl tx (zpos len tx k) (zce len tx (zpos len tx k)).2)).1 by omega]; exact hq)
        | exact ih (k + 1) (d + 1) _ _ _ (by omega) hv1 (zdoes_tx.trans hx) (fun x y h => (hi1 x y h).trans (hf x y h)) (fun x h => (hj1 x h).trans (hj x h)) (by rw [show d + 1 = d + zge (zdoes S (zcl tx (zpos len tx k) (zce len tx (zpos len tx k)).2)).1 by omega]; exact hq)
        | fail
      · skip
        refine z_iconst (pc := 28) (v := nI 1) dX10_read_28 (by decide) ?_
        refine z_goto (pc := 29) (tgt := 33) dX10_read_29 (by decide) ?_
        first | refine z_iaddN (pc := 33) (by with_reducible rfl) (by with_reducible rfl) dX10_read_33 ?_ | refine z_iadd (pc := 33) dX10_read_33 ?_
        refine z_istore_n (pc := 34) dX10_read_34 rfl (by decide) rfl ?_
        try dsimp only [zst1, zst2, zk]
        first | refine z_iincN (pc := 35) (c := 1) dX10_read_35 rfl (by with_reducible rfl) (by decide) (by decide) rfl ?_ | refine z_iinc (pc := 35) dX10_read_35 rfl rfl (by decide) rfl ?_
        try dsimp only [zst1, zst2, zk]
        refine z_goto (pc := 38) (tgt := 14) dX10_read_38 (by decide) ?_
        first
        | exact ih (k + 1) (d + 0) _ _ _ (by omega) hv1 (zdoes_tx.trans hx) (fun x y h => (hi1 x y h).trans (hf x y h)) (fun x h => (hj1 x h).trans (hj x h)) (by rw [show d + 0 = d + zge (zdoes S (zcl tx (zpos len tx k) (zce len tx (zpos len tx k)).2)).1 by omega]; exact hq)
        | exact ih (k + 1) (d + 1) _ _ _ (by omega) hv1 (zdoes_tx.trans hx) (fun x y h => (hi1 x y h).trans (hf x y h)) (fun x h => (hj1 x h).trans (hj x h)) (by rw [show d + 1 = d + zge (zdoes S (zcl tx (zpos len tx k) (zce len tx (zpos len tx k)).2)).1 by omega]; exact hq)
        | fail
theorem zfr_0 {S : zS} {e : Nat} (h : zfa S.len S.tx 12 0 = some e) : fread S = (.int (-10 - nI e), S.upX 0 S.tx) := by rw [fread, h]
theorem zfr_1 {S : zS} (h : zfa S.len S.tx 12 0 = none) : fread S = (.int (nI (zdo S.len S.tx 12 0 0 S).1), (zdo S.len S.tx 12 0 0 S).2.upX 0 S.tx) := by rw [fread, h]
set_option maxHeartbeats 2000000 in
set_option maxRecDepth 20000 in
theorem c_X10_read {lay : List zL} {I : zI} {J : zJ} {S : zS} (hM : kM lay) (hV : vM I J S) : zMet lay MX10_read 4 [.ref 79] I J (fun r I' J' => zPM I J (fread S) r I' J') := by
  refine zMet_of (t := MX10_read) (ls := [.ref 79, .null, .null, .null]) (by decide +kernel) (Nat.le_of_ble_eq_true rfl) rfl ?_
  obtain ⟨mo, m80, m81, m82, m83, m84, m85, m86, m87, m88, m89, m90, m91, m92, m93, m94, m95, m96⟩ := id hM
  have hX := hV.2.2.1
  refine z_aload_n (pc := 0) dX10_read_0 rfl rfl ?_
  refine z_callV (pc := 1) (c_X10_readsAll hM hX) dX10_read_1 l_RX10_137 m_MX10_readsAll n_MX10_readsAll e_MX10_readsAll rfl (by omega) (by assumption) rfl rfl (Nat.le_of_ble_eq_true rfl) ?_
  rintro _ _ _ ⟨⟨N, hfa, rfl, hN, hrow, hend⟩ | ⟨e, hfa, he, rfl⟩, hf, rfl⟩
  · skip
    try dsimp only [zov, Option.toList, List.cons_append, List.nil_append]
    refine z_istore_n (pc := 4) dX10_read_4 rfl (by decide) rfl ?_
    try dsimp only [zst1, zst2, zk]
    refine z_aload_n (pc := 5) dX10_read_5 rfl rfl ?_
    refine z_iconst (pc := 6) (v := nI 0) dX10_read_6 (by decide) ?_
    refine z_putI (pc := 7) dX10_read_7 f_RX10_107 (by assumption) rfl ?_
    refine z_iconst (pc := 10) (v := nI 0) dX10_read_10 (by decide) ?_
    refine z_istore_n (pc := 11) dX10_read_11 rfl (by decide) rfl ?_
    try dsimp only [zst1, zst2, zk]
    refine z_iconst (pc := 12) (v := nI 0) dX10_read_12 (by decide) ?_
    refine z_istore_n (pc := 13) dX10_read_13 rfl (by decide) rfl ?_
    try dsimp only [zst1, zst2, zk]
    first
    | (refine l_X10_read (dd := 0) (J0 := J) hM hN hend (fun j hj => ⟨(hrow j hj).1, zclr_to (hrow j hj).2 (fun y _ _ => zup_n _ _ (by omega))⟩) N 0 0 (S.upX 0 S.tx) _ J (Nat.zero_add _) (vM_text hV (fun x y h1 h2 h3 => (zup_n _ _ (by omega)).trans (hf x y (by omega))) ⟨zup_s _ _ _ _, by omega, fun k h => absurd h (by omega), fun k h => absurd h (by omega)⟩) rfl (fun _ _ _ => rfl) (fun _ _ => rfl) (fun I1 J1 h1 h2 h3 => ?_)
       have hz := zdo_u (len := S.len) (tx := S.tx) (l := 0) (t := S.tx) 12 0 0 S
       have hp0 : zpos S.len S.tx 0 = 0 := rfl
       rw [Nat.sub_zero, hp0, hz] at h1
       rw [Nat.sub_zero, hp0, hz, zfr_1 hfa]
       exact ⟨rfl, h1, fun x h => funext fun y => (h2 x y (by omega)).trans ((zup_n _ _ (by omega)).trans (hf x y (by omega))), h3⟩)
    | (refine z_iload_n (pc := 14) dX10_read_14 rfl rfl ?_
       refine z_iload_n (pc := 15) dX10_read_15 rfl rfl ?_
       refine z_icmp_ge (pc := 16) (tgt := 41) dX10_read_16 (by decide) (fun hb16 => ?_) (fun hb16 => absurd (zng_2 he) hb16)
       refine z_iload_n (pc := 41) dX10_read_41 rfl rfl ?_
       refine z_if_ge (pc := 42) (tgt := 49) dX10_read_42 (by decide) (fun hb42 => ?_) (fun hb42 => ?_)
       · skip
         refine z_iload_n (pc := 49) dX10_read_49 rfl rfl ?_
         refine z_iret (pc := 50) dX10_read_50 rfl ?_
         first
         | exact absurd hb42 (zng_1 he)
         | (rw [zfr_0 hfa]; exact ⟨rfl, vM_text hV (fun x y h1 h2 h3 => (zup_n _ _ (by omega)).trans (hf x y (by omega))) ⟨zup_s _ _ _ _, by omega, fun k h => absurd h (by omega), fun k h => absurd h (by omega)⟩, fun x h => funext fun y => (zup_n _ _ (by omega)).trans (hf x y (by omega)), fun _ _ => rfl⟩)
         | fail
       · skip
         refine z_iload_n (pc := 45) dX10_read_45 rfl rfl ?_
         refine z_goto (pc := 46) (tgt := 50) dX10_read_46 (by decide) ?_
         refine z_iret (pc := 50) dX10_read_50 rfl ?_
         first
         | exact absurd hb42 (zng_1 he)
         | (rw [zfr_0 hfa]; exact ⟨rfl, vM_text hV (fun x y h1 h2 h3 => (zup_n _ _ (by omega)).trans (hf x y (by omega))) ⟨zup_s _ _ _ _, by omega, fun k h => absurd h (by omega), fun k h => absurd h (by omega)⟩, fun x h => funext fun y => (zup_n _ _ (by omega)).trans (hf x y (by omega)), fun _ _ => rfl⟩)
         | fail)
    | fail
  · skip
    try dsimp only [zov, Option.toList, List.cons_append, List.nil_append]
    refine z_istore_n (pc := 4) dX10_read_4 rfl (by decide) rfl ?_
    try dsimp only [zst1, zst2, zk]
    refine z_aload_n (pc := 5) dX10_read_5 rfl rfl ?_
    refine z_iconst (pc := 6) (v := nI 0) dX10_read_6 (by decide) ?_
    refine z_putI (pc := 7) dX10_read_7 f_RX10_107 (by assumption) rfl ?_
    refine z_iconst (pc := 10) (v := nI 0) dX10_read_10 (by decide) ?_
    refine z_istore_n (pc := 11) dX10_read_11 rfl (by decide) rfl ?_
    try dsimp only [zst1, zst2, zk]
    refine z_iconst (pc := 12) (v := nI 0) dX10_read_12 (by decide) ?_
    refine z_istore_n (pc := 13) dX10_read_13 rfl (by decide) rfl ?_
    try dsimp only [zst1, zst2, zk]
    first
    | (refine l_X10_read (dd := 0) (J0 := J) hM hN hend (fun j hj => ⟨(hrow j hj).1, zclr_to (hrow j hj).2 (fun y _ _ => zup_n _ _ (by omega))⟩) N 0 0 (S.upX 0 S.tx) _ J (Nat.zero_add _) (vM_text hV (fun x y h1 h2 h3 => (zup_n _ _ (by omega)).trans (hf x y (by omega))) ⟨zup_s _ _ _ _, by omega, fun k h => absurd h (by omega), fun k h => absurd h (by omega)⟩) rfl (fun _ _ _ => rfl) (fun _ _ => rfl) (fun I1 J1 h1 h2 h3 => ?_)
       have hz := zdo_u (len := S.len) (tx := S.tx) (l := 0) (t := S.tx) 12 0 0 S
       have hp0 : zpos S.len S.tx 0 = 0 := rfl
       rw [Nat.sub_zero, hp0, hz] at h1
       rw [Nat.sub_zero, hp0, hz, zfr_1 hfa]
       exact ⟨rfl, h1, fun x h => funext fun y => (h2 x y (by omega)).trans ((zup_n _ _ (by omega)).trans (hf x y (by omega))), h3⟩)
    | (refine z_iload_n (pc := 14) dX10_read_14 rfl rfl ?_
       refine z_iload_n (pc := 15) dX10_read_15 rfl rfl ?_
       refine z_icmp_ge (pc := 16) (tgt := 41) dX10_read_16 (by decide) (fun hb16 => ?_) (fun hb16 => absurd (zng_2 he) hb16)
       refine z_iload_n (pc := 41) dX10_read_41 rfl rfl ?_
       refine z_if_ge (pc := 42) (tgt := 49) dX10_read_42 (by decide) (fun hb42 => ?_) (fun hb42 => ?_)
       · skip
         refine z_iload_n (pc := 49) dX10_read_49 rfl rfl ?_
         refine z_iret (pc := 50) dX10_read_50 rfl ?_
         first
         | exact absurd hb42 (zng_1 he)
         | (rw [zfr_0 hfa]; exact ⟨rfl, vM_text hV (fun x y h1 h2 h3 => (zup_n _ _ (by omega)).trans (hf x y (by omega))) ⟨zup_s _ _ _ _, by omega, fun k h => absurd h (by omega), fun k h => absurd h (by omega)⟩, fun x h => funext fun y => (zup_n _ _ (by omega)).trans (hf x y (by omega)), fun _ _ => rfl⟩)
         | fail
       · skip
         refine z_iload_n (pc := 45) dX10_read_45 rfl rfl ?_
         refine z_goto (pc := 46) (tgt := 50) dX10_read_46 (by decide) ?_
         refine z_iret (pc := 50) dX10_read_50 rfl ?_
         first
         | exact absurd hb42 (zng_1 he)
         | (rw [zfr_0 hfa]; exact ⟨rfl, vM_text hV (fun x y h1 h2 h3 => (zup_n _ _ (by omega)).trans (hf x y (by omega))) ⟨zup_s _ _ _ _, by omega, fun k h => absurd h (by omega), fun k h => absurd h (by omega)⟩, fun x h => funext fun y => (zup_n _ _ (by omega)).trans (hf x y (by omega)), fun _ _ => rfl⟩)
         | fail)
    | fail
