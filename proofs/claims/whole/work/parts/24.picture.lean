/-! ===== pictures ===== -/
def kP (lay : List zL) (p : Nat) : Prop := lay[p]? = some (.inl (2, [p + 3, p + 7, p + 12, p + 15, p + 18])) ∧ kS lay (p + 1) ∧ kT lay (p + 5) ∧ kN lay (p + 10) 5 ∧ kN lay (p + 13) 8 ∧ kN lay (p + 16) 8
def vP (I : zI) (J : zJ) (p : Nat) (n : Nat → Nat) : Prop := vS I (p + 1) n ∧ vT I J (p + 5) n ∧ vN I (p + 10) 5 (n 4) (fun k => n (52 + k) / 100) (fun k => n (52 + k) % 100) ∧ vN I (p + 13) 8 (n 5) (fun k => n (57 + k) / 100) (fun k => n (57 + k) % 100) ∧ vN I (p + 16) 8 (n 6) (fun k => n (65 + k) / 100) (fun k => n (65 + k) % 100)
/-- the notes' bounds, told once -/
def mP (I : zI) (p : Nat) : Prop := I (p + 10) 0 = nI 5 ∧ I (p + 13) 0 = nI 8 ∧ I (p + 16) 0 = nI 8
theorem vP_mP {I : zI} {J : zJ} {p : Nat} {n : Nat → Nat} (h : vP I J p n) : mP I p := ⟨h.2.2.1.1, h.2.2.2.1.1, h.2.2.2.2.1⟩
theorem vP_to {I I' : zI} {J J' : zJ} {p : Nat} {n : Nat → Nat} (h : vP I J p n) (hI : ∀ x, p ≤ x → x ≤ p + 18 → I' x = I x) (hJ : ∀ x, p ≤ x → x ≤ p + 18 → J' x = J x) : vP I' J' p n := by
  unfold vP vS vT vN
  rw [hI (p + 1) (by omega) (by omega), hI (p + 1 + 1) (by omega) (by omega), hI (p + 1 + 2) (by omega) (by omega), hI (p + 1 + 3) (by omega) (by omega), hI (p + 5) (by omega) (by omega), hJ (p + 5 + 1) (by omega) (by omega), hJ (p + 5 + 2) (by omega) (by omega), hI (p + 10) (by omega) (by omega), hI (p + 10 + 1) (by omega) (by omega), hI (p + 10 + 2) (by omega) (by omega), hI (p + 13) (by omega) (by omega), hI (p + 13 + 1) (by omega) (by omega), hI (p + 13 + 2) (by omega) (by omega), hI (p + 16) (by omega) (by omega), hI (p + 16 + 1) (by omega) (by omega), hI (p + 16 + 2) (by omega) (by omega)]
  exact h
/-- told anew: rows, columns, and all that goes with it -/
def zsize (n : Nat → Nat) (r c : Nat) : Nat → Nat := fun k => if k = 3 ∨ k = 4 ∨ k = 5 ∨ k = 6 then 0 else if 34 ≤ k ∧ k < 52 then 1 else zbec n r c k
theorem zsize_s {n : Nat → Nat} {r c k : Nat} (h : k < 3 ∨ (7 ≤ k ∧ k < 34)) : zsize n r c k = zbec n r c k := by
  unfold zsize
  rw [if_neg (by omega), if_neg (by omega)]
theorem vS_n {I : zI} {s : Nat} {n n' : Nat → Nat} (h : vS I s n) (hn : ∀ k, (k < 3 ∨ (7 ≤ k ∧ k < 34)) → n' k = n k) : vS I s n' := by
  obtain ⟨v0, v1, v2, v3, v4, v5⟩ := h
  refine ⟨?_, ?_, ?_, fun k hk => ?_, fun k hk => ?_, fun k hk => ?_⟩
  · rw [hn _ (by omega)]; exact v0
  · rw [hn _ (by omega)]; exact v1
  · rw [hn _ (by omega)]; exact v2
  · rw [hn _ (by omega)]; exact v3 k hk
  · rw [hn _ (by omega)]; exact v4 k hk
  · rw [hn _ (by omega)]; exact v5 k hk
theorem vT_n {I : zI} {J : zJ} {t : Nat} {n n' : Nat → Nat} (h : vT I J t n) (hn : ∀ k, (k = 3 ∨ (34 ≤ k ∧ k < 52)) → n' k = n k) : vT I J t n' := by
  obtain ⟨v0, v1, v2⟩ := h
  refine ⟨fun k hk => ?_, fun k hk => ?_, ?_⟩
  · rw [hn _ (by omega)]; exact v0 k hk
  · rw [hn _ (by omega)]; exact v1 k hk
  · rw [hn _ (by omega)]; exact v2
theorem zbec_c {n : Nat → Nat} {r c k : Nat} (h : k < 9) : zbec n r c (7 + k) = 1 := by
  unfold zbec
  rw [if_neg (by omega), if_neg (by omega), if_pos (by omega)]
theorem zbec_k {n : Nat → Nat} {r c k : Nat} (h : k < 9) : zbec n r c (16 + k) = 0 := by
  unfold zbec
  rw [if_neg (by omega), if_neg (by omega), if_neg (by omega), if_pos (by omega)]
theorem zbec_m {n : Nat → Nat} {r c k : Nat} (h : k < 9) : zbec n r c (25 + k) = 10 := by
  unfold zbec
  rw [if_neg (by omega), if_neg (by omega), if_neg (by omega), if_neg (by omega), if_pos (by omega)]
theorem zbec_bS {n : Nat → Nat} {r c : Nat} (hr : 1 ≤ r ∧ r ≤ 3) (hc : 1 ≤ c ∧ c ≤ 3) (h2 : n 2 ≤ 1) : bS (zbec n r c) := by
  refine ⟨hr.1, hr.2, hc.1, hc.2, h2, fun k hk => ?_, fun k hk => ?_, fun k hk => ?_⟩
  · rw [zbec_c hk]; omega
  · rw [zbec_k hk]; omega
  · rw [zbec_m hk]; omega
theorem ztk_size {n : Nat → Nat} {r c k : Nat} (h : k = 3 ∨ (34 ≤ k ∧ k < 52)) : zsize n r c k = ztk (zbec n r c) k := by
  unfold zsize ztk
  by_cases h3 : k = 3
  · rw [if_pos (by omega), if_pos h3]
  · rw [if_neg (by omega), if_pos (by omega), if_neg h3]
    by_cases h4 : k < 43
    · rw [if_pos (by omega), show k - 27 = 7 + (k - 34) by omega, zbec_c (by omega)]
    · rw [if_neg (by omega), if_pos (by omega)]
theorem vN_0 {I : zI} {a e : Nat} {f g : Nat → Nat} (h0 : I a 0 = nI e) (h1 : I a 1 = nI 0) : vN I a e 0 f g := ⟨h0, h1, Nat.zero_le _, fun k hk => by omega, fun k hk => by omega⟩
set_option maxHeartbeats 2000000 in
set_option maxRecDepth 20000 in
theorem c_X2_become {lay : List zL} {I : zI} {J : zJ} {p r0 c : Nat} {n : Nat → Nat} (hP : kP lay p) (hM : mP I p) (h2 : I (p + 1) 2 = nI (n 2)) (hb2 : n 2 ≤ 1) (hr : 1 ≤ r0 ∧ r0 ≤ 3) (hc : 1 ≤ c ∧ c ≤ 3) : zMet lay MX2_become 1 [.ref p, .int (nI r0), .int (nI c)] I J (fun r I' J' => r = .null ∧ (vP I' J' p (zsize n r0 c) ∧ (∀ x, (x < p ∨ p + 18 < x) → I' x = I x) ∧ ∀ x, (x < p ∨ p + 18 < x) → J' x = J x)) := by
  refine zMet_of (t := MX2_become) (ls := [.ref p, .int (nI r0), .int (nI c)]) (by decide +kernel) (Nat.le_of_ble_eq_true rfl) rfl ?_
  obtain ⟨k0, k1, k2, k3, k4, k5⟩ := hP
  obtain ⟨l1, -⟩ := id k1
  obtain ⟨l2, -⟩ := id k2
  obtain ⟨l3, -⟩ := id k3
  obtain ⟨l4, -⟩ := id k4
  obtain ⟨l5, -⟩ := id k5
  obtain ⟨m1, m2, m3⟩ := hM
  refine z_aload_n (pc := 0) dX2_become_0 rfl rfl ?_
  refine z_getR (pc := 1) dX2_become_1 f_RX2_12 (by assumption) rfl ?_
  refine z_iload_n (pc := 4) dX2_become_4 rfl rfl ?_
  refine z_iload_n (pc := 5) dX2_become_5 rfl rfl ?_
  refine z_callV (pc := 6) (c_X6_become (n := n) (by assumption) (by assumption)) dX2_become_6 l_RX2_40 m_MX6_become n_MX6_become e_MX6_become rfl (by omega) (by assumption) rfl rfl (Nat.le_of_ble_eq_true rfl) ?_
  rintro _ _ _ (⟨rfl, ⟨hV1, hF1⟩, rfl⟩)
  try dsimp only [zov, Option.toList, List.cons_append, List.nil_append]
  refine z_aload_n (pc := 9) dX2_become_9 rfl rfl ?_
  refine z_getR (pc := 10) dX2_become_10 f_RX2_21 (by assumption) rfl ?_
  refine z_aload_n (pc := 13) dX2_become_13 rfl rfl ?_
  refine z_getR (pc := 14) dX2_become_14 f_RX2_12 (by assumption) rfl ?_
  refine z_callV (pc := 17) (c_X7_takeCounts k1 hV1 (zbec_bS hr hc hb2) k2) dX2_become_17 l_RX2_44 m_MX7_takeCounts n_MX7_takeCounts e_MX7_takeCounts rfl (by omega) (by assumption) rfl rfl (Nat.le_of_ble_eq_true rfl) ?_
  rintro _ _ _ (⟨rfl, rfl, ⟨hT1, hF2⟩⟩)
  try dsimp only [zov, Option.toList, List.cons_append, List.nil_append]
  refine z_aload_n (pc := 20) dX2_become_20 rfl rfl ?_
  refine z_getR (pc := 21) dX2_become_21 f_RX2_30 (by assumption) rfl ?_
  refine z_callV (pc := 24) (c_X1_empty (by assumption)) dX2_become_24 l_RX2_48 m_MX1_empty n_MX1_empty e_MX1_empty rfl (by omega) (by assumption) rfl rfl (Nat.le_of_ble_eq_true rfl) ?_
  rintro _ _ _ (⟨rfl, rfl, rfl⟩)
  try dsimp only [zov, Option.toList, List.cons_append, List.nil_append]
  refine z_pop (pc := 27) dX2_become_27 rfl ?_
  refine z_aload_n (pc := 28) dX2_become_28 rfl rfl ?_
  refine z_getR (pc := 29) dX2_become_29 f_RX2_34 (by assumption) rfl ?_
  refine z_callV (pc := 32) (c_X1_empty (by assumption)) dX2_become_32 l_RX2_48 m_MX1_empty n_MX1_empty e_MX1_empty rfl (by omega) (by assumption) rfl rfl (Nat.le_of_ble_eq_true rfl) ?_
  rintro _ _ _ (⟨rfl, rfl, rfl⟩)
  try dsimp only [zov, Option.toList, List.cons_append, List.nil_append]
  refine z_pop (pc := 35) dX2_become_35 rfl ?_
  refine z_aload_n (pc := 36) dX2_become_36 rfl rfl ?_
  refine z_getR (pc := 37) dX2_become_37 f_RX2_37 (by assumption) rfl ?_
  refine z_callV (pc := 40) (c_X1_empty (by assumption)) dX2_become_40 l_RX2_48 m_MX1_empty n_MX1_empty e_MX1_empty rfl (by omega) (by assumption) rfl rfl (Nat.le_of_ble_eq_true rfl) ?_
  rintro _ _ _ (⟨rfl, rfl, rfl⟩)
  try dsimp only [zov, Option.toList, List.cons_append, List.nil_append]
  refine z_pop (pc := 43) dX2_become_43 rfl ?_
  refine z_vret (pc := 44) dX2_become_44 rfl ?_
  refine ⟨rfl, ⟨?_, ?_, ?_, ?_, ?_⟩, fun x hx => ?_, fun x hx => hF2 x (by omega) (by omega)⟩
  · exact vS_n (vS_to hV1 (by simp (disch := omega) only [zup_o]) (by simp (disch := omega) only [zup_o]) (by simp (disch := omega) only [zup_o]) (by simp (disch := omega) only [zup_o])) (fun k hk => zsize_s hk)
  · exact vT_n (vT_to hT1 (by simp (disch := omega) only [zup_o]) rfl rfl) (fun k hk => ztk_size hk)
  · exact vN_0 (by rw [zup_o (by omega), zup_o (by omega), zup_n _ _ (by omega), zup_o (by omega), hF1 _ (by omega)]; exact m1) (by rw [zup_o (by omega), zup_o (by omega)]; exact zup_s _ _ _ _)
  · exact vN_0 (by rw [zup_o (by omega), zup_n _ _ (by omega), zup_o (by omega), zup_o (by omega), hF1 _ (by omega)]; exact m2) (by rw [zup_o (by omega)]; exact zup_s _ _ _ _)
  · exact vN_0 (by rw [zup_n _ _ (by omega), zup_o (by omega), zup_o (by omega), zup_o (by omega), hF1 _ (by omega)]; exact m3) (zup_s _ _ _ _)
  · simp (disch := omega) only [zup_o]; exact hF1 x (by omega)
theorem vN_to {I I' : zI} {a e c : Nat} {f g : Nat → Nat} (h : vN I a e c f g) (h0 : I' a = I a) (h1 : I' (a + 1) = I (a + 1)) (h2 : I' (a + 2) = I (a + 2)) : vN I' a e c f g := by
  unfold vN
  rw [h0, h1, h2]
  exact h
set_option maxHeartbeats 2000000 in
set_option maxRecDepth 20000 in
theorem c_X2_copyFrom {lay : List zL} {I : zI} {J : zJ} {p o : Nat} {n : Nat → Nat} (hP : kP lay p) (hO : kP lay o) (hM : mP I p) (hV : vP I J o n) (hpo : p + 18 < o ∨ o + 18 < p) (hb2 : n 2 ≤ 1) : zMet lay MX2_copyFrom 2 [.ref p, .ref o] I J (fun r I' J' => r = .null ∧ (vP I' J' p n ∧ (∀ x, (x < p ∨ p + 18 < x) → I' x = I x) ∧ ∀ x, (x < p ∨ p + 18 < x) → J' x = J x)) := by
  refine zMet_of (t := MX2_copyFrom) (ls := [.ref p, .ref o]) (by decide +kernel) (Nat.le_of_ble_eq_true rfl) rfl ?_
  obtain ⟨k0, k1, k2, k3, k4, k5⟩ := hP
  obtain ⟨j0, j1, j2, j3, j4, j5⟩ := hO
  obtain ⟨l1, -⟩ := id k1
  obtain ⟨l2, -⟩ := id k2
  obtain ⟨l3, -⟩ := id k3
  obtain ⟨l4, -⟩ := id k4
  obtain ⟨l5, -⟩ := id k5
  obtain ⟨m1, m2, m3⟩ := hM
  obtain ⟨w1, w2, w3, w4, w5⟩ := hV
  refine z_aload_n (pc := 0) dX2_copyFrom_0 rfl rfl ?_
  refine z_getR (pc := 1) dX2_copyFrom_1 f_RX2_12 (by assumption) rfl ?_
  refine z_aload_n (pc := 4) dX2_copyFrom_4 rfl rfl ?_
  refine z_getR (pc := 5) dX2_copyFrom_5 f_RX2_12 (by assumption) rfl ?_
  refine z_callV (pc := 8) (c_X6_copyFrom k1 j1 w1 (by omega) hb2) dX2_copyFrom_8 l_RX2_52 m_MX6_copyFrom n_MX6_copyFrom e_MX6_copyFrom rfl (by omega) (by assumption) rfl rfl (Nat.le_of_ble_eq_true rfl) ?_
  rintro _ _ _ (⟨rfl, ⟨hV1, hF1⟩, rfl⟩)
  try dsimp only [zov, Option.toList, List.cons_append, List.nil_append]
  refine z_aload_n (pc := 11) dX2_copyFrom_11 rfl rfl ?_
  refine z_getR (pc := 12) dX2_copyFrom_12 f_RX2_21 (by assumption) rfl ?_
  refine z_aload_n (pc := 15) dX2_copyFrom_15 rfl rfl ?_
  refine z_getR (pc := 16) dX2_copyFrom_16 f_RX2_21 (by assumption) rfl ?_
  refine z_callV (pc := 19) (c_X7_copyFrom k2 j2 (vT_to w2 (hF1 _ (by omega)) rfl rfl) (by omega)) dX2_copyFrom_19 l_RX2_55 m_MX7_copyFrom n_MX7_copyFrom e_MX7_copyFrom rfl (by omega) (by assumption) rfl rfl (Nat.le_of_ble_eq_true rfl) ?_
  rintro _ _ _ (⟨rfl, rfl, ⟨hT1, hF2⟩⟩)
  try dsimp only [zov, Option.toList, List.cons_append, List.nil_append]
  refine z_aload_n (pc := 22) dX2_copyFrom_22 rfl rfl ?_
  refine z_getR (pc := 23) dX2_copyFrom_23 f_RX2_30 (by assumption) rfl ?_
  refine z_aload_n (pc := 26) dX2_copyFrom_26 rfl rfl ?_
  refine z_getR (pc := 27) dX2_copyFrom_27 f_RX2_30 (by assumption) rfl ?_
  refine z_callV (pc := 30) (c_X1_copyFrom5 k3 j3 (vN_to w3 (by rw [zup_o (by omega)]; exact hF1 _ (by omega)) (by rw [zup_o (by omega)]; exact hF1 _ (by omega)) (by rw [zup_o (by omega)]; exact hF1 _ (by omega))) (by rw [zup_o (by omega), hF1 _ (by omega)]; exact m1) (by omega)) dX2_copyFrom_30 l_RX2_58 m_MX1_copyFrom n_MX1_copyFrom e_MX1_copyFrom rfl (by omega) (by assumption) rfl rfl (Nat.le_of_ble_eq_true rfl) ?_
  rintro _ _ _ (⟨rfl, ⟨hN1, hF3⟩, rfl⟩)
  try dsimp only [zov, Option.toList, List.cons_append, List.nil_append]
  refine z_aload_n (pc := 33) dX2_copyFrom_33 rfl rfl ?_
  refine z_getR (pc := 34) dX2_copyFrom_34 f_RX2_34 (by assumption) rfl ?_
  refine z_aload_n (pc := 37) dX2_copyFrom_37 rfl rfl ?_
  refine z_getR (pc := 38) dX2_copyFrom_38 f_RX2_34 (by assumption) rfl ?_
  refine z_callV (pc := 41) (c_X1_copyFrom8 k4 j4 (vN_to w4 (by rw [hF3 _ (by omega), zup_o (by omega)]; exact hF1 _ (by omega)) (by rw [hF3 _ (by omega), zup_o (by omega)]; exact hF1 _ (by omega)) (by rw [hF3 _ (by omega), zup_o (by omega)]; exact hF1 _ (by omega))) (by rw [hF3 _ (by omega), zup_o (by omega), hF1 _ (by omega)]; exact m2) (by omega)) dX2_copyFrom_41 l_RX2_58 m_MX1_copyFrom n_MX1_copyFrom e_MX1_copyFrom rfl (by omega) (by assumption) rfl rfl (Nat.le_of_ble_eq_true rfl) ?_
  rintro _ _ _ (⟨rfl, ⟨hN2, hF4⟩, rfl⟩)
  try dsimp only [zov, Option.toList, List.cons_append, List.nil_append]
  refine z_aload_n (pc := 44) dX2_copyFrom_44 rfl rfl ?_
  refine z_getR (pc := 45) dX2_copyFrom_45 f_RX2_37 (by assumption) rfl ?_
  refine z_aload_n (pc := 48) dX2_copyFrom_48 rfl rfl ?_
  refine z_getR (pc := 49) dX2_copyFrom_49 f_RX2_37 (by assumption) rfl ?_
  refine z_callV (pc := 52) (c_X1_copyFrom8 k5 j5 (vN_to w5 (by rw [hF4 _ (by omega), hF3 _ (by omega), zup_o (by omega)]; exact hF1 _ (by omega)) (by rw [hF4 _ (by omega), hF3 _ (by omega), zup_o (by omega)]; exact hF1 _ (by omega)) (by rw [hF4 _ (by omega), hF3 _ (by omega), zup_o (by omega)]; exact hF1 _ (by omega))) (by rw [hF4 _ (by omega), hF3 _ (by omega), zup_o (by omega), hF1 _ (by omega)]; exact m3) (by omega)) dX2_copyFrom_52 l_RX2_58 m_MX1_copyFrom n_MX1_copyFrom e_MX1_copyFrom rfl (by omega) (by assumption) rfl rfl (Nat.le_of_ble_eq_true rfl) ?_
  rintro _ _ _ (⟨rfl, ⟨hN3, hF5⟩, rfl⟩)
  try dsimp only [zov, Option.toList, List.cons_append, List.nil_append]
  refine z_vret (pc := 55) dX2_copyFrom_55 rfl ?_
  refine ⟨rfl, ⟨vS_to hV1 ?_ ?_ ?_ ?_, vT_to hT1 ?_ rfl rfl, vN_to hN1 ?_ ?_ ?_, vN_to hN2 ?_ ?_ ?_, hN3⟩, fun x hx => ?_, fun x hx => hF2 x (by omega) (by omega)⟩
  · rw [hF5 _ (by omega), hF4 _ (by omega), hF3 _ (by omega), zup_o (by omega)]
  · rw [hF5 _ (by omega), hF4 _ (by omega), hF3 _ (by omega), zup_o (by omega)]
  · rw [hF5 _ (by omega), hF4 _ (by omega), hF3 _ (by omega), zup_o (by omega)]
  · rw [hF5 _ (by omega), hF4 _ (by omega), hF3 _ (by omega), zup_o (by omega)]
  · rw [hF5 _ (by omega), hF4 _ (by omega), hF3 _ (by omega)]
  · rw [hF5 _ (by omega), hF4 _ (by omega)]
  · rw [hF5 _ (by omega), hF4 _ (by omega)]
  · rw [hF5 _ (by omega), hF4 _ (by omega)]
  · rw [hF5 _ (by omega)]
  · rw [hF5 _ (by omega)]
  · rw [hF5 _ (by omega)]
  · rw [hF5 _ (by omega), hF4 _ (by omega), hF3 _ (by omega), zup_o (by omega)]; exact hF1 _ (by omega)
