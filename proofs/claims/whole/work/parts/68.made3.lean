/-! ===== the model made ===== -/
set_option maxHeartbeats 2000000 in
set_option maxRecDepth 20000 in
theorem c_X10_size0 {lay : List zL} {I : zI} {J : zJ} {n : Nat → Nat} (hM : kM lay) (hW : vW I n) {r0 c : Int32} : zMet lay MX10_size 2 [.ref 79, .int r0, .int c] I J (fun r I' J' => (∃ v : Int32, r = .int v) ∧ ((∃ a b, r0 = nI a ∧ (1 ≤ a ∧ a ≤ 3) ∧ c = nI b ∧ (1 ≤ b ∧ b ≤ 3) ∧ vW I' (zsize n a b) ∧ (∀ x y, x ≠ 80 → I' x y = I x y) ∧ J = J') ∨ ¬ (∃ a, r0 = nI a ∧ 1 ≤ a ∧ a ≤ 3) ∨ ¬ (∃ b, c = nI b ∧ 1 ≤ b ∧ b ≤ 3))) := by
  refine zMet_of (t := MX10_size) (ls := [.ref 79, .int r0, .int c, .null]) (by decide +kernel) (Nat.le_of_ble_eq_true rfl) rfl ?_
  obtain ⟨mo, m80, m81, m82, m83, m84, m85, m86, m87, m88, m89, m90, m91, m92, m93, m94, m95, m96⟩ := id hM
  have hwv := hW
  refine z_iload_n (pc := 0) dX10_size_0 rfl rfl ?_
  first | refine z_i2lN (pc := 1) (by with_reducible rfl) dX10_size_1 (by omega) ?_ | refine z_i2l (pc := 1) dX10_size_1 rfl ?_
  refine z_lconst (pc := 2) (v := lN 1) dX10_size_2 rfl ?_
  refine z_ldc2 (pc := 3) (v := lN 3) dX10_size_3 q_RX10_86 ?_
  refine z_callS (pc := 6) (c_X10_withinI (by omega) (by omega)) dX10_size_6 l_RX10_68 m_MX10_within s_MX10_within rfl (by omega) rfl (Nat.le_of_ble_eq_true rfl) ?_
  rintro _ _ _ ⟨⟨rfl, hr⟩ | ⟨rfl, hr⟩, rfl, rfl⟩
  · skip
    try dsimp only [zov, Option.toList, List.cons_append, List.nil_append]
    first | refine z_if_eqN (pc := 9) (tgt := 24) (by with_reducible rfl) dX10_size_9 (by decide) (by omega) (fun hb9 => absurd hb9 (by decide)) (fun hb9 => ?_) | refine z_if_eq (pc := 9) (tgt := 24) dX10_size_9 (by decide) (fun hb9 => absurd hb9 (by decide)) (fun hb9 => ?_)
    · skip
      refine z_iload_n (pc := 12) dX10_size_12 rfl rfl ?_
      first | refine z_i2lN (pc := 13) (by with_reducible rfl) dX10_size_13 (by omega) ?_ | refine z_i2l (pc := 13) dX10_size_13 rfl ?_
      refine z_lconst (pc := 14) (v := lN 1) dX10_size_14 rfl ?_
      refine z_ldc2 (pc := 15) (v := lN 3) dX10_size_15 q_RX10_86 ?_
      refine z_callS (pc := 18) (c_X10_withinI (by omega) (by omega)) dX10_size_18 l_RX10_68 m_MX10_within s_MX10_within rfl (by omega) rfl (Nat.le_of_ble_eq_true rfl) ?_
      rintro _ _ _ ⟨⟨rfl, hc⟩ | ⟨rfl, hc⟩, rfl, rfl⟩
      · obtain ⟨a, rfl, ha0, ha1⟩ := hr; obtain ⟨b, rfl, hb0, hb1⟩ := hc
        try dsimp only [zov, Option.toList, List.cons_append, List.nil_append]
        first | refine z_if_neN (pc := 21) (tgt := 27) (by with_reducible rfl) dX10_size_21 (by decide) (by omega) (fun hb21 => ?_) (fun hb21 => absurd hb21 (by decide)) | refine z_if_ne (pc := 21) (tgt := 27) dX10_size_21 (by decide) (fun hb21 => ?_) (fun hb21 => absurd hb21 (by decide))
        · skip
          refine z_aload_n (pc := 27) dX10_size_27 rfl rfl ?_
          refine z_getR (pc := 28) dX10_size_28 f_RX10_11 (by assumption) rfl ?_
          refine z_iconst (pc := 31) (v := nI 0) dX10_size_31 (by decide) ?_
          refine z_iload_n (pc := 32) dX10_size_32 rfl rfl ?_
          refine z_iastore (pc := 33) dX10_size_33 (by assumption) (by with_reducible rfl) (by omega) (by decide) ?_
          refine z_aload_n (pc := 34) dX10_size_34 rfl rfl ?_
          refine z_getR (pc := 35) dX10_size_35 f_RX10_11 (by assumption) rfl ?_
          refine z_iconst (pc := 38) (v := nI 1) dX10_size_38 (by decide) ?_
          refine z_iload_n (pc := 39) dX10_size_39 rfl rfl ?_
          refine z_iastore (pc := 40) dX10_size_40 (by assumption) (by with_reducible rfl) (by omega) (by decide) ?_
          refine z_iconst (pc := 41) (v := nI 0) dX10_size_41 (by decide) ?_
          refine z_istore_n (pc := 42) dX10_size_42 rfl (by decide) rfl ?_
          try dsimp only [zst1, zst2, zk]
          refine l_X10_size (n := n) (I0 := I) hM (fun I1 h1 hf1 => ?_) 9 0 _ rfl (fun j h3 h4 => ?_) (fun j hj => absurd hj (by omega)) (fun x y hx => by rw [zup_n _ _ (by omega), zup_n _ _ (by omega)])
          · skip
            refine z_aload_n (pc := 86) dX10_size_86 rfl rfl ?_
            refine z_getR (pc := 87) dX10_size_87 f_RX10_11 (by assumption) rfl ?_
            refine z_iconst (pc := 90) (v := nI 4) dX10_size_90 (by decide) ?_
            refine z_iconst (pc := 91) (v := nI 0) dX10_size_91 (by decide) ?_
            refine z_iastore (pc := 92) dX10_size_92 (by assumption) (by with_reducible rfl) (by omega) (by decide) ?_
            refine z_aload_n (pc := 93) dX10_size_93 rfl rfl ?_
            refine z_getR (pc := 94) dX10_size_94 f_RX10_11 (by assumption) rfl ?_
            refine z_iconst (pc := 97) (v := nI 5) dX10_size_97 (by decide) ?_
            refine z_iconst (pc := 98) (v := nI 0) dX10_size_98 (by decide) ?_
            refine z_iastore (pc := 99) dX10_size_99 (by assumption) (by with_reducible rfl) (by omega) (by decide) ?_
            refine z_aload_n (pc := 100) dX10_size_100 rfl rfl ?_
            refine z_getR (pc := 101) dX10_size_101 f_RX10_11 (by assumption) rfl ?_
            refine z_bipush (pc := 104) (v := nI 6) dX10_size_104 (by decide) ?_
            refine z_iconst (pc := 106) (v := nI 0) dX10_size_106 (by decide) ?_
            refine z_iastore (pc := 107) dX10_size_107 (by assumption) (by with_reducible rfl) (by omega) (by decide) ?_
            have hw1 : ∀ k, k < 73 → zup (zup (zup I1 80 4 (nI 0)) 80 5 (nI 0)) 80 6 (nI 0) 80 k = nI (zsz1 n a b k) := (by
              intro k hk
              unfold zsz1
              by_cases q6 : k = 6
              · rw [q6, if_pos (by omega)]; exact zup_s _ _ _ _
              rw [zup_n _ _ (by omega)]
              by_cases q5 : k = 5
              · rw [q5, if_pos (by omega)]; exact zup_s _ _ _ _
              rw [zup_n _ _ (by omega)]
              by_cases q4 : k = 4
              · rw [q4, if_pos (by omega)]; exact zup_s _ _ _ _
              rw [zup_n _ _ (by omega), if_neg (by omega)]
              exact h1 k hk (by omega))
            refine z_aload_n (pc := 108) dX10_size_108 rfl rfl ?_
            refine z_callV (pc := 109) (c_X10_begin (n := zsz1 n a b) hM (fun k hk => (by first | exact hw1 k hk))) dX10_size_109 l_RX10_88 m_MX10_begin n_MX10_begin e_MX10_begin rfl (by omega) (by assumption) rfl rfl (Nat.le_of_ble_eq_true rfl) ?_
            rintro _ _ _ (⟨rfl, hv, hi, rfl⟩)
            try dsimp only [zov, Option.toList, List.cons_append, List.nil_append]
            refine z_pop (pc := 112) dX10_size_112 rfl ?_
            refine z_iload_n (pc := 113) dX10_size_113 rfl rfl ?_
            refine z_iload_n (pc := 114) dX10_size_114 rfl rfl ?_
            first | refine z_imulN (pc := 115) (by with_reducible rfl) (by with_reducible rfl) dX10_size_115 ?_ | refine z_imul (pc := 115) dX10_size_115 ?_
            refine z_iret (pc := 116) dX10_size_116 rfl ?_
            exact ⟨⟨_, rfl⟩, Or.inl ⟨a, b, rfl, ⟨ha0, ha1⟩, rfl, ⟨hb0, hb1⟩, vW_eq hv (fun k _ => zsz1_tk.symm), (fun x y q => by rw [hi x y q, zup_n _ _ (by omega), zup_n _ _ (by omega), zup_n _ _ (by omega)]; exact hf1 x y q), rfl⟩⟩
          
          · unfold zbec
            by_cases q0 : j = 0
            · rw [q0, zup_n _ _ (by omega), if_pos rfl]; exact zup_s _ _ _ _
            by_cases q1 : j = 1
            · rw [q1, if_neg (by omega), if_pos rfl]; exact zup_s _ _ _ _
            rw [zup_n _ _ (by omega), zup_n _ _ (by omega), if_neg q0, if_neg q1, if_neg (by omega), if_neg (by omega), if_neg (by omega)]
            exact hW j h3
      · skip
        try dsimp only [zov, Option.toList, List.cons_append, List.nil_append]
        first | refine z_if_neN (pc := 21) (tgt := 27) (by with_reducible rfl) dX10_size_21 (by decide) (by omega) (fun hb21 => absurd hb21 (by decide)) (fun hb21 => ?_) | refine z_if_ne (pc := 21) (tgt := 27) dX10_size_21 (by decide) (fun hb21 => absurd hb21 (by decide)) (fun hb21 => ?_)
        · skip
          refine z_bipush (pc := 24) (v := -2) dX10_size_24 (by decide) ?_
          refine z_iret (pc := 26) dX10_size_26 rfl ?_
          first
            | exact ⟨⟨_, rfl⟩, Or.inr (Or.inl hr)⟩
            | exact ⟨⟨_, rfl⟩, Or.inr (Or.inr hc)⟩
            | fail
  · skip
    try dsimp only [zov, Option.toList, List.cons_append, List.nil_append]
    first | refine z_if_eqN (pc := 9) (tgt := 24) (by with_reducible rfl) dX10_size_9 (by decide) (by omega) (fun hb9 => ?_) (fun hb9 => absurd hb9 (by decide)) | refine z_if_eq (pc := 9) (tgt := 24) dX10_size_9 (by decide) (fun hb9 => ?_) (fun hb9 => absurd hb9 (by decide))
    · skip
      refine z_bipush (pc := 24) (v := -2) dX10_size_24 (by decide) ?_
      refine z_iret (pc := 26) dX10_size_26 rfl ?_
      first
        | exact ⟨⟨_, rfl⟩, Or.inr (Or.inl hr)⟩
        | exact ⟨⟨_, rfl⟩, Or.inr (Or.inr hc)⟩
        | fail

def layM : List zL := [.inl (10, [82, 83, 84, 0, 85, 0, 86, 1, 1, 87, 88, 89, 1, 1, 90, 91, 0, 0, 92, 93, 94, 95, 96, 97, 98]), .inr (.inl 73), .inr (.inl 73), .inr (.inl 73), .inr (.inl 100), .inr (.inl 48), .inr (.inl 9), .inr (.inl 9), .inr (.inl 18), .inr (.inl 6), .inr (.inl 6), .inr (.inl 9), .inr (.inr (.inl 4)), .inr (.inr (.inl 4)), .inr (.inl 6), .inr (.inl 6), .inr (.inr (.inl 360)), .inr (.inr (.inl 60))]
def layA : List zL := layC ++ layM
theorem kM_A : kM layA := ⟨rfl, rfl, rfl, rfl, rfl, rfl, rfl, rfl, rfl, rfl, rfl, rfl, rfl, rfl, rfl, rfl, rfl, rfl⟩
theorem kC_A : kC layA := ⟨rfl, ⟨⟨rfl, ⟨rfl, rfl, rfl, rfl⟩, ⟨rfl, rfl, rfl, rfl, rfl⟩, ⟨rfl, rfl, rfl⟩, ⟨rfl, rfl, rfl⟩, ⟨rfl, rfl, rfl⟩⟩, ⟨rfl, ⟨rfl, rfl, rfl, rfl⟩, ⟨rfl, rfl, rfl, rfl, rfl⟩, ⟨rfl, rfl, rfl⟩, ⟨rfl, rfl, rfl⟩, ⟨rfl, rfl, rfl⟩⟩⟩, ⟨⟨rfl, rfl⟩, ⟨rfl, rfl, rfl, rfl, fun t ht => by rcases (show t = 0 ∨ t = 1 ∨ t = 2 ∨ t = 3 ∨ t = 4 ∨ t = 5 by omega) with rfl | rfl | rfl | rfl | rfl | rfl <;> rfl⟩, ⟨rfl, ⟨rfl, rfl, rfl⟩, ⟨rfl, rfl⟩, rfl, rfl⟩⟩, ⟨⟨rfl, rfl, rfl, rfl⟩, ⟨rfl, rfl, rfl, rfl, rfl⟩, ⟨rfl, rfl, rfl, rfl, rfl⟩⟩, rfl, rfl, rfl, rfl, rfl, rfl⟩
theorem vC_to {I I' : zI} {J J' : zJ} {S : zS} (h : vC I J S) (hI : ∀ x, x < 79 → I' x = I x) (hJ : ∀ x, x < 79 → J' x = J x) : vC I' J' S := by
  obtain ⟨⟨p1, p2⟩, m, ⟨a1, a2, a3⟩, x, q⟩ := h
  refine ⟨⟨vP_to p1 (fun x _ _ => hI x (by omega)) (fun x _ _ => hJ x (by omega)), p2⟩, ?_, ⟨by rw [hI 0 (by omega)]; exact a1, a2, fun h1 => ⟨vP_to (a3 h1).1 (fun x _ _ => hI x (by omega)) (fun x _ _ => hJ x (by omega)), (a3 h1).2⟩⟩, ?_, ?_⟩
  · unfold mP
    rw [hI (20 + 10) (by omega), hI (20 + 13) (by omega), hI (20 + 16) (by omega)]
    exact m
  · unfold vX
    rw [hI 67 (by omega), hI (67 + 1) (by omega)]
    exact x
  · obtain ⟨q1, q2, q3, q4⟩ := q
    exact ⟨fun t ht => by rw [hI (69 + 2) (by omega)]; exact q1 t ht, fun t ht => by rw [hI (69 + 3) (by omega)]; exact q2 t ht, fun t i ht hi => by rw [hJ (69 + 4 + t) (by omega)]; exact q3 t i ht hi, q4⟩
theorem vM_to {I I' : zI} {J J' : zJ} {S : zS} (h : vM I J S) (hI : ∀ x, 78 < x → I' x = I x) (hJ : ∀ x, 78 < x → J' x = J x) : vM I' J' S := by
  obtain ⟨⟨q1, q2⟩, ⟨q4, q5, q6⟩, q7, q8⟩ := h
  refine ⟨⟨vW_to q1 (fun y => by rw [hI 80 (by omega)]), q2⟩, ⟨by rw [hI 79 (by omega)]; exact q4, q5, fun h1 => ⟨fun k hk => by rw [hI 81 (by omega)]; exact (q6 h1).1 k hk, (q6 h1).2⟩⟩, vMT_to q7 (by rw [hI 79 (by omega)]) (fun y => by rw [hI 83 (by omega)]), vMQ_to q8 (fun y => by rw [hI 93 (by omega)]) (fun y => by rw [hI 94 (by omega)]) (fun y => by rw [hJ 95 (by omega)])⟩
set_option maxHeartbeats 2000000 in
set_option maxRecDepth 20000 in
theorem l_X10_init {R : Room} {n k : Nat} {E : gE} {B : gB} {I0 : zI} {J : zJ} (K : ∀ I : zI, (∀ j, j < 6 → I 93 j = -1) → (∀ x, x ≠ 93 → I x = I0 x) → G R n k E B layA MX10_init 160 [.ref 79, .int (nI 6)] [] I J) : ∀ (m i : Nat) (I : zI), i + m = 6 → (∀ j, j < i → I 93 j = -1) → (∀ x, x ≠ 93 → I x = I0 x) → G R n k E B layA MX10_init 141 [.ref 79, .int (nI i)] [] I J := by
  intro m
  induction m with
  | zero =>
    intro i I hm h1 h2
    obtain rfl : i = 6 := (by omega)
    refine g_iload_n (pc := 141) dX10_init_141 rfl rfl ?_
    refine g_bipush (pc := 142) (v := nI 6) dX10_init_142 (by decide) ?_
    exact g_icmp_geN (pc := 144) (tgt := 160) (by with_reducible rfl) (by with_reducible rfl) dX10_init_144 (by decide) (by omega) (by omega) (fun hb => K I h1 h2) (fun hb => absurd hb (by omega))
  | succ m ih =>
    intro i I hm h1 h2
    have hm1 := kM_A.1
    have hm2 : layA[93]? = some (.inr (.inl 6)) := rfl
    refine g_iload_n (pc := 141) dX10_init_141 rfl rfl ?_
    refine g_bipush (pc := 142) (v := nI 6) dX10_init_142 (by decide) ?_
    refine g_icmp_geN (pc := 144) (tgt := 160) (by with_reducible rfl) (by with_reducible rfl) dX10_init_144 (by decide) (by omega) (by omega) (fun hb => absurd hb (by omega)) (fun hb => ?_)
    refine g_aload_n (pc := 147) dX10_init_147 rfl rfl ?_
    refine g_getR (pc := 148) dX10_init_148 f_RX10_52 hm1 rfl ?_
    refine g_iload_n (pc := 151) dX10_init_151 rfl rfl ?_
    refine g_iconst (pc := 152) (v := -1) dX10_init_152 (by decide) ?_
    refine g_iastore (pc := 153) dX10_init_153 hm2 rfl (by omega) (by decide) ?_
    refine g_iincN (pc := 154) (c := 1) dX10_init_154 rfl (by with_reducible rfl) (by decide) (by decide) rfl ?_
    try dsimp only [zst1, zst2, zk]
    refine g_goto (pc := 157) (tgt := 141) dX10_init_157 (by decide) ?_
    refine ih (i + 1) _ (by omega) (fun j hj => ?_) (fun x hx => by funext y; rw [zup_n _ _ (by omega)]; rw [h2 x hx])
    by_cases e : j = i
    · rw [e]
      exact zup_s _ _ _ _
    · rw [zup_n _ _ (by omega)]
      exact h1 j (by omega)
section Y1
variable {dC : Nat → ClassId} {dI : Nat → Nat → Nat} {cI cJ cR : ClassId} {R : Room} {n k : Nat} {E : gE} {B0 : (Nat → Prop) → Array Value → State → Prop} {t : zM} {pc : Nat} {ls st : List Value} {w1 : Nat × va_E} {tl : va_W}
theorem Y_newI1 {x : Int32} {N' n' k' : Nat} (hd : decode t.2.1 pc = .ok (.newarray .int, 2)) (hx : x = nI N') (hN : N' ≤ 1000) (hn : n + 1 ≤ R.cells ∧ k + N' ≤ R.slots) (e1 : n + 1 = n') (e2 : k + N' = k')
    (kk : ∀ q : Nat, Y dC dI cI cJ cR R n' k' E B0 t (pc + 2) ls (.ref q :: st) (w1 :: (tl ++ [(q, .inl (cI, N', .inl (fun _ => 0)))]))) : Y dC dI cI cJ cR R n k E B0 t pc ls (.int x :: st) (w1 :: tl) := by
  subst e1
  subst e2
  exact Y_newI hd hx hN hn kk
theorem Y_newJ1 {x : Int32} {N' n' k' : Nat} (hd : decode t.2.1 pc = .ok (.newarray .long, 2)) (hx : x = nI N') (hN : N' ≤ 1000) (hn : n + 1 ≤ R.cells ∧ k + N' ≤ R.slots) (e1 : n + 1 = n') (e2 : k + N' = k')
    (kk : ∀ q : Nat, Y dC dI cI cJ cR R n' k' E B0 t (pc + 2) ls (.ref q :: st) (w1 :: (tl ++ [(q, .inl (cJ, N', .inr (.inl (fun _ => 0))))]))) : Y dC dI cI cJ cR R n k E B0 t pc ls (.int x :: st) (w1 :: tl) := by
  subst e1
  subst e2
  exact Y_newJ hd hx hN hn kk
theorem Y_putF1 {idx ci k0 h N0 : Nat} {C0 : String} {T0 : u_T} {ty : FieldType} {fs fs' : List Value} {v : Value} (hd : decode t.2.1 pc = .ok (.putfield idx, 3)) (hF : zFld t.1.cls idx ci k0 ty true) (hz : zcls[ci]? = some (C0, T0, N0)) (hdc : (T0 k0).1 = t.1.cls) (hini : t.1.name = "<init>") (hnr : narrow ty v = v) (hft : fits ty v = true) (hlt : k0 < fs.length) (hs : fs.set k0 v = fs') (kk : Y dC dI cI cJ cR R n k E B0 t (pc + 3) ls st ((h, .inr (ci, fs')) :: tl)) : Y dC dI cI cJ cR R n k E B0 t pc ls (v :: .ref h :: st) ((h, .inr (ci, fs)) :: tl) := by
  subst hs
  exact Y_putF hd hF hz hdc hini hnr hft hlt kk
end Y1
theorem zWo_c {b b' : Nat} {cI cJ cR : ClassId} {ad : Nat → Nat} {c : zL} {l : List zL} {I : zI} {J : zJ} {p : Nat × va_E} {r : va_W} (hb : b + 1 = b') (he : (ad b, zcell cI cJ cR ad I J b c) = p) (hr : zWo b' cI cJ cR ad l I J = r) : zWo b cI cJ cR ad (c :: l) I J = p :: r := by
  subst hb
  subst he
  subst hr
  unfold zWo
  rw [List.mapIdx_cons]
  refine congrArg (fun z => _ :: z) ?_
  refine congrArg (fun g => List.mapIdx g l) ?_
  funext a c
  rw [show b + (a + 1) = b + 1 + a by omega]
theorem y_mapc {α β : Type} {f : Nat → α → β} {a : α} {l : List α} {b : β} {r : List β} (h : f 0 a = b) (hr : List.mapIdx (fun i => f (i + 1)) l = r) : List.mapIdx f (a :: l) = b :: r := by
  rw [List.mapIdx_cons, h, hr]
set_option maxHeartbeats 1000000 in
set_option maxRecDepth 20000 in
theorem y_X10_a {dC : Nat → ClassId} {dI : Nat → Nat → Nat} {cI cJ cR : ClassId} {E : gE} {B0 : (Nat → Prop) → Array Value → State → Prop} {h : Nat} {Z : va_W} (kk : ∀ q7 q15 q23 q31 q39 q47 q55 q63 q71 q79 q87 q94 q101 q109 q117 q126 q134 : Nat, Y dC dI cI cJ cR (yroom 3 17 864) 17 864 E B0 MX10_init 139 [.ref h, .null] [] ((h, .inr (10, [.ref q7, .ref q15, .ref q23, .int 0, .ref q31, .int 0, .ref q39, .long 0, .long 0, .ref q47, .ref q55, .ref q63, .long 0, .long 0, .ref q71, .ref q79, .int 0, .int 0, .ref q87, .ref q94, .ref q101, .ref q109, .ref q117, .ref q126, .ref q134])) :: (Z ++ [(q7, .inl (cI, 73, .inl (fun _ => 0)))] ++ [(q15, .inl (cI, 73, .inl (fun _ => 0)))] ++ [(q23, .inl (cI, 73, .inl (fun _ => 0)))] ++ [(q31, .inl (cI, 100, .inl (fun _ => 0)))] ++ [(q39, .inl (cI, 48, .inl (fun _ => 0)))] ++ [(q47, .inl (cI, 9, .inl (fun _ => 0)))] ++ [(q55, .inl (cI, 9, .inl (fun _ => 0)))] ++ [(q63, .inl (cI, 18, .inl (fun _ => 0)))] ++ [(q71, .inl (cI, 6, .inl (fun _ => 0)))] ++ [(q79, .inl (cI, 6, .inl (fun _ => 0)))] ++ [(q87, .inl (cI, 9, .inl (fun _ => 0)))] ++ [(q94, .inl (cJ, 4, .inr (.inl (fun _ => 0))))] ++ [(q101, .inl (cJ, 4, .inr (.inl (fun _ => 0))))] ++ [(q109, .inl (cI, 6, .inl (fun _ => 0)))] ++ [(q117, .inl (cI, 6, .inl (fun _ => 0)))] ++ [(q126, .inl (cJ, 360, .inr (.inl (fun _ => 0))))] ++ [(q134, .inl (cJ, 60, .inr (.inl (fun _ => 0))))]))) : Y dC dI cI cJ cR (yroom 3 17 864) 0 0 E B0 MX10_init 0 [.ref h, .null] [] ((h, .inr (10, [.null, .null, .null, .int 0, .null, .int 0, .null, .long 0, .long 0, .null, .null, .null, .long 0, .long 0, .null, .null, .int 0, .int 0, .null, .null, .null, .null, .null, .null, .null])) :: Z) := by
  refine Y_aload_n (pc := 0) dX10_init_0 rfl rfl ?_
  refine Y_objInit (pc := 1) dX10_init_1 lo_RX10_5 (Nat.le_of_ble_eq_true rfl) (Nat.le_of_ble_eq_true rfl) ?_
  refine Y_aload_n (pc := 4) dX10_init_4 rfl rfl ?_
  refine Y_bipush (pc := 5) (v := nI 73) dX10_init_5 (by decide) ?_
  refine Y_newI1 (pc := 7) dX10_init_7 rfl (by decide) ⟨Nat.le_of_ble_eq_true rfl, Nat.le_of_ble_eq_true rfl⟩ (show 0 + 1 = 1 from rfl) (show 0 + 73 = 73 from rfl) (fun q7 => ?_)
  refine Y_putF1 (pc := 9) dX10_init_9 f_RX10_11 rfl rfl rfl rfl rfl (Nat.le_of_ble_eq_true rfl) (show _ = ([.ref q7, .null, .null, .int 0, .null, .int 0, .null, .long 0, .long 0, .null, .null, .null, .long 0, .long 0, .null, .null, .int 0, .int 0, .null, .null, .null, .null, .null, .null, .null] : List Value) from rfl) ?_
  refine Y_aload_n (pc := 12) dX10_init_12 rfl rfl ?_
  refine Y_bipush (pc := 13) (v := nI 73) dX10_init_13 (by decide) ?_
  refine Y_newI1 (pc := 15) dX10_init_15 rfl (by decide) ⟨Nat.le_of_ble_eq_true rfl, Nat.le_of_ble_eq_true rfl⟩ (show 1 + 1 = 2 from rfl) (show 73 + 73 = 146 from rfl) (fun q15 => ?_)
  refine Y_putF1 (pc := 17) dX10_init_17 f_RX10_15 rfl rfl rfl rfl rfl (Nat.le_of_ble_eq_true rfl) (show _ = ([.ref q7, .ref q15, .null, .int 0, .null, .int 0, .null, .long 0, .long 0, .null, .null, .null, .long 0, .long 0, .null, .null, .int 0, .int 0, .null, .null, .null, .null, .null, .null, .null] : List Value) from rfl) ?_
  refine Y_aload_n (pc := 20) dX10_init_20 rfl rfl ?_
  refine Y_bipush (pc := 21) (v := nI 73) dX10_init_21 (by decide) ?_
  refine Y_newI1 (pc := 23) dX10_init_23 rfl (by decide) ⟨Nat.le_of_ble_eq_true rfl, Nat.le_of_ble_eq_true rfl⟩ (show 2 + 1 = 3 from rfl) (show 146 + 73 = 219 from rfl) (fun q23 => ?_)
  refine Y_putF1 (pc := 25) dX10_init_25 f_RX10_18 rfl rfl rfl rfl rfl (Nat.le_of_ble_eq_true rfl) (show _ = ([.ref q7, .ref q15, .ref q23, .int 0, .null, .int 0, .null, .long 0, .long 0, .null, .null, .null, .long 0, .long 0, .null, .null, .int 0, .int 0, .null, .null, .null, .null, .null, .null, .null] : List Value) from rfl) ?_
  refine Y_aload_n (pc := 28) dX10_init_28 rfl rfl ?_
  refine Y_bipush (pc := 29) (v := nI 100) dX10_init_29 (by decide) ?_
  refine Y_newI1 (pc := 31) dX10_init_31 rfl (by decide) ⟨Nat.le_of_ble_eq_true rfl, Nat.le_of_ble_eq_true rfl⟩ (show 3 + 1 = 4 from rfl) (show 219 + 100 = 319 from rfl) (fun q31 => ?_)
  refine Y_putF1 (pc := 33) dX10_init_33 f_RX10_21 rfl rfl rfl rfl rfl (Nat.le_of_ble_eq_true rfl) (show _ = ([.ref q7, .ref q15, .ref q23, .int 0, .ref q31, .int 0, .null, .long 0, .long 0, .null, .null, .null, .long 0, .long 0, .null, .null, .int 0, .int 0, .null, .null, .null, .null, .null, .null, .null] : List Value) from rfl) ?_
  refine Y_aload_n (pc := 36) dX10_init_36 rfl rfl ?_
  refine Y_bipush (pc := 37) (v := nI 48) dX10_init_37 (by decide) ?_
  refine Y_newI1 (pc := 39) dX10_init_39 rfl (by decide) ⟨Nat.le_of_ble_eq_true rfl, Nat.le_of_ble_eq_true rfl⟩ (show 4 + 1 = 5 from rfl) (show 319 + 48 = 367 from rfl) (fun q39 => ?_)
  refine Y_putF1 (pc := 41) dX10_init_41 f_RX10_24 rfl rfl rfl rfl rfl (Nat.le_of_ble_eq_true rfl) (show _ = ([.ref q7, .ref q15, .ref q23, .int 0, .ref q31, .int 0, .ref q39, .long 0, .long 0, .null, .null, .null, .long 0, .long 0, .null, .null, .int 0, .int 0, .null, .null, .null, .null, .null, .null, .null] : List Value) from rfl) ?_
  refine Y_aload_n (pc := 44) dX10_init_44 rfl rfl ?_
  refine Y_bipush (pc := 45) (v := nI 9) dX10_init_45 (by decide) ?_
  refine Y_newI1 (pc := 47) dX10_init_47 rfl (by decide) ⟨Nat.le_of_ble_eq_true rfl, Nat.le_of_ble_eq_true rfl⟩ (show 5 + 1 = 6 from rfl) (show 367 + 9 = 376 from rfl) (fun q47 => ?_)
  refine Y_putF1 (pc := 49) dX10_init_49 f_RX10_27 rfl rfl rfl rfl rfl (Nat.le_of_ble_eq_true rfl) (show _ = ([.ref q7, .ref q15, .ref q23, .int 0, .ref q31, .int 0, .ref q39, .long 0, .long 0, .ref q47, .null, .null, .long 0, .long 0, .null, .null, .int 0, .int 0, .null, .null, .null, .null, .null, .null, .null] : List Value) from rfl) ?_
  refine Y_aload_n (pc := 52) dX10_init_52 rfl rfl ?_
  refine Y_bipush (pc := 53) (v := nI 9) dX10_init_53 (by decide) ?_
  refine Y_newI1 (pc := 55) dX10_init_55 rfl (by decide) ⟨Nat.le_of_ble_eq_true rfl, Nat.le_of_ble_eq_true rfl⟩ (show 6 + 1 = 7 from rfl) (show 376 + 9 = 385 from rfl) (fun q55 => ?_)
  refine Y_putF1 (pc := 57) dX10_init_57 f_RX10_30 rfl rfl rfl rfl rfl (Nat.le_of_ble_eq_true rfl) (show _ = ([.ref q7, .ref q15, .ref q23, .int 0, .ref q31, .int 0, .ref q39, .long 0, .long 0, .ref q47, .ref q55, .null, .long 0, .long 0, .null, .null, .int 0, .int 0, .null, .null, .null, .null, .null, .null, .null] : List Value) from rfl) ?_
  refine Y_aload_n (pc := 60) dX10_init_60 rfl rfl ?_
  refine Y_bipush (pc := 61) (v := nI 18) dX10_init_61 (by decide) ?_
  refine Y_newI1 (pc := 63) dX10_init_63 rfl (by decide) ⟨Nat.le_of_ble_eq_true rfl, Nat.le_of_ble_eq_true rfl⟩ (show 7 + 1 = 8 from rfl) (show 385 + 18 = 403 from rfl) (fun q63 => ?_)
  refine Y_putF1 (pc := 65) dX10_init_65 f_RX10_33 rfl rfl rfl rfl rfl (Nat.le_of_ble_eq_true rfl) (show _ = ([.ref q7, .ref q15, .ref q23, .int 0, .ref q31, .int 0, .ref q39, .long 0, .long 0, .ref q47, .ref q55, .ref q63, .long 0, .long 0, .null, .null, .int 0, .int 0, .null, .null, .null, .null, .null, .null, .null] : List Value) from rfl) ?_
  refine Y_aload_n (pc := 68) dX10_init_68 rfl rfl ?_
  refine Y_bipush (pc := 69) (v := nI 6) dX10_init_69 (by decide) ?_
  refine Y_newI1 (pc := 71) dX10_init_71 rfl (by decide) ⟨Nat.le_of_ble_eq_true rfl, Nat.le_of_ble_eq_true rfl⟩ (show 8 + 1 = 9 from rfl) (show 403 + 6 = 409 from rfl) (fun q71 => ?_)
  refine Y_putF1 (pc := 73) dX10_init_73 f_RX10_36 rfl rfl rfl rfl rfl (Nat.le_of_ble_eq_true rfl) (show _ = ([.ref q7, .ref q15, .ref q23, .int 0, .ref q31, .int 0, .ref q39, .long 0, .long 0, .ref q47, .ref q55, .ref q63, .long 0, .long 0, .ref q71, .null, .int 0, .int 0, .null, .null, .null, .null, .null, .null, .null] : List Value) from rfl) ?_
  refine Y_aload_n (pc := 76) dX10_init_76 rfl rfl ?_
  refine Y_bipush (pc := 77) (v := nI 6) dX10_init_77 (by decide) ?_
  refine Y_newI1 (pc := 79) dX10_init_79 rfl (by decide) ⟨Nat.le_of_ble_eq_true rfl, Nat.le_of_ble_eq_true rfl⟩ (show 9 + 1 = 10 from rfl) (show 409 + 6 = 415 from rfl) (fun q79 => ?_)
  refine Y_putF1 (pc := 81) dX10_init_81 f_RX10_39 rfl rfl rfl rfl rfl (Nat.le_of_ble_eq_true rfl) (show _ = ([.ref q7, .ref q15, .ref q23, .int 0, .ref q31, .int 0, .ref q39, .long 0, .long 0, .ref q47, .ref q55, .ref q63, .long 0, .long 0, .ref q71, .ref q79, .int 0, .int 0, .null, .null, .null, .null, .null, .null, .null] : List Value) from rfl) ?_
  refine Y_aload_n (pc := 84) dX10_init_84 rfl rfl ?_
  refine Y_bipush (pc := 85) (v := nI 9) dX10_init_85 (by decide) ?_
  refine Y_newI1 (pc := 87) dX10_init_87 rfl (by decide) ⟨Nat.le_of_ble_eq_true rfl, Nat.le_of_ble_eq_true rfl⟩ (show 10 + 1 = 11 from rfl) (show 415 + 9 = 424 from rfl) (fun q87 => ?_)
  refine Y_putF1 (pc := 89) dX10_init_89 f_RX10_42 rfl rfl rfl rfl rfl (Nat.le_of_ble_eq_true rfl) (show _ = ([.ref q7, .ref q15, .ref q23, .int 0, .ref q31, .int 0, .ref q39, .long 0, .long 0, .ref q47, .ref q55, .ref q63, .long 0, .long 0, .ref q71, .ref q79, .int 0, .int 0, .ref q87, .null, .null, .null, .null, .null, .null] : List Value) from rfl) ?_
  refine Y_aload_n (pc := 92) dX10_init_92 rfl rfl ?_
  refine Y_iconst (pc := 93) (v := nI 4) dX10_init_93 (by decide) ?_
  refine Y_newJ1 (pc := 94) dX10_init_94 rfl (by decide) ⟨Nat.le_of_ble_eq_true rfl, Nat.le_of_ble_eq_true rfl⟩ (show 11 + 1 = 12 from rfl) (show 424 + 4 = 428 from rfl) (fun q94 => ?_)
  refine Y_putF1 (pc := 96) dX10_init_96 f_RX10_45 rfl rfl rfl rfl rfl (Nat.le_of_ble_eq_true rfl) (show _ = ([.ref q7, .ref q15, .ref q23, .int 0, .ref q31, .int 0, .ref q39, .long 0, .long 0, .ref q47, .ref q55, .ref q63, .long 0, .long 0, .ref q71, .ref q79, .int 0, .int 0, .ref q87, .ref q94, .null, .null, .null, .null, .null] : List Value) from rfl) ?_
  refine Y_aload_n (pc := 99) dX10_init_99 rfl rfl ?_
  refine Y_iconst (pc := 100) (v := nI 4) dX10_init_100 (by decide) ?_
  refine Y_newJ1 (pc := 101) dX10_init_101 rfl (by decide) ⟨Nat.le_of_ble_eq_true rfl, Nat.le_of_ble_eq_true rfl⟩ (show 12 + 1 = 13 from rfl) (show 428 + 4 = 432 from rfl) (fun q101 => ?_)
  refine Y_putF1 (pc := 103) dX10_init_103 f_RX10_49 rfl rfl rfl rfl rfl (Nat.le_of_ble_eq_true rfl) (show _ = ([.ref q7, .ref q15, .ref q23, .int 0, .ref q31, .int 0, .ref q39, .long 0, .long 0, .ref q47, .ref q55, .ref q63, .long 0, .long 0, .ref q71, .ref q79, .int 0, .int 0, .ref q87, .ref q94, .ref q101, .null, .null, .null, .null] : List Value) from rfl) ?_
  refine Y_aload_n (pc := 106) dX10_init_106 rfl rfl ?_
  refine Y_bipush (pc := 107) (v := nI 6) dX10_init_107 (by decide) ?_
  refine Y_newI1 (pc := 109) dX10_init_109 rfl (by decide) ⟨Nat.le_of_ble_eq_true rfl, Nat.le_of_ble_eq_true rfl⟩ (show 13 + 1 = 14 from rfl) (show 432 + 6 = 438 from rfl) (fun q109 => ?_)
  refine Y_putF1 (pc := 111) dX10_init_111 f_RX10_52 rfl rfl rfl rfl rfl (Nat.le_of_ble_eq_true rfl) (show _ = ([.ref q7, .ref q15, .ref q23, .int 0, .ref q31, .int 0, .ref q39, .long 0, .long 0, .ref q47, .ref q55, .ref q63, .long 0, .long 0, .ref q71, .ref q79, .int 0, .int 0, .ref q87, .ref q94, .ref q101, .ref q109, .null, .null, .null] : List Value) from rfl) ?_
  refine Y_aload_n (pc := 114) dX10_init_114 rfl rfl ?_
  refine Y_bipush (pc := 115) (v := nI 6) dX10_init_115 (by decide) ?_
  refine Y_newI1 (pc := 117) dX10_init_117 rfl (by decide) ⟨Nat.le_of_ble_eq_true rfl, Nat.le_of_ble_eq_true rfl⟩ (show 14 + 1 = 15 from rfl) (show 438 + 6 = 444 from rfl) (fun q117 => ?_)
  refine Y_putF1 (pc := 119) dX10_init_119 f_RX10_55 rfl rfl rfl rfl rfl (Nat.le_of_ble_eq_true rfl) (show _ = ([.ref q7, .ref q15, .ref q23, .int 0, .ref q31, .int 0, .ref q39, .long 0, .long 0, .ref q47, .ref q55, .ref q63, .long 0, .long 0, .ref q71, .ref q79, .int 0, .int 0, .ref q87, .ref q94, .ref q101, .ref q109, .ref q117, .null, .null] : List Value) from rfl) ?_
  refine Y_aload_n (pc := 122) dX10_init_122 rfl rfl ?_
  refine Y_sipush (pc := 123) (v := nI 360) dX10_init_123 (by decide) ?_
  refine Y_newJ1 (pc := 126) dX10_init_126 rfl (by decide) ⟨Nat.le_of_ble_eq_true rfl, Nat.le_of_ble_eq_true rfl⟩ (show 15 + 1 = 16 from rfl) (show 444 + 360 = 804 from rfl) (fun q126 => ?_)
  refine Y_putF1 (pc := 128) dX10_init_128 f_RX10_58 rfl rfl rfl rfl rfl (Nat.le_of_ble_eq_true rfl) (show _ = ([.ref q7, .ref q15, .ref q23, .int 0, .ref q31, .int 0, .ref q39, .long 0, .long 0, .ref q47, .ref q55, .ref q63, .long 0, .long 0, .ref q71, .ref q79, .int 0, .int 0, .ref q87, .ref q94, .ref q101, .ref q109, .ref q117, .ref q126, .null] : List Value) from rfl) ?_
  refine Y_aload_n (pc := 131) dX10_init_131 rfl rfl ?_
  refine Y_bipush (pc := 132) (v := nI 60) dX10_init_132 (by decide) ?_
  refine Y_newJ1 (pc := 134) dX10_init_134 rfl (by decide) ⟨Nat.le_of_ble_eq_true rfl, Nat.le_of_ble_eq_true rfl⟩ (show 16 + 1 = 17 from rfl) (show 804 + 60 = 864 from rfl) (fun q134 => ?_)
  refine Y_putF1 (pc := 136) dX10_init_136 f_RX10_61 rfl rfl rfl rfl rfl (Nat.le_of_ble_eq_true rfl) (show _ = ([.ref q7, .ref q15, .ref q23, .int 0, .ref q31, .int 0, .ref q39, .long 0, .long 0, .ref q47, .ref q55, .ref q63, .long 0, .long 0, .ref q71, .ref q79, .int 0, .int 0, .ref q87, .ref q94, .ref q101, .ref q109, .ref q117, .ref q126, .ref q134] : List Value) from rfl) ?_
  exact kk q7 q15 q23 q31 q39 q47 q55 q63 q71 q79 q87 q94 q101 q109 q117 q126 q134
set_option maxHeartbeats 1000000 in
set_option maxRecDepth 20000 in
theorem y_X10_z {cI cJ cR : ClassId} {ad0 : Nat → Nat} {I0 : zI} {J0 : zJ} {h q7 q15 q23 q31 q39 q47 q55 q63 q71 q79 q87 q94 q101 q109 q117 q126 q134 : Nat} : zW cI cJ cR (zj 0 79 ad0 (fun x => adL [h, q7, q15, q23, q31, q39, q47, q55, q63, q71, q79, q87, q94, q101, q109, q117, q126, q134] (x - 79))) layA (zj 0 79 I0 (fun _ _ => 0)) (zj 0 79 J0 (fun _ _ => 0)) = zW cI cJ cR ad0 layC I0 J0 ++ [(h, .inr (10, [.ref q7, .ref q15, .ref q23, .int 0, .ref q31, .int 0, .ref q39, .long 0, .long 0, .ref q47, .ref q55, .ref q63, .long 0, .long 0, .ref q71, .ref q79, .int 0, .int 0, .ref q87, .ref q94, .ref q101, .ref q109, .ref q117, .ref q126, .ref q134])), (q7, .inl (cI, 73, .inl (fun _ => 0))), (q15, .inl (cI, 73, .inl (fun _ => 0))), (q23, .inl (cI, 73, .inl (fun _ => 0))), (q31, .inl (cI, 100, .inl (fun _ => 0))), (q39, .inl (cI, 48, .inl (fun _ => 0))), (q47, .inl (cI, 9, .inl (fun _ => 0))), (q55, .inl (cI, 9, .inl (fun _ => 0))), (q63, .inl (cI, 18, .inl (fun _ => 0))), (q71, .inl (cI, 6, .inl (fun _ => 0))), (q79, .inl (cI, 6, .inl (fun _ => 0))), (q87, .inl (cI, 9, .inl (fun _ => 0))), (q94, .inl (cJ, 4, .inr (.inl (fun _ => 0)))), (q101, .inl (cJ, 4, .inr (.inl (fun _ => 0)))), (q109, .inl (cI, 6, .inl (fun _ => 0))), (q117, .inl (cI, 6, .inl (fun _ => 0))), (q126, .inl (cJ, 360, .inr (.inl (fun _ => 0)))), (q134, .inl (cJ, 60, .inr (.inl (fun _ => 0))))] := by
  have hl : 0 + layC.length = 79 := rfl
  rw [zWo_0 (lay := layA), show layA = layC ++ layM from rfl, zWo_app, hl]
  rw [show zWo 0 cI cJ cR (zj 0 79 ad0 (fun x => adL [h, q7, q15, q23, q31, q39, q47, q55, q63, q71, q79, q87, q94, q101, q109, q117, q126, q134] (x - 79))) layC (zj 0 79 I0 (fun _ _ => 0)) (zj 0 79 J0 (fun _ _ => 0)) = zW cI cJ cR ad0 layC I0 J0 from zWo_sh (b := 0) rfl (fun c hc => List.all_eq_true.mp (show layC.all (zclo layC.length) = true from by decide +kernel) c hc) (fun x hx => zj_i hx) (fun x hx => zj_i hx) (fun x hx => zj_i hx)]
  refine congrArg (fun z => zW cI cJ cR ad0 layC I0 J0 ++ z) ?_
  exact (zWo_c (b' := 80) rfl (congrArg (fun l => ((h, Sum.inr (10, l)) : Nat × va_E)) (y_mapc rfl (y_mapc rfl (y_mapc rfl (y_mapc rfl (y_mapc rfl (y_mapc rfl (y_mapc rfl (y_mapc rfl (y_mapc rfl (y_mapc rfl (y_mapc rfl (y_mapc rfl (y_mapc rfl (y_mapc rfl (y_mapc rfl (y_mapc rfl (y_mapc rfl (y_mapc rfl (y_mapc rfl (y_mapc rfl (y_mapc rfl (y_mapc rfl (y_mapc rfl (y_mapc rfl (y_mapc rfl rfl)))))))))))))))))))))))))) (zWo_c (b' := 81) rfl rfl (zWo_c (b' := 82) rfl rfl (zWo_c (b' := 83) rfl rfl (zWo_c (b' := 84) rfl rfl (zWo_c (b' := 85) rfl rfl (zWo_c (b' := 86) rfl rfl (zWo_c (b' := 87) rfl rfl (zWo_c (b' := 88) rfl rfl (zWo_c (b' := 89) rfl rfl (zWo_c (b' := 90) rfl rfl (zWo_c (b' := 91) rfl rfl (zWo_c (b' := 92) rfl rfl (zWo_c (b' := 93) rfl rfl (zWo_c (b' := 94) rfl rfl (zWo_c (b' := 95) rfl rfl (zWo_c (b' := 96) rfl rfl (zWo_c (b' := 97) rfl rfl rfl))))))))))))))))))
theorem y_X10_p {Z : va_W} {a : Nat × va_E} {b0 b1 b2 b3 b4 b5 b6 b7 b8 b9 b10 b11 b12 b13 b14 b15 b16 : Nat × va_E} : (a :: (Z ++ [b0] ++ [b1] ++ [b2] ++ [b3] ++ [b4] ++ [b5] ++ [b6] ++ [b7] ++ [b8] ++ [b9] ++ [b10] ++ [b11] ++ [b12] ++ [b13] ++ [b14] ++ [b15] ++ [b16])).Perm (Z ++ [a, b0, b1, b2, b3, b4, b5, b6, b7, b8, b9, b10, b11, b12, b13, b14, b15, b16]) := by
  refine List.Perm.trans (List.Perm.of_eq ?_) (List.perm_middle).symm
  simp only [List.append_assoc, List.cons_append, List.nil_append]
set_option maxHeartbeats 1000000 in
set_option maxRecDepth 20000 in
theorem c_X10_init {ad0 : Nat → Nat} {I0 : zI} {J0 : zJ} (hv0 : vC I0 J0 S0) : yMet layA MX10_init 3 17 864 (fun cI cJ cR h => (h, .inr (10, [.null, .null, .null, .int 0, .null, .int 0, .null, .long 0, .long 0, .null, .null, .null, .long 0, .long 0, .null, .null, .int 0, .int 0, .null, .null, .null, .null, .null, .null, .null])) :: zW cI cJ cR ad0 layC I0 J0) [] (fun h ad I J => (ad 79 = h ∧ ad 0 = ad0 0) ∧ vC I J S0 ∧ vM I J S0) := by
  refine yMet_of (t := MX10_init) (ls := fun h => [.ref h, .null]) (by decide +kernel) rfl (fun _ => Nat.le_of_ble_eq_true rfl) (fun _ => rfl) (fun dC dI cI cJ cR h => ?_)
  refine y_X10_a (fun q7 q15 q23 q31 q39 q47 q55 q63 q71 q79 q87 q94 q101 q109 q117 q126 q134 => ?_)
  refine Y_perm y_X10_p ?_
  rw [← y_X10_z]
  refine Y_G (lay := layA) (ad := (zj 0 79 ad0 (fun x => adL [h, q7, q15, q23, q31, q39, q47, q55, q63, q71, q79, q87, q94, q101, q109, q117, q126, q134] (x - 79)))) (I := (zj 0 79 I0 (fun _ _ => 0))) (J := (zj 0 79 J0 (fun _ _ => 0))) (ls' := [.ref 79, .null]) (st' := []) (B := fun ad _ _ _ => ad 79 = h ∧ ad 0 = ad0 0) (List.Perm.refl _) (fun _ _ _ _ _ _ _ _ _ => rfl) (fun _ _ _ _ => ⟨rfl, rfl⟩) rfl rfl ?_
  refine g_iconst (pc := 139) (v := nI 0) dX10_init_139 (by decide) ?_
  refine g_istore_n (pc := 140) dX10_init_140 rfl (by decide) rfl ?_
  try dsimp only [zst1, zst2, zk]
  refine l_X10_init (I0 := (zj 0 79 I0 (fun _ _ => 0))) (fun I1 h1 h2 => ?_) 6 0 _ rfl (fun j hj => absurd hj (by omega)) (fun _ _ => rfl)
  have hm1 := kM_A.1
  refine g_aload_n (pc := 160) dX10_init_160 rfl rfl ?_
  refine g_iconst (pc := 161) (v := nI 2) dX10_init_161 (by decide) ?_
  refine g_iconst (pc := 162) (v := nI 2) dX10_init_162 (by decide) ?_
  refine g_callV (pc := 163) (c_X10_size0 (n := fun _ => 0) kM_A (fun k hk => by rw [h2 80 (by omega)]; rfl)) dX10_init_163 l_RX10_64 m_MX10_size n_MX10_size e_MX10_size rfl ⟨Nat.le_of_ble_eq_true rfl, Nat.le_of_ble_eq_true rfl⟩ ⟨Nat.le_of_ble_eq_true rfl, Nat.le_of_ble_eq_true rfl⟩ hm1 rfl rfl (Nat.le_of_ble_eq_true rfl) ?_
  rintro _ I2 _ ⟨⟨v, rfl⟩, ⟨a, b, ea, ha, eb, hb, hw, hf, rfl⟩ | hno | hno⟩
  · have e1 : 2 = a := nI_inj (by omega) (by omega) ea
    have e2 : 2 = b := nI_inj (by omega) (by omega) eb
    subst e1
    subst e2
    refine g_pop (pc := 166) dX10_init_166 rfl ?_
    refine G_vret (pc := 167) (Bad := fun ad => ad 79 = h ∧ ad 0 = ad0 0) dX10_init_167 rfl (fun ad ha => ⟨ha, vC_to hv0 (fun x hx => ?_) (fun x hx => ?_), ?_⟩)
    · funext y
      rw [hf x y (by omega), h2 x (by omega)]
      show zj 0 79 I0 _ x y = _
      rw [← Nat.zero_add x, zj_i hx, Nat.zero_add]
    · rw [← Nat.zero_add x, zj_i hx, Nat.zero_add]
    · refine ⟨⟨hw, bN_n0, zsize_bG⟩, ⟨?_, Nat.zero_le _, fun q => absurd q (by decide)⟩, ⟨?_, Nat.zero_le _, fun k hk => absurd hk (Nat.not_lt_zero k), fun k hk => absurd hk (Nat.not_lt_zero k)⟩, fun t ht => ?_, fun t ht => ?_, fun t i _ hi => absurd hi (Nat.not_lt_zero i), fun t _ => ⟨Nat.zero_le _, fun _ => rfl, Or.inl rfl⟩⟩
      · rw [hf 79 3 (by omega), h2 79 (by omega)]; rfl
      · rw [hf 79 5 (by omega), h2 79 (by omega)]; rfl
      · rw [hf 93 t (by omega)]; exact h1 t ht
      · rw [hf 94 t (by omega), h2 94 (by omega)]; rfl
  · exact absurd ⟨2, rfl, by omega, by omega⟩ hno
  · exact absurd ⟨2, rfl, by omega, by omega⟩ hno
