/-! ===== the class's calls: tapes ===== -/
theorem zT_n {t : Int32} (h : ¬ isT t) : zT t = none := zite_n h
theorem zT_y {a : Nat} (h : a < 6) : zT (nI a) = some a := by
  unfold zT
  rw [zite_y ⟨a, rfl, h⟩, zt_nI (by omega)]
theorem zI0_n {le : Nat} {i : Int32} (h : ¬ ∃ a, i = nI a ∧ a < le) : zI0 le i = none := zite_n h
theorem zI0_y {le a : Nat} (hl : le ≤ 60) (h : a < le) : zI0 le (nI a) = some a := by
  unfold zI0
  rw [zite_y ⟨a, rfl, h⟩, zt_nI (by omega)]
theorem zPC_tape {I I' : zI} {J J' : zJ} {S : zS} {p : Value × zS} {r : Value} {so : Nat → Int32} {le : Nat → Nat} {it : Nat → Nat → Int64} (h : vC I J S) (hI : ∀ x, (x < 69 ∨ 78 < x) → I' x = I x) (hJ : ∀ x, (x < 69 ∨ 78 < x) → J' x = J x) (hx : vQ I' J' 69 so le it) (e : p = (r, S.upQ so le it)) : zPC I J p r I' J' := by
  subst e
  exact ⟨rfl, vC_tape h hI hJ hx, fun x hx => hI x (by omega), fun x hx => hJ x (by omega)⟩
/-- a tape anew -/
theorem vQ_new {I : zI} {J J' : zJ} {so : Nat → Int32} {le : Nat → Nat} {it : Nat → Nat → Int64} {t n : Nat} {s : Int32} (h : vQ I J 69 so le it) (ht : t < 6) (hn : n ≤ 60) (hs : s = -1 → n = 0) (hJ : zbQ J (69 + 4 + t) 60 J') : vQ (zup (zup I (69 + 2) t s) (69 + 3) t (nI n)) J' 69 (fun x => if x = t then s else so x) (zset1 le t n) (fun x y => if x = t then lN 0 else it x y) := by
  obtain ⟨v0, v1, v2, v3⟩ := h
  refine ⟨fun u hu => ?_, fun u hu => ?_, fun u i hu hi => ?_, fun u hu => ?_⟩
  · show _ = if u = t then s else so u
    rw [zup_o (by omega)]
    by_cases q : u = t
    · rw [if_pos q, q]; exact zup_s _ _ _ _
    · rw [if_neg q, zup_n _ _ (by omega)]; exact v0 u hu
  · by_cases q : u = t
    · rw [q, zset1_s]; exact zup_s _ _ _ _
    · rw [zset1_o q, zup_n _ _ (by omega), zup_o (by omega)]; exact v1 u hu
  · show _ = if u = t then lN 0 else it u i
    by_cases q : u = t
    · rw [q, zset1_s] at hi
      rw [if_pos q, q]; exact hJ.1 i (by omega)
    · rw [zset1_o q] at hi
      rw [if_neg q, hJ.2 _ (by omega)]; exact v2 u i hu hi
  · show zset1 le t n u ≤ 60 ∧ ((if u = t then s else so u) = -1 → zset1 le t n u = 0)
    by_cases q : u = t
    · rw [q, zset1_s, if_pos rfl]; exact ⟨hn, hs⟩
    · rw [zset1_o q, if_neg q]; exact v3 u hu
theorem vQ_put {I : zI} {J : zJ} {so : Nat → Int32} {le : Nat → Nat} {it : Nat → Nat → Int64} {t i : Nat} {v : Int64} (h : vQ I J 69 so le it) (ht : t < 6) : vQ I (zup J (69 + 4 + t) i v) 69 so le (fun x y => if x = t ∧ y = i then v else it x y) := by
  obtain ⟨v0, v1, v2, v3⟩ := h
  refine ⟨v0, v1, fun u j hu hj => ?_, v3⟩
  show _ = if u = t ∧ j = i then v else it u j
  by_cases q : u = t ∧ j = i
  · rw [if_pos q, q.1, q.2]; exact zup_s _ _ _ _
  · rw [if_neg q, zup_n _ _ (by omega)]; exact v2 u j hu hj
theorem vQ_move {I : zI} {J : zJ} {so : Nat → Int32} {le : Nat → Nat} {it : Nat → Nat → Int64} {t u a b n : Nat} (h : vQ I J 69 so le it) (ht : t < 6) (hu : u < 6) (h1 : a + n ≤ le t) (h2 : b + n ≤ le u) : vQ I (zcp J (69 + 4 + t) a (69 + 4 + u) b n) 69 so le (fun x y => if x = u ∧ b ≤ y ∧ y < b + n then it t (a + (y - b)) else it x y) := by
  obtain ⟨v0, v1, v2, v3⟩ := h
  refine ⟨v0, v1, fun w j hw hj => ?_, v3⟩
  show (if 69 + 4 + w = 69 + 4 + u ∧ b ≤ j ∧ j < b + n then J (69 + 4 + t) (a + (j - b)) else J (69 + 4 + w) j) = if w = u ∧ b ≤ j ∧ j < b + n then it t (a + (j - b)) else it w j
  by_cases q : w = u ∧ b ≤ j ∧ j < b + n
  · rw [if_pos (by omega), if_pos q]; exact v2 t _ ht (by omega)
  · rw [if_neg (by omega), if_neg q]; exact v2 w j hw hj
theorem ftape_0 {S : zS} {t s n : Int32} (h : ¬ isT t) : ftape S t s n = (.int (-1), S) := by rw [ftape, zT_n h]
theorem ftape_1 {S : zS} {a : Nat} {n : Int32} (h : a < 6) : ftape S (nI a) (-1) n = (.int (nI 1), S.upQ (fun x => if x = a then -1 else S.so x) (zset1 S.le a 0) (fun x y => if x = a then lN 0 else S.it x y)) := by
  rw [ftape, zT_y h]
  exact if_pos rfl
theorem ftape_2 {S : zS} {a : Nat} {s n : Int32} (h : a < 6) (hs : ¬ s = -1) (hb : s < -1 ∨ nI 4 < s ∨ nI 60 < n) : ftape S (nI a) s n = (.int (-2), S) := by
  rw [ftape, zT_y h]
  dsimp only
  rw [if_neg hs, if_pos hb]
theorem ftape_3 {S : zS} {a : Nat} {s n : Int32} (h : a < 6) (hs : ¬ s = -1) (hb : ¬ (s < -1 ∨ nI 4 < s ∨ nI 60 < n)) (hn : n < 0) : ftape S (nI a) s n = (.int (-14), S) := by
  rw [ftape, zT_y h]
  dsimp only
  rw [if_neg hs, if_neg hb, if_pos hn]
theorem ftape_4 {S : zS} {a b : Nat} {s : Int32} (h : a < 6) (hs : ¬ s = -1) (hb : ¬ (s < -1 ∨ nI 4 < s ∨ nI 60 < nI b)) (hn : b ≤ 60) : ftape S (nI a) s (nI b) = (.int (nI 1), S.upQ (fun x => if x = a then s else S.so x) (zset1 S.le a b) (fun x y => if x = a then lN 0 else S.it x y)) := by
  rw [ftape, zT_y h]
  dsimp only
  rw [if_neg hs, if_neg hb, if_neg (nI_pos (by omega)), zt_nI (by omega)]
set_option maxHeartbeats 2000000 in
set_option maxRecDepth 20000 in
theorem c_X9_tape {lay : List zL} {I : zI} {J : zJ} {S : zS} (hC : kC lay) (hV : vC I J S) {t s n : Int32} : zMet lay MX9_tape 3 [.ref 0, .int t, .int s, .int n] I J (fun r I' J' => zPC I J (ftape S t s n) r I' J') := by
  refine zMet_of (t := MX9_tape) (ls := [.ref 0, .int t, .int s, .int n]) (by decide +kernel) (Nat.le_of_ble_eq_true rfl) rfl ?_
  obtain ⟨c0, ⟨cP, cG⟩, ⟨cX, cQ, cR⟩, ⟨cS, cB, cD⟩, cf1, cf2, cf3, cU⟩ := id hC
  have p0 : lay[1]? = some (.inl (2, [4, 8, 13, 16, 19])) := cP.1
  have s0 : kS lay 2 := cP.2.1
  obtain ⟨s1, s2, s3, s4⟩ := id s0
  have t0 : kT lay 6 := cP.2.2.1
  obtain ⟨t1, t2, t3, t4, t5⟩ := id t0
  have n5 : kN lay 11 5 := cP.2.2.2.1
  have n8 : kN lay 14 8 := cP.2.2.2.2.1
  have m8 : kN lay 17 8 := cP.2.2.2.2.2
  have w0 : vS I 2 S.n := hV.1.1.1
  have w1 : vT I J 6 S.n := hV.1.1.2.1
  have w5 : vN I 11 5 (S.n 4) (fun k => S.n (52 + k) / 100) (fun k => S.n (52 + k) % 100) := hV.1.1.2.2.1
  have w8 : vN I 14 8 (S.n 5) (fun k => S.n (57 + k) / 100) (fun k => S.n (57 + k) % 100) := hV.1.1.2.2.2.1
  have x8 : vN I 17 8 (S.n 6) (fun k => S.n (65 + k) / 100) (fun k => S.n (65 + k) % 100) := hV.1.1.2.2.2.2
  obtain ⟨v0, v1, v2, v3, v4, v5⟩ := id w0
  obtain ⟨y0, y1, y2⟩ := id w1
  have hbN := hV.1.2
  have hB := hbN.1
  have hT := hbN.2.1
  obtain ⟨b1, b2, b3, b4, b5, b6, b7, b8⟩ := id hB
  have ox := cX.1
  have oq := cQ.1
  have ow := cR.1
  have od := cD.1
  have oe := cB.1
  have of1 := cS.1
  have of2 := cS.2.1
  have ou := cU.1
  have og := cG.1
  have on5 := n5.1
  have on8 := n8.1
  have om8 := m8.1
  have ov := cR.2.1.1
  have z1 := cf1
  have z2 := cf2
  have z3 := cf3
  unfold kF at z1 z2 z3
  have hQ := hV.2.2.2.2
  have hlb := hQ.2.2.2
  refine z_aload_n (pc := 0) dX9_tape_0 rfl rfl ?_
  refine z_getR (pc := 1) dX9_tape_1 f_RX9_31 (by assumption) rfl ?_
  refine z_iload_n (pc := 4) dX9_tape_4 rfl rfl ?_
  refine z_callV (pc := 5) c_X8_hasTape dX9_tape_5 l_RX9_326 m_MX8_hasTape n_MX8_hasTape e_MX8_hasTape rfl (by omega) (by assumption) rfl rfl (Nat.le_of_ble_eq_true rfl) ?_
  rintro _ _ _ ⟨⟨rfl, ht⟩ | ⟨rfl, ht⟩, rfl, rfl⟩
  · obtain ⟨a, rfl, ha⟩ := ht
    try dsimp only [zov, Option.toList, List.cons_append, List.nil_append]
    first | refine z_if_neN (pc := 8) (tgt := 13) (by with_reducible rfl) dX9_tape_8 (by decide) (by omega) (fun hb8 => ?_) (fun hb8 => absurd hb8 (by decide)) | refine z_if_ne (pc := 8) (tgt := 13) dX9_tape_8 (by decide) (fun hb8 => ?_) (fun hb8 => absurd hb8 (by decide))
    · skip
      refine z_iload_n (pc := 13) dX9_tape_13 rfl rfl ?_
      refine z_iconst (pc := 14) (v := -1) dX9_tape_14 (by decide) ?_
      refine z_icmp_lt (pc := 15) (tgt := 23) dX9_tape_15 (by decide) (fun hb15 => ?_) (fun hb15 => ?_)
      · skip
        refine z_bipush (pc := 23) (v := -2) dX9_tape_23 (by decide) ?_
        refine z_iret (pc := 25) dX9_tape_25 rfl ?_
        first
          | exact zPC_same hV (ftape_0 ht)
          | exact zPC_tape hV (fun x q => by rw [zup_o (by omega), zup_o (by omega)]) (fun x q => hj.2 x (by omega)) (vQ_new hQ ha (by omega) (fun _ => rfl) hj) (ftape_1 ha)
          | exact zPC_tape hV (fun x q => by rw [zup_o (by omega), zup_o (by omega)]) (fun x q => hj.2 x (by omega)) (vQ_new hQ ha (by omega) (fun q => absurd q hb28) hj) (ftape_4 ha hb28 (fun q => q.elim hb15 (fun q => q.elim (Int32.not_lt.mpr hb20) (Int32.not_lt.mpr hb45))) hbm)
          | exact zPC_same hV (ftape_2 ha (fun q => by rw [q] at hb15; exact absurd hb15 (by decide)) (Or.inl hb15))
          | exact zPC_same hV (ftape_2 ha (fun q => by rw [q] at hb20; exact absurd hb20 (by decide)) (Or.inr (Or.inl (Int32.not_le.mp hb20))))
          | exact zPC_same hV (ftape_2 ha hb28 (Or.inr (Or.inr (Int32.not_le.mp hb45))))
          | exact zPC_same hV (ftape_3 ha hb28 (fun q => q.elim hb15 (fun q => q.elim (Int32.not_lt.mpr hb20) (Int32.not_lt.mpr hb45))) (Int32.not_le.mp hb52))
          | fail
      · skip
        refine z_iload_n (pc := 18) dX9_tape_18 rfl rfl ?_
        refine z_iconst (pc := 19) (v := nI 4) dX9_tape_19 (by decide) ?_
        refine z_icmp_le (pc := 20) (tgt := 26) dX9_tape_20 (by decide) (fun hb20 => ?_) (fun hb20 => ?_)
        · skip
          refine z_iload_n (pc := 26) dX9_tape_26 rfl rfl ?_
          refine z_iconst (pc := 27) (v := -1) dX9_tape_27 (by decide) ?_
          refine z_icmp_ne (pc := 28) (tgt := 42) dX9_tape_28 (by decide) (fun hb28 => ?_) (fun hb28 => ?_)
          · skip
            refine z_iload_n (pc := 42) dX9_tape_42 rfl rfl ?_
            refine z_bipush (pc := 43) (v := nI 60) dX9_tape_43 (by decide) ?_
            refine z_icmp_le (pc := 45) (tgt := 51) dX9_tape_45 (by decide) (fun hb45 => ?_) (fun hb45 => ?_)
            · skip
              refine z_iload_n (pc := 51) dX9_tape_51 rfl rfl ?_
              refine z_if_ge (pc := 52) (tgt := 58) dX9_tape_52 (by decide) (fun hb52 => ?_) (fun hb52 => ?_)
              · skip
                obtain ⟨b, rfl, hbm⟩ := nI_get2 (m := 60) (by omega) (Int32.not_lt.mpr hb52) (Int32.not_lt.mpr hb45)
                refine z_aload_n (pc := 58) dX9_tape_58 rfl rfl ?_
                refine z_getR (pc := 59) dX9_tape_59 f_RX9_31 (by assumption) rfl ?_
                refine z_iload_n (pc := 62) dX9_tape_62 rfl rfl ?_
                refine z_iload_n (pc := 63) dX9_tape_63 rfl rfl ?_
                refine z_iload_n (pc := 64) dX9_tape_64 rfl rfl ?_
                refine z_callV (pc := 65) (c_X8_become cQ ha) dX9_tape_65 l_RX9_349 m_MX8_become n_MX8_become e_MX8_become rfl (by omega) (by assumption) rfl rfl (Nat.le_of_ble_eq_true rfl) ?_
                rintro _ _ _ (⟨rfl, rfl, hj⟩)
                try dsimp only [zov, Option.toList, List.cons_append, List.nil_append]
                refine z_iret (pc := 68) dX9_tape_68 rfl ?_
                first
                  | exact zPC_same hV (ftape_0 ht)
                  | exact zPC_tape hV (fun x q => by rw [zup_o (by omega), zup_o (by omega)]) (fun x q => hj.2 x (by omega)) (vQ_new hQ ha (by omega) (fun _ => rfl) hj) (ftape_1 ha)
                  | exact zPC_tape hV (fun x q => by rw [zup_o (by omega), zup_o (by omega)]) (fun x q => hj.2 x (by omega)) (vQ_new hQ ha (by omega) (fun q => absurd q hb28) hj) (ftape_4 ha hb28 (fun q => q.elim hb15 (fun q => q.elim (Int32.not_lt.mpr hb20) (Int32.not_lt.mpr hb45))) hbm)
                  | exact zPC_same hV (ftape_2 ha (fun q => by rw [q] at hb15; exact absurd hb15 (by decide)) (Or.inl hb15))
                  | exact zPC_same hV (ftape_2 ha (fun q => by rw [q] at hb20; exact absurd hb20 (by decide)) (Or.inr (Or.inl (Int32.not_le.mp hb20))))
                  | exact zPC_same hV (ftape_2 ha hb28 (Or.inr (Or.inr (Int32.not_le.mp hb45))))
                  | exact zPC_same hV (ftape_3 ha hb28 (fun q => q.elim hb15 (fun q => q.elim (Int32.not_lt.mpr hb20) (Int32.not_lt.mpr hb45))) (Int32.not_le.mp hb52))
                  | fail
              · skip
                refine z_bipush (pc := 55) (v := -14) dX9_tape_55 (by decide) ?_
                refine z_iret (pc := 57) dX9_tape_57 rfl ?_
                first
                  | exact zPC_same hV (ftape_0 ht)
                  | exact zPC_tape hV (fun x q => by rw [zup_o (by omega), zup_o (by omega)]) (fun x q => hj.2 x (by omega)) (vQ_new hQ ha (by omega) (fun _ => rfl) hj) (ftape_1 ha)
                  | exact zPC_tape hV (fun x q => by rw [zup_o (by omega), zup_o (by omega)]) (fun x q => hj.2 x (by omega)) (vQ_new hQ ha (by omega) (fun q => absurd q hb28) hj) (ftape_4 ha hb28 (fun q => q.elim hb15 (fun q => q.elim (Int32.not_lt.mpr hb20) (Int32.not_lt.mpr hb45))) hbm)
                  | exact zPC_same hV (ftape_2 ha (fun q => by rw [q] at hb15; exact absurd hb15 (by decide)) (Or.inl hb15))
                  | exact zPC_same hV (ftape_2 ha (fun q => by rw [q] at hb20; exact absurd hb20 (by decide)) (Or.inr (Or.inl (Int32.not_le.mp hb20))))
                  | exact zPC_same hV (ftape_2 ha hb28 (Or.inr (Or.inr (Int32.not_le.mp hb45))))
                  | exact zPC_same hV (ftape_3 ha hb28 (fun q => q.elim hb15 (fun q => q.elim (Int32.not_lt.mpr hb20) (Int32.not_lt.mpr hb45))) (Int32.not_le.mp hb52))
                  | fail
            · skip
              refine z_bipush (pc := 48) (v := -2) dX9_tape_48 (by decide) ?_
              refine z_iret (pc := 50) dX9_tape_50 rfl ?_
              first
                | exact zPC_same hV (ftape_0 ht)
                | exact zPC_tape hV (fun x q => by rw [zup_o (by omega), zup_o (by omega)]) (fun x q => hj.2 x (by omega)) (vQ_new hQ ha (by omega) (fun _ => rfl) hj) (ftape_1 ha)
                | exact zPC_tape hV (fun x q => by rw [zup_o (by omega), zup_o (by omega)]) (fun x q => hj.2 x (by omega)) (vQ_new hQ ha (by omega) (fun q => absurd q hb28) hj) (ftape_4 ha hb28 (fun q => q.elim hb15 (fun q => q.elim (Int32.not_lt.mpr hb20) (Int32.not_lt.mpr hb45))) hbm)
                | exact zPC_same hV (ftape_2 ha (fun q => by rw [q] at hb15; exact absurd hb15 (by decide)) (Or.inl hb15))
                | exact zPC_same hV (ftape_2 ha (fun q => by rw [q] at hb20; exact absurd hb20 (by decide)) (Or.inr (Or.inl (Int32.not_le.mp hb20))))
                | exact zPC_same hV (ftape_2 ha hb28 (Or.inr (Or.inr (Int32.not_le.mp hb45))))
                | exact zPC_same hV (ftape_3 ha hb28 (fun q => q.elim hb15 (fun q => q.elim (Int32.not_lt.mpr hb20) (Int32.not_lt.mpr hb45))) (Int32.not_le.mp hb52))
                | fail
          · skip
            subst hb28
            refine z_aload_n (pc := 31) dX9_tape_31 rfl rfl ?_
            refine z_getR (pc := 32) dX9_tape_32 f_RX9_31 (by assumption) rfl ?_
            refine z_iload_n (pc := 35) dX9_tape_35 rfl rfl ?_
            refine z_iload_n (pc := 36) dX9_tape_36 rfl rfl ?_
            refine z_iconst (pc := 37) (v := nI 0) dX9_tape_37 (by decide) ?_
            refine z_callV (pc := 38) (c_X8_become (n := 0) cQ ha) dX9_tape_38 l_RX9_349 m_MX8_become n_MX8_become e_MX8_become rfl (by omega) (by assumption) rfl rfl (Nat.le_of_ble_eq_true rfl) ?_
            rintro _ _ _ (⟨rfl, rfl, hj⟩)
            try dsimp only [zov, Option.toList, List.cons_append, List.nil_append]
            refine z_iret (pc := 41) dX9_tape_41 rfl ?_
            first
              | exact zPC_same hV (ftape_0 ht)
              | exact zPC_tape hV (fun x q => by rw [zup_o (by omega), zup_o (by omega)]) (fun x q => hj.2 x (by omega)) (vQ_new hQ ha (by omega) (fun _ => rfl) hj) (ftape_1 ha)
              | exact zPC_tape hV (fun x q => by rw [zup_o (by omega), zup_o (by omega)]) (fun x q => hj.2 x (by omega)) (vQ_new hQ ha (by omega) (fun q => absurd q hb28) hj) (ftape_4 ha hb28 (fun q => q.elim hb15 (fun q => q.elim (Int32.not_lt.mpr hb20) (Int32.not_lt.mpr hb45))) hbm)
              | exact zPC_same hV (ftape_2 ha (fun q => by rw [q] at hb15; exact absurd hb15 (by decide)) (Or.inl hb15))
              | exact zPC_same hV (ftape_2 ha (fun q => by rw [q] at hb20; exact absurd hb20 (by decide)) (Or.inr (Or.inl (Int32.not_le.mp hb20))))
              | exact zPC_same hV (ftape_2 ha hb28 (Or.inr (Or.inr (Int32.not_le.mp hb45))))
              | exact zPC_same hV (ftape_3 ha hb28 (fun q => q.elim hb15 (fun q => q.elim (Int32.not_lt.mpr hb20) (Int32.not_lt.mpr hb45))) (Int32.not_le.mp hb52))
              | fail
        · skip
          refine z_bipush (pc := 23) (v := -2) dX9_tape_23 (by decide) ?_
          refine z_iret (pc := 25) dX9_tape_25 rfl ?_
          first
            | exact zPC_same hV (ftape_0 ht)
            | exact zPC_tape hV (fun x q => by rw [zup_o (by omega), zup_o (by omega)]) (fun x q => hj.2 x (by omega)) (vQ_new hQ ha (by omega) (fun _ => rfl) hj) (ftape_1 ha)
            | exact zPC_tape hV (fun x q => by rw [zup_o (by omega), zup_o (by omega)]) (fun x q => hj.2 x (by omega)) (vQ_new hQ ha (by omega) (fun q => absurd q hb28) hj) (ftape_4 ha hb28 (fun q => q.elim hb15 (fun q => q.elim (Int32.not_lt.mpr hb20) (Int32.not_lt.mpr hb45))) hbm)
            | exact zPC_same hV (ftape_2 ha (fun q => by rw [q] at hb15; exact absurd hb15 (by decide)) (Or.inl hb15))
            | exact zPC_same hV (ftape_2 ha (fun q => by rw [q] at hb20; exact absurd hb20 (by decide)) (Or.inr (Or.inl (Int32.not_le.mp hb20))))
            | exact zPC_same hV (ftape_2 ha hb28 (Or.inr (Or.inr (Int32.not_le.mp hb45))))
            | exact zPC_same hV (ftape_3 ha hb28 (fun q => q.elim hb15 (fun q => q.elim (Int32.not_lt.mpr hb20) (Int32.not_lt.mpr hb45))) (Int32.not_le.mp hb52))
            | fail
  · skip
    try dsimp only [zov, Option.toList, List.cons_append, List.nil_append]
    first | refine z_if_neN (pc := 8) (tgt := 13) (by with_reducible rfl) dX9_tape_8 (by decide) (by omega) (fun hb8 => absurd hb8 (by decide)) (fun hb8 => ?_) | refine z_if_ne (pc := 8) (tgt := 13) dX9_tape_8 (by decide) (fun hb8 => absurd hb8 (by decide)) (fun hb8 => ?_)
    · skip
      refine z_iconst (pc := 11) (v := -1) dX9_tape_11 (by decide) ?_
      refine z_iret (pc := 12) dX9_tape_12 rfl ?_
      first
        | exact zPC_same hV (ftape_0 ht)
        | exact zPC_tape hV (fun x q => by rw [zup_o (by omega), zup_o (by omega)]) (fun x q => hj.2 x (by omega)) (vQ_new hQ ha (by omega) (fun _ => rfl) hj) (ftape_1 ha)
        | exact zPC_tape hV (fun x q => by rw [zup_o (by omega), zup_o (by omega)]) (fun x q => hj.2 x (by omega)) (vQ_new hQ ha (by omega) (fun q => absurd q hb28) hj) (ftape_4 ha hb28 (fun q => q.elim hb15 (fun q => q.elim (Int32.not_lt.mpr hb20) (Int32.not_lt.mpr hb45))) hbm)
        | exact zPC_same hV (ftape_2 ha (fun q => by rw [q] at hb15; exact absurd hb15 (by decide)) (Or.inl hb15))
        | exact zPC_same hV (ftape_2 ha (fun q => by rw [q] at hb20; exact absurd hb20 (by decide)) (Or.inr (Or.inl (Int32.not_le.mp hb20))))
        | exact zPC_same hV (ftape_2 ha hb28 (Or.inr (Or.inr (Int32.not_le.mp hb45))))
        | exact zPC_same hV (ftape_3 ha hb28 (fun q => q.elim hb15 (fun q => q.elim (Int32.not_lt.mpr hb20) (Int32.not_lt.mpr hb45))) (Int32.not_le.mp hb52))
        | fail
theorem fitem_0 {S : zS} {t i : Int32} {v : Int64} (h : ¬ isT t) : fitem S t i v = (.int (-1), S) := by rw [fitem, zT_n h]
theorem fitem_1 {S : zS} {a : Nat} {i : Int32} {v : Int64} (h : a < 6) (h1 : S.so a = -1) : fitem S (nI a) i v = (.int (-11), S) := by
  rw [fitem, zT_y h]
  exact if_pos h1
theorem fitem_2 {S : zS} {a : Nat} {i : Int32} {v : Int64} (h : a < 6) (h1 : ¬ S.so a = -1) (h2 : ¬ ∃ b, i = nI b ∧ b < S.le a) : fitem S (nI a) i v = (.int (-13), S) := by
  rw [fitem, zT_y h]
  dsimp only
  rw [if_neg h1, zI0_n h2]
theorem fitem_3 {S : zS} {a b : Nat} {v : Int64} (h : a < 6) (h1 : ¬ S.so a = -1) (hl : S.le a ≤ 60) (h2 : b < S.le a) : fitem S (nI a) (nI b) v = (.int (nI 1), S.upQ S.so S.le (fun x y => if x = a ∧ y = b then zcut (S.so a) v else S.it x y)) := by
  rw [fitem, zT_y h]
  dsimp only
  rw [if_neg h1, zI0_y hl h2]
theorem fpeek_0 {S : zS} {t i : Int32} (h : ¬ isT t) : fpeek S t i = (.long (-9223372036854775808), S) := by rw [fpeek, zT_n h]; rfl
theorem fpeek_1 {S : zS} {a : Nat} {i : Int32} (h : a < 6) (h2 : ¬ ∃ b, i = nI b ∧ b < S.le a) : fpeek S (nI a) i = (.long (-9223372036854775808), S) := by
  rw [fpeek, zT_y h]
  dsimp only
  rw [zI0_n h2]
  rfl
theorem fpeek_2 {S : zS} {a b : Nat} (h : a < 6) (hl : S.le a ≤ 60) (h2 : b < S.le a) : fpeek S (nI a) (nI b) = (.long (S.it a b), S) := by
  rw [fpeek, zT_y h]
  dsimp only
  rw [zI0_y hl h2]
theorem fshift_0 {S : zS} {t i u j n : Int32} (h : ¬ isT t) : fshift S t i u j n = (.int (-1), S) := by rw [fshift, zT_n h]
theorem fshift_1 {S : zS} {t i u j n : Int32} (h : ¬ isT u) : fshift S t i u j n = (.int (-1), S) := by
  rw [fshift, zT_n h]
  cases zT t <;> rfl
theorem fshift_2 {S : zS} {a b : Nat} {i j n : Int32} (h : a < 6) (h' : b < 6) (h1 : S.so a = -1 ∨ S.so b = -1) : fshift S (nI a) i (nI b) j n = (.int (-11), S) := by
  rw [fshift, zT_y h, zT_y h']
  exact if_pos h1
theorem fshift_3 {S : zS} {a b : Nat} {i j n : Int32} (h : a < 6) (h' : b < 6) (h1 : ¬ (S.so a = -1 ∨ S.so b = -1)) (h2 : S.so a ≠ S.so b) : fshift S (nI a) i (nI b) j n = (.int (-12), S) := by
  rw [fshift, zT_y h, zT_y h']
  dsimp only
  rw [if_neg h1, if_pos h2]
theorem fshift_4 {S : zS} {a b : Nat} {i j n : Int32} (h : a < 6) (h' : b < 6) (h1 : ¬ (S.so a = -1 ∨ S.so b = -1)) (h2 : S.so a = S.so b) (h3 : ¬ (zits (S.le a) i n ∧ zits (S.le b) j n)) : fshift S (nI a) i (nI b) j n = (.int (-13), S) := by
  rw [fshift, zT_y h, zT_y h']
  dsimp only
  rw [if_neg h1, if_neg (fun q => q h2), zite_n h3]
theorem fshift_5 {S : zS} {a b x y m : Nat} (h : a < 6) (h' : b < 6) (h1 : ¬ (S.so a = -1 ∨ S.so b = -1)) (h2 : S.so a = S.so b) (hl : S.le a ≤ 60) (hl' : S.le b ≤ 60) (h3 : x + m ≤ S.le a) (h4 : y + m ≤ S.le b) : fshift S (nI a) (nI x) (nI b) (nI y) (nI m) = (.int (nI m), S.upQ S.so S.le (fun w z => if w = b ∧ y ≤ z ∧ z < y + m then S.it a (x + (z - y)) else S.it w z)) := by
  rw [fshift, zT_y h, zT_y h']
  dsimp only
  rw [if_neg h1, if_neg (fun q => q h2), zite_y ⟨⟨x, m, rfl, rfl, h3⟩, y, m, rfl, rfl, h4⟩, zt_nI (by omega), zt_nI (by omega), zt_nI (by omega)]
set_option maxHeartbeats 2000000 in
set_option maxRecDepth 20000 in
theorem c_X9_item {lay : List zL} {I : zI} {J : zJ} {S : zS} (hC : kC lay) (hV : vC I J S) {t i : Int32} {v : Int64} : zMet lay MX9_item 3 [.ref 0, .int t, .int i, .long v] I J (fun r I' J' => zPC I J (fitem S t i v) r I' J') := by
  refine zMet_of (t := MX9_item) (ls := [.ref 0, .int t, .int i, .long v, .null]) (by decide +kernel) (Nat.le_of_ble_eq_true rfl) rfl ?_
  obtain ⟨c0, ⟨cP, cG⟩, ⟨cX, cQ, cR⟩, ⟨cS, cB, cD⟩, cf1, cf2, cf3, cU⟩ := id hC
  have p0 : lay[1]? = some (.inl (2, [4, 8, 13, 16, 19])) := cP.1
  have s0 : kS lay 2 := cP.2.1
  obtain ⟨s1, s2, s3, s4⟩ := id s0
  have t0 : kT lay 6 := cP.2.2.1
  obtain ⟨t1, t2, t3, t4, t5⟩ := id t0
  have n5 : kN lay 11 5 := cP.2.2.2.1
  have n8 : kN lay 14 8 := cP.2.2.2.2.1
  have m8 : kN lay 17 8 := cP.2.2.2.2.2
  have w0 : vS I 2 S.n := hV.1.1.1
  have w1 : vT I J 6 S.n := hV.1.1.2.1
  have w5 : vN I 11 5 (S.n 4) (fun k => S.n (52 + k) / 100) (fun k => S.n (52 + k) % 100) := hV.1.1.2.2.1
  have w8 : vN I 14 8 (S.n 5) (fun k => S.n (57 + k) / 100) (fun k => S.n (57 + k) % 100) := hV.1.1.2.2.2.1
  have x8 : vN I 17 8 (S.n 6) (fun k => S.n (65 + k) / 100) (fun k => S.n (65 + k) % 100) := hV.1.1.2.2.2.2
  obtain ⟨v0, v1, v2, v3, v4, v5⟩ := id w0
  obtain ⟨y0, y1, y2⟩ := id w1
  have hbN := hV.1.2
  have hB := hbN.1
  have hT := hbN.2.1
  obtain ⟨b1, b2, b3, b4, b5, b6, b7, b8⟩ := id hB
  have ox := cX.1
  have oq := cQ.1
  have ow := cR.1
  have od := cD.1
  have oe := cB.1
  have of1 := cS.1
  have of2 := cS.2.1
  have ou := cU.1
  have og := cG.1
  have on5 := n5.1
  have on8 := n8.1
  have om8 := m8.1
  have ov := cR.2.1.1
  have z1 := cf1
  have z2 := cf2
  have z3 := cf3
  unfold kF at z1 z2 z3
  have hQ := hV.2.2.2.2
  have hlb := hQ.2.2.2
  refine z_aload_n (pc := 0) dX9_item_0 rfl rfl ?_
  refine z_getR (pc := 1) dX9_item_1 f_RX9_31 (by assumption) rfl ?_
  refine z_iload_n (pc := 4) dX9_item_4 rfl rfl ?_
  refine z_callV (pc := 5) c_X8_hasTape dX9_item_5 l_RX9_326 m_MX8_hasTape n_MX8_hasTape e_MX8_hasTape rfl (by omega) (by assumption) rfl rfl (Nat.le_of_ble_eq_true rfl) ?_
  rintro _ _ _ ⟨⟨rfl, ht⟩ | ⟨rfl, ht⟩, rfl, rfl⟩
  · obtain ⟨a, rfl, ha⟩ := ht
    try dsimp only [zov, Option.toList, List.cons_append, List.nil_append]
    first | refine z_if_neN (pc := 8) (tgt := 13) (by with_reducible rfl) dX9_item_8 (by decide) (by omega) (fun hb8 => ?_) (fun hb8 => absurd hb8 (by decide)) | refine z_if_ne (pc := 8) (tgt := 13) dX9_item_8 (by decide) (fun hb8 => ?_) (fun hb8 => absurd hb8 (by decide))
    · skip
      refine z_aload_n (pc := 13) dX9_item_13 rfl rfl ?_
      refine z_getR (pc := 14) dX9_item_14 f_RX9_31 (by assumption) rfl ?_
      refine z_iload_n (pc := 17) dX9_item_17 rfl rfl ?_
      refine z_callV (pc := 18) (c_X8_holds cQ hQ (by assumption)) dX9_item_18 l_RX9_330 m_MX8_holds n_MX8_holds e_MX8_holds rfl (by omega) (by assumption) rfl rfl (Nat.le_of_ble_eq_true rfl) ?_
      rintro _ _ _ ⟨⟨rfl, ho⟩ | ⟨rfl, ho⟩, rfl, rfl⟩
      · skip
        try dsimp only [zov, Option.toList, List.cons_append, List.nil_append]
        first | refine z_if_neN (pc := 21) (tgt := 27) (by with_reducible rfl) dX9_item_21 (by decide) (by omega) (fun hb21 => ?_) (fun hb21 => absurd hb21 (by decide)) | refine z_if_ne (pc := 21) (tgt := 27) dX9_item_21 (by decide) (fun hb21 => ?_) (fun hb21 => absurd hb21 (by decide))
        · skip
          refine z_aload_n (pc := 27) dX9_item_27 rfl rfl ?_
          refine z_getR (pc := 28) dX9_item_28 f_RX9_31 (by assumption) rfl ?_
          refine z_iload_n (pc := 31) dX9_item_31 rfl rfl ?_
          refine z_iload_n (pc := 32) dX9_item_32 rfl rfl ?_
          refine z_callV (pc := 33) (c_X8_hasItem cQ hQ ha) dX9_item_33 l_RX9_351 m_MX8_hasItem n_MX8_hasItem e_MX8_hasItem rfl (by omega) (by assumption) rfl rfl (Nat.le_of_ble_eq_true rfl) ?_
          rintro _ _ _ ⟨⟨rfl, hc⟩ | ⟨rfl, hc⟩, rfl, rfl⟩
          · obtain ⟨b, rfl, hb⟩ := hc
            try dsimp only [zov, Option.toList, List.cons_append, List.nil_append]
            first | refine z_if_neN (pc := 36) (tgt := 42) (by with_reducible rfl) dX9_item_36 (by decide) (by omega) (fun hb36 => ?_) (fun hb36 => absurd hb36 (by decide)) | refine z_if_ne (pc := 36) (tgt := 42) dX9_item_36 (by decide) (fun hb36 => ?_) (fun hb36 => absurd hb36 (by decide))
            · skip
              refine z_aload_n (pc := 42) dX9_item_42 rfl rfl ?_
              refine z_getR (pc := 43) dX9_item_43 f_RX9_31 (by assumption) rfl ?_
              refine z_iload_n (pc := 46) dX9_item_46 rfl rfl ?_
              refine z_iload_n (pc := 47) dX9_item_47 rfl rfl ?_
              refine z_lload_n (pc := 48) dX9_item_48 rfl rfl ?_
              refine z_callV (pc := 49) (c_X8_put cQ hQ ha hb) dX9_item_49 l_RX9_354 m_MX8_put n_MX8_put e_MX8_put rfl (by omega) (by assumption) rfl rfl (Nat.le_of_ble_eq_true rfl) ?_
              rintro _ _ _ (⟨rfl, rfl, rfl⟩)
              try dsimp only [zov, Option.toList, List.cons_append, List.nil_append]
              refine z_iret (pc := 52) dX9_item_52 rfl ?_
              first
                | exact zPC_same hV (fitem_0 ht)
                | exact zPC_same hV (fitem_1 ha ho)
                | exact zPC_same hV (fitem_2 ha ho hc)
                | exact zPC_tape hV (fun _ _ => rfl) (fun x q => zup_o (by omega)) (vQ_put hQ ha) (fitem_3 ha ho (hlb a ha).1 hb)
                | fail
          · skip
            try dsimp only [zov, Option.toList, List.cons_append, List.nil_append]
            first | refine z_if_neN (pc := 36) (tgt := 42) (by with_reducible rfl) dX9_item_36 (by decide) (by omega) (fun hb36 => absurd hb36 (by decide)) (fun hb36 => ?_) | refine z_if_ne (pc := 36) (tgt := 42) dX9_item_36 (by decide) (fun hb36 => absurd hb36 (by decide)) (fun hb36 => ?_)
            · skip
              refine z_bipush (pc := 39) (v := -13) dX9_item_39 (by decide) ?_
              refine z_iret (pc := 41) dX9_item_41 rfl ?_
              first
                | exact zPC_same hV (fitem_0 ht)
                | exact zPC_same hV (fitem_1 ha ho)
                | exact zPC_same hV (fitem_2 ha ho hc)
                | exact zPC_tape hV (fun _ _ => rfl) (fun x q => zup_o (by omega)) (vQ_put hQ ha) (fitem_3 ha ho (hlb a ha).1 hb)
                | fail
      · skip
        try dsimp only [zov, Option.toList, List.cons_append, List.nil_append]
        first | refine z_if_neN (pc := 21) (tgt := 27) (by with_reducible rfl) dX9_item_21 (by decide) (by omega) (fun hb21 => absurd hb21 (by decide)) (fun hb21 => ?_) | refine z_if_ne (pc := 21) (tgt := 27) dX9_item_21 (by decide) (fun hb21 => absurd hb21 (by decide)) (fun hb21 => ?_)
        · skip
          refine z_bipush (pc := 24) (v := -11) dX9_item_24 (by decide) ?_
          refine z_iret (pc := 26) dX9_item_26 rfl ?_
          first
            | exact zPC_same hV (fitem_0 ht)
            | exact zPC_same hV (fitem_1 ha ho)
            | exact zPC_same hV (fitem_2 ha ho hc)
            | exact zPC_tape hV (fun _ _ => rfl) (fun x q => zup_o (by omega)) (vQ_put hQ ha) (fitem_3 ha ho (hlb a ha).1 hb)
            | fail
  · skip
    try dsimp only [zov, Option.toList, List.cons_append, List.nil_append]
    first | refine z_if_neN (pc := 8) (tgt := 13) (by with_reducible rfl) dX9_item_8 (by decide) (by omega) (fun hb8 => absurd hb8 (by decide)) (fun hb8 => ?_) | refine z_if_ne (pc := 8) (tgt := 13) dX9_item_8 (by decide) (fun hb8 => absurd hb8 (by decide)) (fun hb8 => ?_)
    · skip
      refine z_iconst (pc := 11) (v := -1) dX9_item_11 (by decide) ?_
      refine z_iret (pc := 12) dX9_item_12 rfl ?_
      first
        | exact zPC_same hV (fitem_0 ht)
        | exact zPC_same hV (fitem_1 ha ho)
        | exact zPC_same hV (fitem_2 ha ho hc)
        | exact zPC_tape hV (fun _ _ => rfl) (fun x q => zup_o (by omega)) (vQ_put hQ ha) (fitem_3 ha ho (hlb a ha).1 hb)
        | fail
set_option maxHeartbeats 2000000 in
set_option maxRecDepth 20000 in
theorem c_X9_peek {lay : List zL} {I : zI} {J : zJ} {S : zS} (hC : kC lay) (hV : vC I J S) {t i : Int32} : zMet lay MX9_peek 3 [.ref 0, .int t, .int i] I J (fun r I' J' => zPC I J (fpeek S t i) r I' J') := by
  refine zMet_of (t := MX9_peek) (ls := [.ref 0, .int t, .int i]) (by decide +kernel) (Nat.le_of_ble_eq_true rfl) rfl ?_
  obtain ⟨c0, ⟨cP, cG⟩, ⟨cX, cQ, cR⟩, ⟨cS, cB, cD⟩, cf1, cf2, cf3, cU⟩ := id hC
  have p0 : lay[1]? = some (.inl (2, [4, 8, 13, 16, 19])) := cP.1
  have s0 : kS lay 2 := cP.2.1
  obtain ⟨s1, s2, s3, s4⟩ := id s0
  have t0 : kT lay 6 := cP.2.2.1
  obtain ⟨t1, t2, t3, t4, t5⟩ := id t0
  have n5 : kN lay 11 5 := cP.2.2.2.1
  have n8 : kN lay 14 8 := cP.2.2.2.2.1
  have m8 : kN lay 17 8 := cP.2.2.2.2.2
  have w0 : vS I 2 S.n := hV.1.1.1
  have w1 : vT I J 6 S.n := hV.1.1.2.1
  have w5 : vN I 11 5 (S.n 4) (fun k => S.n (52 + k) / 100) (fun k => S.n (52 + k) % 100) := hV.1.1.2.2.1
  have w8 : vN I 14 8 (S.n 5) (fun k => S.n (57 + k) / 100) (fun k => S.n (57 + k) % 100) := hV.1.1.2.2.2.1
  have x8 : vN I 17 8 (S.n 6) (fun k => S.n (65 + k) / 100) (fun k => S.n (65 + k) % 100) := hV.1.1.2.2.2.2
  obtain ⟨v0, v1, v2, v3, v4, v5⟩ := id w0
  obtain ⟨y0, y1, y2⟩ := id w1
  have hbN := hV.1.2
  have hB := hbN.1
  have hT := hbN.2.1
  obtain ⟨b1, b2, b3, b4, b5, b6, b7, b8⟩ := id hB
  have ox := cX.1
  have oq := cQ.1
  have ow := cR.1
  have od := cD.1
  have oe := cB.1
  have of1 := cS.1
  have of2 := cS.2.1
  have ou := cU.1
  have og := cG.1
  have on5 := n5.1
  have on8 := n8.1
  have om8 := m8.1
  have ov := cR.2.1.1
  have z1 := cf1
  have z2 := cf2
  have z3 := cf3
  unfold kF at z1 z2 z3
  have hQ := hV.2.2.2.2
  have hlb := hQ.2.2.2
  refine z_aload_n (pc := 0) dX9_peek_0 rfl rfl ?_
  refine z_getR (pc := 1) dX9_peek_1 f_RX9_31 (by assumption) rfl ?_
  refine z_iload_n (pc := 4) dX9_peek_4 rfl rfl ?_
  refine z_callV (pc := 5) c_X8_hasTape dX9_peek_5 l_RX9_326 m_MX8_hasTape n_MX8_hasTape e_MX8_hasTape rfl (by omega) (by assumption) rfl rfl (Nat.le_of_ble_eq_true rfl) ?_
  rintro _ _ _ ⟨⟨rfl, ht⟩ | ⟨rfl, ht⟩, rfl, rfl⟩
  · obtain ⟨a, rfl, ha⟩ := ht
    try dsimp only [zov, Option.toList, List.cons_append, List.nil_append]
    first | refine z_if_eqN (pc := 8) (tgt := 23) (by with_reducible rfl) dX9_peek_8 (by decide) (by omega) (fun hb8 => absurd hb8 (by decide)) (fun hb8 => ?_) | refine z_if_eq (pc := 8) (tgt := 23) dX9_peek_8 (by decide) (fun hb8 => absurd hb8 (by decide)) (fun hb8 => ?_)
    · skip
      refine z_aload_n (pc := 11) dX9_peek_11 rfl rfl ?_
      refine z_getR (pc := 12) dX9_peek_12 f_RX9_31 (by assumption) rfl ?_
      refine z_iload_n (pc := 15) dX9_peek_15 rfl rfl ?_
      refine z_iload_n (pc := 16) dX9_peek_16 rfl rfl ?_
      refine z_callV (pc := 17) (c_X8_hasItem cQ hQ ha) dX9_peek_17 l_RX9_351 m_MX8_hasItem n_MX8_hasItem e_MX8_hasItem rfl (by omega) (by assumption) rfl rfl (Nat.le_of_ble_eq_true rfl) ?_
      rintro _ _ _ ⟨⟨rfl, hc⟩ | ⟨rfl, hc⟩, rfl, rfl⟩
      · obtain ⟨b, rfl, hb⟩ := hc
        try dsimp only [zov, Option.toList, List.cons_append, List.nil_append]
        first | refine z_if_neN (pc := 20) (tgt := 27) (by with_reducible rfl) dX9_peek_20 (by decide) (by omega) (fun hb20 => ?_) (fun hb20 => absurd hb20 (by decide)) | refine z_if_ne (pc := 20) (tgt := 27) dX9_peek_20 (by decide) (fun hb20 => ?_) (fun hb20 => absurd hb20 (by decide))
        · skip
          refine z_aload_n (pc := 27) dX9_peek_27 rfl rfl ?_
          refine z_getR (pc := 28) dX9_peek_28 f_RX9_31 (by assumption) rfl ?_
          refine z_iload_n (pc := 31) dX9_peek_31 rfl rfl ?_
          refine z_iload_n (pc := 32) dX9_peek_32 rfl rfl ?_
          refine z_callV (pc := 33) (c_X8_itemAt cQ hQ ha hb) dX9_peek_33 l_RX9_339 m_MX8_itemAt n_MX8_itemAt e_MX8_itemAt rfl (by omega) (by assumption) rfl rfl (Nat.le_of_ble_eq_true rfl) ?_
          rintro _ _ _ (⟨rfl, rfl, rfl⟩)
          try dsimp only [zov, Option.toList, List.cons_append, List.nil_append]
          refine z_lret (pc := 36) dX9_peek_36 rfl ?_
          first
            | exact zPC_same hV (fpeek_0 ht)
            | exact zPC_same hV (fpeek_1 ha hc)
            | exact zPC_same hV (fpeek_2 ha (hlb a ha).1 hb)
            | fail
      · skip
        try dsimp only [zov, Option.toList, List.cons_append, List.nil_append]
        first | refine z_if_neN (pc := 20) (tgt := 27) (by with_reducible rfl) dX9_peek_20 (by decide) (by omega) (fun hb20 => absurd hb20 (by decide)) (fun hb20 => ?_) | refine z_if_ne (pc := 20) (tgt := 27) dX9_peek_20 (by decide) (fun hb20 => absurd hb20 (by decide)) (fun hb20 => ?_)
        · skip
          refine z_ldc2 (pc := 23) (v := -9223372036854775808) dX9_peek_23 q_RX9_190 ?_
          refine z_lret (pc := 26) dX9_peek_26 rfl ?_
          first
            | exact zPC_same hV (fpeek_0 ht)
            | exact zPC_same hV (fpeek_1 ha hc)
            | exact zPC_same hV (fpeek_2 ha (hlb a ha).1 hb)
            | fail
  · skip
    try dsimp only [zov, Option.toList, List.cons_append, List.nil_append]
    first | refine z_if_eqN (pc := 8) (tgt := 23) (by with_reducible rfl) dX9_peek_8 (by decide) (by omega) (fun hb8 => ?_) (fun hb8 => absurd hb8 (by decide)) | refine z_if_eq (pc := 8) (tgt := 23) dX9_peek_8 (by decide) (fun hb8 => ?_) (fun hb8 => absurd hb8 (by decide))
    · skip
      refine z_ldc2 (pc := 23) (v := -9223372036854775808) dX9_peek_23 q_RX9_190 ?_
      refine z_lret (pc := 26) dX9_peek_26 rfl ?_
      first
        | exact zPC_same hV (fpeek_0 ht)
        | exact zPC_same hV (fpeek_1 ha hc)
        | exact zPC_same hV (fpeek_2 ha (hlb a ha).1 hb)
        | fail
set_option maxHeartbeats 2000000 in
set_option maxRecDepth 20000 in
theorem c_X9_shift {lay : List zL} {I : zI} {J : zJ} {S : zS} (hC : kC lay) (hV : vC I J S) {t i u j n : Int32} : zMet lay MX9_shift 3 [.ref 0, .int t, .int i, .int u, .int j, .int n] I J (fun r I' J' => zPC I J (fshift S t i u j n) r I' J') := by
  refine zMet_of (t := MX9_shift) (ls := [.ref 0, .int t, .int i, .int u, .int j, .int n]) (by decide +kernel) (Nat.le_of_ble_eq_true rfl) rfl ?_
  obtain ⟨c0, ⟨cP, cG⟩, ⟨cX, cQ, cR⟩, ⟨cS, cB, cD⟩, cf1, cf2, cf3, cU⟩ := id hC
  have p0 : lay[1]? = some (.inl (2, [4, 8, 13, 16, 19])) := cP.1
  have s0 : kS lay 2 := cP.2.1
  obtain ⟨s1, s2, s3, s4⟩ := id s0
  have t0 : kT lay 6 := cP.2.2.1
  obtain ⟨t1, t2, t3, t4, t5⟩ := id t0
  have n5 : kN lay 11 5 := cP.2.2.2.1
  have n8 : kN lay 14 8 := cP.2.2.2.2.1
  have m8 : kN lay 17 8 := cP.2.2.2.2.2
  have w0 : vS I 2 S.n := hV.1.1.1
  have w1 : vT I J 6 S.n := hV.1.1.2.1
  have w5 : vN I 11 5 (S.n 4) (fun k => S.n (52 + k) / 100) (fun k => S.n (52 + k) % 100) := hV.1.1.2.2.1
  have w8 : vN I 14 8 (S.n 5) (fun k => S.n (57 + k) / 100) (fun k => S.n (57 + k) % 100) := hV.1.1.2.2.2.1
  have x8 : vN I 17 8 (S.n 6) (fun k => S.n (65 + k) / 100) (fun k => S.n (65 + k) % 100) := hV.1.1.2.2.2.2
  obtain ⟨v0, v1, v2, v3, v4, v5⟩ := id w0
  obtain ⟨y0, y1, y2⟩ := id w1
  have hbN := hV.1.2
  have hB := hbN.1
  have hT := hbN.2.1
  obtain ⟨b1, b2, b3, b4, b5, b6, b7, b8⟩ := id hB
  have ox := cX.1
  have oq := cQ.1
  have ow := cR.1
  have od := cD.1
  have oe := cB.1
  have of1 := cS.1
  have of2 := cS.2.1
  have ou := cU.1
  have og := cG.1
  have on5 := n5.1
  have on8 := n8.1
  have om8 := m8.1
  have ov := cR.2.1.1
  have z1 := cf1
  have z2 := cf2
  have z3 := cf3
  unfold kF at z1 z2 z3
  have hQ := hV.2.2.2.2
  have hlb := hQ.2.2.2
  refine z_aload_n (pc := 0) dX9_shift_0 rfl rfl ?_
  refine z_getR (pc := 1) dX9_shift_1 f_RX9_31 (by assumption) rfl ?_
  refine z_iload_n (pc := 4) dX9_shift_4 rfl rfl ?_
  refine z_callV (pc := 5) c_X8_hasTape dX9_shift_5 l_RX9_326 m_MX8_hasTape n_MX8_hasTape e_MX8_hasTape rfl (by omega) (by assumption) rfl rfl (Nat.le_of_ble_eq_true rfl) ?_
  rintro _ _ _ ⟨⟨rfl, ht⟩ | ⟨rfl, ht⟩, rfl, rfl⟩
  · obtain ⟨a, rfl, ha⟩ := ht
    try dsimp only [zov, Option.toList, List.cons_append, List.nil_append]
    first | refine z_if_eqN (pc := 8) (tgt := 22) (by with_reducible rfl) dX9_shift_8 (by decide) (by omega) (fun hb8 => absurd hb8 (by decide)) (fun hb8 => ?_) | refine z_if_eq (pc := 8) (tgt := 22) dX9_shift_8 (by decide) (fun hb8 => absurd hb8 (by decide)) (fun hb8 => ?_)
    · skip
      refine z_aload_n (pc := 11) dX9_shift_11 rfl rfl ?_
      refine z_getR (pc := 12) dX9_shift_12 f_RX9_31 (by assumption) rfl ?_
      refine z_iload_n (pc := 15) dX9_shift_15 rfl rfl ?_
      refine z_callV (pc := 16) c_X8_hasTape dX9_shift_16 l_RX9_326 m_MX8_hasTape n_MX8_hasTape e_MX8_hasTape rfl (by omega) (by assumption) rfl rfl (Nat.le_of_ble_eq_true rfl) ?_
      rintro _ _ _ ⟨⟨rfl, hu⟩ | ⟨rfl, hu⟩, rfl, rfl⟩
      · obtain ⟨b, rfl, hb⟩ := hu
        try dsimp only [zov, Option.toList, List.cons_append, List.nil_append]
        first | refine z_if_neN (pc := 19) (tgt := 24) (by with_reducible rfl) dX9_shift_19 (by decide) (by omega) (fun hb19 => ?_) (fun hb19 => absurd hb19 (by decide)) | refine z_if_ne (pc := 19) (tgt := 24) dX9_shift_19 (by decide) (fun hb19 => ?_) (fun hb19 => absurd hb19 (by decide))
        · skip
          refine z_aload_n (pc := 24) dX9_shift_24 rfl rfl ?_
          refine z_getR (pc := 25) dX9_shift_25 f_RX9_31 (by assumption) rfl ?_
          refine z_iload_n (pc := 28) dX9_shift_28 rfl rfl ?_
          refine z_callV (pc := 29) (c_X8_holds cQ hQ ha) dX9_shift_29 l_RX9_330 m_MX8_holds n_MX8_holds e_MX8_holds rfl (by omega) (by assumption) rfl rfl (Nat.le_of_ble_eq_true rfl) ?_
          rintro _ _ _ ⟨⟨rfl, ho⟩ | ⟨rfl, ho⟩, rfl, rfl⟩
          · skip
            try dsimp only [zov, Option.toList, List.cons_append, List.nil_append]
            first | refine z_if_eqN (pc := 32) (tgt := 46) (by with_reducible rfl) dX9_shift_32 (by decide) (by omega) (fun hb32 => absurd hb32 (by decide)) (fun hb32 => ?_) | refine z_if_eq (pc := 32) (tgt := 46) dX9_shift_32 (by decide) (fun hb32 => absurd hb32 (by decide)) (fun hb32 => ?_)
            · skip
              refine z_aload_n (pc := 35) dX9_shift_35 rfl rfl ?_
              refine z_getR (pc := 36) dX9_shift_36 f_RX9_31 (by assumption) rfl ?_
              refine z_iload_n (pc := 39) dX9_shift_39 rfl rfl ?_
              refine z_callV (pc := 40) (c_X8_holds cQ hQ hb) dX9_shift_40 l_RX9_330 m_MX8_holds n_MX8_holds e_MX8_holds rfl (by omega) (by assumption) rfl rfl (Nat.le_of_ble_eq_true rfl) ?_
              rintro _ _ _ ⟨⟨rfl, ho2⟩ | ⟨rfl, ho2⟩, rfl, rfl⟩
              · have hno : ¬ (S.so a = -1 ∨ S.so b = -1) := fun q => q.elim ho ho2
                try dsimp only [zov, Option.toList, List.cons_append, List.nil_append]
                first | refine z_if_neN (pc := 43) (tgt := 49) (by with_reducible rfl) dX9_shift_43 (by decide) (by omega) (fun hb43 => ?_) (fun hb43 => absurd hb43 (by decide)) | refine z_if_ne (pc := 43) (tgt := 49) dX9_shift_43 (by decide) (fun hb43 => ?_) (fun hb43 => absurd hb43 (by decide))
                · skip
                  refine z_aload_n (pc := 49) dX9_shift_49 rfl rfl ?_
                  refine z_getR (pc := 50) dX9_shift_50 f_RX9_31 (by assumption) rfl ?_
                  refine z_iload_n (pc := 53) dX9_shift_53 rfl rfl ?_
                  refine z_iload_n (pc := 54) dX9_shift_54 rfl rfl ?_
                  refine z_callV (pc := 55) (c_X8_isAlike cQ hQ ha hb) dX9_shift_55 l_RX9_358 m_MX8_isAlike n_MX8_isAlike e_MX8_isAlike rfl (by omega) (by assumption) rfl rfl (Nat.le_of_ble_eq_true rfl) ?_
                  rintro _ _ _ ⟨⟨rfl, hl⟩ | ⟨rfl, hl⟩, rfl, rfl⟩
                  · skip
                    try dsimp only [zov, Option.toList, List.cons_append, List.nil_append]
                    first | refine z_if_neN (pc := 58) (tgt := 64) (by with_reducible rfl) dX9_shift_58 (by decide) (by omega) (fun hb58 => ?_) (fun hb58 => absurd hb58 (by decide)) | refine z_if_ne (pc := 58) (tgt := 64) dX9_shift_58 (by decide) (fun hb58 => ?_) (fun hb58 => absurd hb58 (by decide))
                    · skip
                      refine z_aload_n (pc := 64) dX9_shift_64 rfl rfl ?_
                      refine z_getR (pc := 65) dX9_shift_65 f_RX9_31 (by assumption) rfl ?_
                      refine z_iload_n (pc := 68) dX9_shift_68 rfl rfl ?_
                      refine z_iload_n (pc := 69) dX9_shift_69 rfl rfl ?_
                      refine z_iload (pc := 70) dX9_shift_70 rfl ?_
                      refine z_callV (pc := 72) (c_X8_hasItems cQ hQ ha) dX9_shift_72 l_RX9_361 m_MX8_hasItems n_MX8_hasItems e_MX8_hasItems rfl (by omega) (by assumption) rfl rfl (Nat.le_of_ble_eq_true rfl) ?_
                      rintro _ _ _ ⟨⟨rfl, h1⟩ | ⟨rfl, h1⟩, rfl, rfl⟩
                      · skip
                        try dsimp only [zov, Option.toList, List.cons_append, List.nil_append]
                        first | refine z_if_eqN (pc := 75) (tgt := 93) (by with_reducible rfl) dX9_shift_75 (by decide) (by omega) (fun hb75 => absurd hb75 (by decide)) (fun hb75 => ?_) | refine z_if_eq (pc := 75) (tgt := 93) dX9_shift_75 (by decide) (fun hb75 => absurd hb75 (by decide)) (fun hb75 => ?_)
                        · skip
                          refine z_aload_n (pc := 78) dX9_shift_78 rfl rfl ?_
                          refine z_getR (pc := 79) dX9_shift_79 f_RX9_31 (by assumption) rfl ?_
                          refine z_iload_n (pc := 82) dX9_shift_82 rfl rfl ?_
                          refine z_iload (pc := 83) dX9_shift_83 rfl ?_
                          refine z_iload (pc := 85) dX9_shift_85 rfl ?_
                          refine z_callV (pc := 87) (c_X8_hasItems cQ hQ hb) dX9_shift_87 l_RX9_361 m_MX8_hasItems n_MX8_hasItems e_MX8_hasItems rfl (by omega) (by assumption) rfl rfl (Nat.le_of_ble_eq_true rfl) ?_
                          rintro _ _ _ ⟨⟨rfl, h2⟩ | ⟨rfl, h2⟩, rfl, rfl⟩
                          · obtain ⟨x, m, rfl, rfl, hx⟩ := h1; obtain ⟨y, m2, rfl, e2, hy⟩ := h2; have hla := (hlb a ha).1; have hlb2 := (hlb b hb).1; obtain rfl := nI_inj (by omega) (by omega) e2
                            try dsimp only [zov, Option.toList, List.cons_append, List.nil_append]
                            first | refine z_if_neN (pc := 90) (tgt := 96) (by with_reducible rfl) dX9_shift_90 (by decide) (by omega) (fun hb90 => ?_) (fun hb90 => absurd hb90 (by decide)) | refine z_if_ne (pc := 90) (tgt := 96) dX9_shift_90 (by decide) (fun hb90 => ?_) (fun hb90 => absurd hb90 (by decide))
                            · skip
                              refine z_aload_n (pc := 96) dX9_shift_96 rfl rfl ?_
                              refine z_getR (pc := 97) dX9_shift_97 f_RX9_31 (by assumption) rfl ?_
                              refine z_iload_n (pc := 100) dX9_shift_100 rfl rfl ?_
                              refine z_iload_n (pc := 101) dX9_shift_101 rfl rfl ?_
                              refine z_iload_n (pc := 102) dX9_shift_102 rfl rfl ?_
                              refine z_iload (pc := 103) dX9_shift_103 rfl ?_
                              refine z_iload (pc := 105) dX9_shift_105 rfl ?_
                              refine z_callV (pc := 107) (c_X8_move cQ hQ ha hb hx hy) dX9_shift_107 l_RX9_365 m_MX8_move n_MX8_move e_MX8_move rfl (by omega) (by assumption) rfl rfl (Nat.le_of_ble_eq_true rfl) ?_
                              rintro _ _ _ (⟨rfl, rfl, rfl⟩)
                              try dsimp only [zov, Option.toList, List.cons_append, List.nil_append]
                              refine z_iret (pc := 110) dX9_shift_110 rfl ?_
                              first
                                | exact zPC_same hV (fshift_0 ht)
                                | exact zPC_same hV (fshift_1 hu)
                                | exact zPC_same hV (fshift_2 ha hb (Or.inl ho))
                                | exact zPC_same hV (fshift_2 ha hb (Or.inr ho2))
                                | exact zPC_same hV (fshift_3 ha hb hno hl)
                                | exact zPC_same hV (fshift_4 ha hb hno hl (fun q => h1 q.1))
                                | exact zPC_same hV (fshift_4 ha hb hno hl (fun q => h2 q.2))
                                | exact zPC_tape hV (fun _ _ => rfl) (fun x q => zcp_o (by omega)) (vQ_move hQ ha hb hx hy) (fshift_5 ha hb hno hl hla hlb2 hx hy)
                                | fail
                          · skip
                            try dsimp only [zov, Option.toList, List.cons_append, List.nil_append]
                            first | refine z_if_neN (pc := 90) (tgt := 96) (by with_reducible rfl) dX9_shift_90 (by decide) (by omega) (fun hb90 => absurd hb90 (by decide)) (fun hb90 => ?_) | refine z_if_ne (pc := 90) (tgt := 96) dX9_shift_90 (by decide) (fun hb90 => absurd hb90 (by decide)) (fun hb90 => ?_)
                            · skip
                              refine z_bipush (pc := 93) (v := -13) dX9_shift_93 (by decide) ?_
                              refine z_iret (pc := 95) dX9_shift_95 rfl ?_
                              first
                                | exact zPC_same hV (fshift_0 ht)
                                | exact zPC_same hV (fshift_1 hu)
                                | exact zPC_same hV (fshift_2 ha hb (Or.inl ho))
                                | exact zPC_same hV (fshift_2 ha hb (Or.inr ho2))
                                | exact zPC_same hV (fshift_3 ha hb hno hl)
                                | exact zPC_same hV (fshift_4 ha hb hno hl (fun q => h1 q.1))
                                | exact zPC_same hV (fshift_4 ha hb hno hl (fun q => h2 q.2))
                                | exact zPC_tape hV (fun _ _ => rfl) (fun x q => zcp_o (by omega)) (vQ_move hQ ha hb hx hy) (fshift_5 ha hb hno hl hla hlb2 hx hy)
                                | fail
                      · skip
                        try dsimp only [zov, Option.toList, List.cons_append, List.nil_append]
                        first | refine z_if_eqN (pc := 75) (tgt := 93) (by with_reducible rfl) dX9_shift_75 (by decide) (by omega) (fun hb75 => ?_) (fun hb75 => absurd hb75 (by decide)) | refine z_if_eq (pc := 75) (tgt := 93) dX9_shift_75 (by decide) (fun hb75 => ?_) (fun hb75 => absurd hb75 (by decide))
                        · skip
                          refine z_bipush (pc := 93) (v := -13) dX9_shift_93 (by decide) ?_
                          refine z_iret (pc := 95) dX9_shift_95 rfl ?_
                          first
                            | exact zPC_same hV (fshift_0 ht)
                            | exact zPC_same hV (fshift_1 hu)
                            | exact zPC_same hV (fshift_2 ha hb (Or.inl ho))
                            | exact zPC_same hV (fshift_2 ha hb (Or.inr ho2))
                            | exact zPC_same hV (fshift_3 ha hb hno hl)
                            | exact zPC_same hV (fshift_4 ha hb hno hl (fun q => h1 q.1))
                            | exact zPC_same hV (fshift_4 ha hb hno hl (fun q => h2 q.2))
                            | exact zPC_tape hV (fun _ _ => rfl) (fun x q => zcp_o (by omega)) (vQ_move hQ ha hb hx hy) (fshift_5 ha hb hno hl hla hlb2 hx hy)
                            | fail
                  · skip
                    try dsimp only [zov, Option.toList, List.cons_append, List.nil_append]
                    first | refine z_if_neN (pc := 58) (tgt := 64) (by with_reducible rfl) dX9_shift_58 (by decide) (by omega) (fun hb58 => absurd hb58 (by decide)) (fun hb58 => ?_) | refine z_if_ne (pc := 58) (tgt := 64) dX9_shift_58 (by decide) (fun hb58 => absurd hb58 (by decide)) (fun hb58 => ?_)
                    · skip
                      refine z_bipush (pc := 61) (v := -12) dX9_shift_61 (by decide) ?_
                      refine z_iret (pc := 63) dX9_shift_63 rfl ?_
                      first
                        | exact zPC_same hV (fshift_0 ht)
                        | exact zPC_same hV (fshift_1 hu)
                        | exact zPC_same hV (fshift_2 ha hb (Or.inl ho))
                        | exact zPC_same hV (fshift_2 ha hb (Or.inr ho2))
                        | exact zPC_same hV (fshift_3 ha hb hno hl)
                        | exact zPC_same hV (fshift_4 ha hb hno hl (fun q => h1 q.1))
                        | exact zPC_same hV (fshift_4 ha hb hno hl (fun q => h2 q.2))
                        | exact zPC_tape hV (fun _ _ => rfl) (fun x q => zcp_o (by omega)) (vQ_move hQ ha hb hx hy) (fshift_5 ha hb hno hl hla hlb2 hx hy)
                        | fail
              · skip
                try dsimp only [zov, Option.toList, List.cons_append, List.nil_append]
                first | refine z_if_neN (pc := 43) (tgt := 49) (by with_reducible rfl) dX9_shift_43 (by decide) (by omega) (fun hb43 => absurd hb43 (by decide)) (fun hb43 => ?_) | refine z_if_ne (pc := 43) (tgt := 49) dX9_shift_43 (by decide) (fun hb43 => absurd hb43 (by decide)) (fun hb43 => ?_)
                · skip
                  refine z_bipush (pc := 46) (v := -11) dX9_shift_46 (by decide) ?_
                  refine z_iret (pc := 48) dX9_shift_48 rfl ?_
                  first
                    | exact zPC_same hV (fshift_0 ht)
                    | exact zPC_same hV (fshift_1 hu)
                    | exact zPC_same hV (fshift_2 ha hb (Or.inl ho))
                    | exact zPC_same hV (fshift_2 ha hb (Or.inr ho2))
                    | exact zPC_same hV (fshift_3 ha hb hno hl)
                    | exact zPC_same hV (fshift_4 ha hb hno hl (fun q => h1 q.1))
                    | exact zPC_same hV (fshift_4 ha hb hno hl (fun q => h2 q.2))
                    | exact zPC_tape hV (fun _ _ => rfl) (fun x q => zcp_o (by omega)) (vQ_move hQ ha hb hx hy) (fshift_5 ha hb hno hl hla hlb2 hx hy)
                    | fail
          · skip
            try dsimp only [zov, Option.toList, List.cons_append, List.nil_append]
            first | refine z_if_eqN (pc := 32) (tgt := 46) (by with_reducible rfl) dX9_shift_32 (by decide) (by omega) (fun hb32 => ?_) (fun hb32 => absurd hb32 (by decide)) | refine z_if_eq (pc := 32) (tgt := 46) dX9_shift_32 (by decide) (fun hb32 => ?_) (fun hb32 => absurd hb32 (by decide))
            · skip
              refine z_bipush (pc := 46) (v := -11) dX9_shift_46 (by decide) ?_
              refine z_iret (pc := 48) dX9_shift_48 rfl ?_
              first
                | exact zPC_same hV (fshift_0 ht)
                | exact zPC_same hV (fshift_1 hu)
                | exact zPC_same hV (fshift_2 ha hb (Or.inl ho))
                | exact zPC_same hV (fshift_2 ha hb (Or.inr ho2))
                | exact zPC_same hV (fshift_3 ha hb hno hl)
                | exact zPC_same hV (fshift_4 ha hb hno hl (fun q => h1 q.1))
                | exact zPC_same hV (fshift_4 ha hb hno hl (fun q => h2 q.2))
                | exact zPC_tape hV (fun _ _ => rfl) (fun x q => zcp_o (by omega)) (vQ_move hQ ha hb hx hy) (fshift_5 ha hb hno hl hla hlb2 hx hy)
                | fail
      · skip
        try dsimp only [zov, Option.toList, List.cons_append, List.nil_append]
        first | refine z_if_neN (pc := 19) (tgt := 24) (by with_reducible rfl) dX9_shift_19 (by decide) (by omega) (fun hb19 => absurd hb19 (by decide)) (fun hb19 => ?_) | refine z_if_ne (pc := 19) (tgt := 24) dX9_shift_19 (by decide) (fun hb19 => absurd hb19 (by decide)) (fun hb19 => ?_)
        · skip
          refine z_iconst (pc := 22) (v := -1) dX9_shift_22 (by decide) ?_
          refine z_iret (pc := 23) dX9_shift_23 rfl ?_
          first
            | exact zPC_same hV (fshift_0 ht)
            | exact zPC_same hV (fshift_1 hu)
            | exact zPC_same hV (fshift_2 ha hb (Or.inl ho))
            | exact zPC_same hV (fshift_2 ha hb (Or.inr ho2))
            | exact zPC_same hV (fshift_3 ha hb hno hl)
            | exact zPC_same hV (fshift_4 ha hb hno hl (fun q => h1 q.1))
            | exact zPC_same hV (fshift_4 ha hb hno hl (fun q => h2 q.2))
            | exact zPC_tape hV (fun _ _ => rfl) (fun x q => zcp_o (by omega)) (vQ_move hQ ha hb hx hy) (fshift_5 ha hb hno hl hla hlb2 hx hy)
            | fail
  · skip
    try dsimp only [zov, Option.toList, List.cons_append, List.nil_append]
    first | refine z_if_eqN (pc := 8) (tgt := 22) (by with_reducible rfl) dX9_shift_8 (by decide) (by omega) (fun hb8 => ?_) (fun hb8 => absurd hb8 (by decide)) | refine z_if_eq (pc := 8) (tgt := 22) dX9_shift_8 (by decide) (fun hb8 => ?_) (fun hb8 => absurd hb8 (by decide))
    · skip
      refine z_iconst (pc := 22) (v := -1) dX9_shift_22 (by decide) ?_
      refine z_iret (pc := 23) dX9_shift_23 rfl ?_
      first
        | exact zPC_same hV (fshift_0 ht)
        | exact zPC_same hV (fshift_1 hu)
        | exact zPC_same hV (fshift_2 ha hb (Or.inl ho))
        | exact zPC_same hV (fshift_2 ha hb (Or.inr ho2))
        | exact zPC_same hV (fshift_3 ha hb hno hl)
        | exact zPC_same hV (fshift_4 ha hb hno hl (fun q => h1 q.1))
        | exact zPC_same hV (fshift_4 ha hb hno hl (fun q => h2 q.2))
        | exact zPC_tape hV (fun _ _ => rfl) (fun x q => zcp_o (by omega)) (vQ_move hQ ha hb hx hy) (fshift_5 ha hb hno hl hla hlb2 hx hy)
        | fail
