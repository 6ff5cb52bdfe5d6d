/-! ===== the law from its start ===== -/
theorem tw_over : Cond.arrayOver (.array .long) ∈ lw_tbl := zTl (by have h := List.mem_of_getElem? (show tables_1_1[188]? = some (Cond.arrayOver (.array .long)) from by decide +kernel); exact List.mem_append_left _ h)
theorem tw_46 : Cond.methodLinkNest "RakeTables$Setting" 46 yX9_place "RakeTables" ∈ lw_tbl := zTl (by have h := List.mem_of_getElem? (show tables_1_2[216]? = some (Cond.methodLinkNest "RakeTables$Setting" 46 yX9_place "RakeTables") from by decide +kernel); exact List.mem_append_right _ (List.mem_append_left _ h))
theorem tw_56 : Cond.methodLinkNest "RakeTables$Table" 56 yX9_place "RakeTables" ∈ lw_tbl := zTl (by have h := List.mem_of_getElem? (show tables_1_2[217]? = some (Cond.methodLinkNest "RakeTables$Table" 56 yX9_place "RakeTables") from by decide +kernel); exact List.mem_append_right _ (List.mem_append_left _ h))
theorem tw_70 : Cond.methodLinkNest "RakeTables$Rounding" 70 yX9_place "RakeTables" ∈ lw_tbl := zTl (by have h := List.mem_of_getElem? (show tables_1_3[96]? = some (Cond.methodLinkNest "RakeTables$Rounding" 70 yX9_place "RakeTables") from by decide +kernel); exact List.mem_append_right _ (List.mem_append_right _ (List.mem_append_left _ h)))
theorem tw_101 : Cond.methodLinkNest "RakeTables$Rounding" 101 yX9_oneIf "RakeTables" ∈ lw_tbl := zTl (by have h := List.mem_of_getElem? (show tables_1_3[104]? = some (Cond.methodLinkNest "RakeTables$Rounding" 101 yX9_oneIf "RakeTables") from by decide +kernel); exact List.mem_append_right _ (List.mem_append_right _ (List.mem_append_left _ h)))
theorem y_widen {dC : Nat → ClassId} {dI : Nat → Nat → Nat} {cI cJ cR : ClassId} {R : Room} {n k n' k' : Nat} {E : gE} {B0 : (Nat → Prop) → Array Value → State → Prop} {t : zM} {pc : Nat} {ls st : List Value} {ws : va_W} (h1 : n ≤ n') (h2 : k ≤ k') (kk : Y dC dI cI cJ cR R n' k' E B0 t pc ls st ws) : Y dC dI cI cJ cR R n k E B0 t pc ls st ws :=
  fun l p e s m args below meth c A H locs lsr X N C K hA P D S L => W.widen h1 h2 (kk l p e s m args below meth c A H locs lsr X N C K hA P D S L)
theorem zAO_R {s : State} (h : zAOv s = true) : ∃ cR : ClassId, ArrOfT s cR (.array .long) ∧ va_RA s cR (.array .long) := by
  unfold zAOv at h
  cases hf : s.vm.findClass (FieldType.array FieldType.long).toString with
  | none => rw [hf] at h; simp at h
  | some comp =>
    rw [hf] at h
    simp only [Option.bind_some] at h
    generalize hF : (s.vm.classes.findIdx? fun (x : Class) => match x.kind with | .array component _ => component == comp | _ => false) = fi at h
    cases fi with
    | none => simp at h
    | some c =>
      simp only [Option.bind_some] at h
      cases hk : s.vm.classes[c]? with
      | none => rw [hk] at h; simp at h
      | some k =>
        rw [hk] at h
        simp only [Option.map_some] at h
        cases hkk : k.kind with
        | array cm ty =>
          rw [hkk] at h
          simp only [beq_iff_eq, Option.some.injEq, Bool.and_eq_true, decide_eq_true_eq] at h
          obtain ⟨rfl, h2⟩ := h
          exact ⟨c, fun N z => ⟨(fun q hq => by cases hq), k, hk, cm, hkk⟩, h2⟩
        | _ => rw [hkk] at h; simp at h
theorem y_arr {args : Array Value} {s : State} {t : FieldType} (h : (Cond.arrayClass t).before args s = true) : ∃ c : ClassId, ArrOfT s c t ∧ s.vm.findClass ("[" ++ t.toString) = some c := by
  obtain ⟨c, k, comp, h1, h2, h3⟩ := Cond.arrayClass_spec h
  exact ⟨c, fun N z => ⟨(fun q hq => by cases hq), k, h2, comp, h3⟩, h1⟩
theorem y_known {args : Array Value} {s : State} (hz : ∀ w ∈ zTb, w.before args s = true) : ∀ k : Nat, ∃ (c : ClassId) (iS : Nat → Nat), ∀ q : vw_C, zcls[k]? = some q → u_Kn s q.1 q.2.1 q.2.2 c iS := by
  intro k
  match k with
  | 0 =>
    obtain ⟨c0, i0, h0⟩ := u_known (C := RX0) (T := TX0) (N := 2) (n := 2) hz zc0.2.1 (hz _ li_RX0)
    exact ⟨c0, i0, fun q hq => by cases hq; exact h0⟩
  | 1 =>
    obtain ⟨c0, i0, h0⟩ := u_known (C := RX1) (T := TX1) (N := 4) (n := 4) hz zc1.2.1 (hz _ li_RX1)
    exact ⟨c0, i0, fun q hq => by cases hq; exact h0⟩
  | 2 =>
    obtain ⟨c0, i0, h0⟩ := u_known (C := RX2) (T := TX2) (N := 5) (n := 5) hz zc2.2.1 (hz _ li_RX2)
    exact ⟨c0, i0, fun q hq => by cases hq; exact h0⟩
  | 3 =>
    obtain ⟨c0, i0, h0⟩ := u_known (C := RX3) (T := TX3) (N := 4) (n := 4) hz zc3.2.1 (hz _ li_RX3)
    exact ⟨c0, i0, fun q hq => by cases hq; exact h0⟩
  | 4 =>
    obtain ⟨c0, i0, h0⟩ := u_known (C := RX4) (T := TX4) (N := 9) (n := 9) hz zc4.2.1 (hz _ li_RX4)
    exact ⟨c0, i0, fun q hq => by cases hq; exact h0⟩
  | 5 =>
    obtain ⟨c0, i0, h0⟩ := u_known (C := RX5) (T := TX5) (N := 2) (n := 2) hz zc5.2.1 (hz _ li_RX5)
    exact ⟨c0, i0, fun q hq => by cases hq; exact h0⟩
  | 6 =>
    obtain ⟨c0, i0, h0⟩ := u_known (C := RX6) (T := TX6) (N := 6) (n := 6) hz zc6.2.1 (hz _ li_RX6)
    exact ⟨c0, i0, fun q hq => by cases hq; exact h0⟩
  | 7 =>
    obtain ⟨c0, i0, h0⟩ := u_known (C := RX7) (T := TX7) (N := 5) (n := 5) hz zc7.2.1 (hz _ li_RX7)
    exact ⟨c0, i0, fun q hq => by cases hq; exact h0⟩
  | 8 =>
    obtain ⟨c0, i0, h0⟩ := u_known (C := RX8) (T := TX8) (N := 3) (n := 3) hz zc8.2.1 (hz _ li_RX8)
    exact ⟨c0, i0, fun q hq => by cases hq; exact h0⟩
  | 9 =>
    obtain ⟨c0, i0, h0⟩ := u_known (C := RX9) (T := TX9) (N := 13) (n := 13) hz zc9.2.1 (hz _ li_RX9)
    exact ⟨c0, i0, fun q hq => by cases hq; exact h0⟩
  | 10 =>
    obtain ⟨c0, i0, h0⟩ := u_known (C := RX10) (T := TX10) (N := 25) (n := 25) hz zc10.2.1 (hz _ li_RX10)
    exact ⟨c0, i0, fun q hq => by cases hq; exact h0⟩
  | k + 11 => exact ⟨0, fun _ => 0, fun q hq => by simp [zcls] at hq⟩
def lawB0 (b L : Nat) (xs : Nat → Int32) : (Nat → Prop) → Array Value → State → Prop := fun A args s => args = #[Value.ref b] ∧ va_X b L xs s s.heap ∧ b < s.heap.size ∧ ∀ q, A q → s.heap.size ≤ q
set_option maxHeartbeats 1000000 in
set_option maxRecDepth 20000 in
theorem y_law2 {dC : Nat → ClassId} {dI : Nat → Nat → Nat} {cI cJ cR : ClassId} {b L q0 q8 : Nat} {xs : Nat → Int32} {ad : Nat → Nat} {I : zI} {J : zJ} (hL : L ≤ 3072) (h0 : ad 0 = q0) (h8 : ad 79 = q8) (hV : vC I J S0) (hW : vM I J S0) : Y dC dI cI cJ cR room_1 600000 7302250 lawE (lawB0 b L xs) ML 18 [.ref b, .ref q0, .ref q8, .int (nI 0)] [] (zW cI cJ cR ad layA I J) := by
  have hz : zW cI cJ cR (zj 0 97 ad (fun _ => b)) layA I J = zW cI cJ cR ad layA I J := by
    rw [zWo_0 (ad := zj 0 97 ad (fun _ => b))]
    exact zWo_sh (b := 0) rfl (fun c hc => List.all_eq_true.mp (show layA.all (zclo layA.length) = true from by decide +kernel) c hc) (fun x hx => zj_i hx) (fun x _ => by rw [Nat.zero_add]) (fun x _ => by rw [Nat.zero_add])
  refine Y_G (lay := layA) (ad := zj 0 97 ad (fun _ => b)) (I := I) (J := J) (B := lawB b L xs) (ls' := [.ref 97, .ref 0, .ref 79, .int (nI 0)]) (st' := []) (List.Perm.of_eq hz.symm) (fun _ _ _ _ _ _ _ _ _ => rfl) (fun A args s h => ⟨h.1, h.2.1, h.2.2.1, h.2.2.2, rfl⟩) ?_ rfl (law_loop hL (L + 6) 0 I J S0 (by omega) (by omega) hV hW)
  rw [← h0, ← h8]
  rfl
set_option maxHeartbeats 1000000 in
set_option maxRecDepth 20000 in
theorem y_law {dC : Nat → ClassId} {dI : Nat → Nat → Nat} {cI cJ cR : ClassId} {b L : Nat} {xs : Nat → Int32} (hL : L ≤ 3072) : Y dC dI cI cJ cR room_1 0 0 lawE (lawB0 b L xs) ML 0 [.ref b, .null, .null, .null] [] [] := by
  refine Y_new (t := ML) (pc := 0) (fs := [.null, .null, .int 0, .null, .null, .null, .null, .null, .null, .null, .null, .null, .null]) dL_law_0 zc9 lk_RL_7 li_RX9 i_RX9 (fun j hj => by rcases (show j = 0 ∨ j = 1 ∨ j = 2 ∨ j = 3 ∨ j = 4 ∨ j = 5 ∨ j = 6 ∨ j = 7 ∨ j = 8 ∨ j = 9 ∨ j = 10 ∨ j = 11 ∨ j = 12 by omega) with rfl | rfl | rfl | rfl | rfl | rfl | rfl | rfl | rfl | rfl | rfl | rfl | rfl <;> rfl) ⟨Nat.le_of_ble_eq_true rfl, Nat.le_of_ble_eq_true rfl⟩ (fun q0 => ?_)
  refine Y_dup (t := ML) (pc := 3) dL_law_3 rfl ?_
  refine Y_ctor (t := ML) (pc := 4) (np := 0) (w0 := []) (As := []) (b := q0) c_X9_init dL_law_4 l_RL_9 mi_X9 n_MX9_init rfl rfl rfl ⟨Nat.le_of_ble_eq_true rfl, Nat.le_of_ble_eq_true rfl⟩ ⟨Nat.le_of_ble_eq_true rfl, Nat.le_of_ble_eq_true rfl⟩ rfl (Nat.le_of_ble_eq_true rfl) rfl (fun ad I J e0 => ?_)
  obtain ⟨h0, hV⟩ := e0
  refine Y_ws (ws' := zW cI cJ cR ad layC I J) (List.nil_append _) ?_
  refine Y_astore_n (t := ML) (pc := 7) dL_law_7 rfl (by decide) rfl ?_
  try dsimp only [zst1, zst2, zk]
  refine Y_new (t := ML) (pc := 8) (fs := [.null, .null, .null, .int 0, .null, .int 0, .null, .long 0, .long 0, .null, .null, .null, .long 0, .long 0, .null, .null, .int 0, .int 0, .null, .null, .null, .null, .null, .null, .null]) dL_law_8 zc10 lk_RL_10 li_RX10 i_RX10 (fun j hj => by rcases (show j = 0 ∨ j = 1 ∨ j = 2 ∨ j = 3 ∨ j = 4 ∨ j = 5 ∨ j = 6 ∨ j = 7 ∨ j = 8 ∨ j = 9 ∨ j = 10 ∨ j = 11 ∨ j = 12 ∨ j = 13 ∨ j = 14 ∨ j = 15 ∨ j = 16 ∨ j = 17 ∨ j = 18 ∨ j = 19 ∨ j = 20 ∨ j = 21 ∨ j = 22 ∨ j = 23 ∨ j = 24 by omega) with rfl | rfl | rfl | rfl | rfl | rfl | rfl | rfl | rfl | rfl | rfl | rfl | rfl | rfl | rfl | rfl | rfl | rfl | rfl | rfl | rfl | rfl | rfl | rfl | rfl <;> rfl) ⟨Nat.le_of_ble_eq_true rfl, Nat.le_of_ble_eq_true rfl⟩ (fun q8 => ?_)
  refine Y_perm (List.perm_append_singleton _ _) ?_
  refine Y_dup (t := ML) (pc := 11) dL_law_11 rfl ?_
  refine Y_ctor (t := ML) (pc := 12) (np := 0) (w0 := []) (As := []) (b := q8) (c_X10_init hV) dL_law_12 l_RL_12 mi_X10 n_MX10_init rfl rfl rfl ⟨Nat.le_of_ble_eq_true rfl, Nat.le_of_ble_eq_true rfl⟩ ⟨Nat.le_of_ble_eq_true rfl, Nat.le_of_ble_eq_true rfl⟩ rfl (Nat.le_of_ble_eq_true rfl) rfl (fun ad1 I1 J1 e1 => ?_)
  obtain ⟨⟨h8, h9⟩, hV1, hW1⟩ := e1
  refine Y_ws (ws' := zW cI cJ cR ad1 layA I1 J1) (List.nil_append _) ?_
  refine Y_astore_n (t := ML) (pc := 15) dL_law_15 rfl (by decide) rfl ?_
  try dsimp only [zst1, zst2, zk]
  refine Y_iconst (t := ML) (pc := 16) (v := nI 0) dL_law_16 (by decide) ?_
  refine Y_istore_n (t := ML) (pc := 17) dL_law_17 rfl (by decide) rfl ?_
  try dsimp only [zst1, zst2, zk]
  exact y_widen (n' := 600000) (k' := 7302250) (Nat.le_of_ble_eq_true rfl) (Nat.le_of_ble_eq_true rfl) (y_law2 hL (h9.trans h0) h8 hV1 hW1)
theorem whole_start {p : Program} {e : Env} {s : State} {m : MethodId} {below : List Frame} {meth : Method} {c : Code} (l : Launch) (hflags : l.flags = flags0) {b L : Nat} {xs : Nat → Int32} (hL : L ≤ 3072) (C0 : lw_At p s m meth c b L xs) : W p l e room_1 s m #[Value.ref b] below meth c s.heap [] 0 0 (lw_Z below #[Value.ref b] s) (entryFrame m ([Value.ref b] : List Value).toArray 4) := by
  obtain ⟨hx, hb, hr, hml, hown, hts, hX, hbl, hlocks, hgv⟩ := id C0
  have hz : ∀ w ∈ zTb, w.before #[Value.ref b] s = true := fun w hw => hts w (zTb_in hw).1
  have hkn := y_known hz
  obtain ⟨cI, aI, fI⟩ := y_arr (hz _ lr_int)
  obtain ⟨cJ, aJ, fJ⟩ := y_arr (hz _ lr_long)
  have hO : zAOv s = true := (zAOv_eq _ _).symm.trans (hts _ tw_over)
  obtain ⟨cR, aR, fR⟩ := zAO_R hO
  have hK : yK (fun k => (hkn k).choose) (fun k => (hkn k).choose_spec.choose) cI cJ cR s := by
    refine ⟨⟨⟨fun k q hq => (hkn k).choose_spec.choose_spec q hq, fun k q hq => ?_⟩, va_Nw.of rfl (hts _ tw_101), va_Nw.of rfl (hts _ tw_70), va_Nw.of rfl (hts _ tw_46), va_Nw.of rfl (hts _ tw_56)⟩, hO⟩
    match k, hq with
    | 0, hq => cases hq; exact ⟨aI, fI⟩
    | 1, hq => cases hq; exact ⟨aJ, fJ⟩
    | 2, hq => cases hq; exact ⟨aR, fR⟩
    | k + 3, hq => simp at hq
  have hl := lv_entry ([Value.ref b]) (n := 4) (Nat.le_of_ble_eq_true rfl)
  rw [lg_entry_eq]
  refine y_law (L := L) (xs := xs) hL l p e s m #[Value.ref b] below meth c (fun q => s.heap.size ≤ q) s.heap [] _ ⟨rfl, hX, hbl, fun _ h => h⟩ (fun h => absurd h (by decide)) ⟨hx, hb, hml, hr, hown, hz, hlocks⟩ hK (fun _ h => h) (fun k q h => by simp at h) ⟨fun i j p q h => by simp at h, fun k q h => by simp at h⟩ va_S.rf ⟨rfl, _, hl, fun i v hi hv => ?_⟩
  match i, hi with
  | 0, hi => cases hi; exact List.mem_cons_self
  | 1, hi => cases hi; exact absurd rfl hv
  | 2, hi => cases hi; exact absurd rfl hv
  | 3, hi => cases hi; exact absurd rfl hv
  | i + 4, hi => simp at hi
