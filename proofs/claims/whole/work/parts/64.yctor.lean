/-! ===== making a call that makes; a row of rows ===== -/
section YC
variable {p : Program} {l : Launch} {e : Env} {R : Room} {s : State} {m : MethodId} {args : Array Value} {below : List Frame} {meth : Method} {c : Code} {H : Heap} {locs : List Loc} {cells slots mc ms : Nat} {QQ : State → Prop}
variable {dC : Nat → ClassId} {dI : Nat → Nat → Nat} {cI cJ cR : ClassId} {lay : List zL} {A0 A1 : Nat → Prop} {Q : (Nat → Nat) → zI → zJ → Prop} {H0 : Heap} {free : Addr → Prop} {a : Array Value} {pc : Nat} {lsr : Array Slot} {rest st0 : List Value}
theorem va_cally (hr : va_Run p l e R s m args below meth c H locs cells slots mc ms (F0 m pc lsr st0) rest (yQo dC dI cI cJ cR A1 lay Q a) free) (hS : va_S A0 H0 H locs) (hA : ∀ q, q < H.size → A1 q → A0 q) (hf : ∀ q, free q → A0 q)
    (kk : ∀ (ad : Nat → Nat) (I : zI) (J : zJ) (H1 : Heap) (locs1 : List Loc), Q ad I J → va_P (dC, dI) zcls (zW cI cJ cR ad lay I J) H1 → va_D A1 (zW cI cJ cR ad lay I J) → (∀ q : Nat, q < H.size → ¬ A1 q → H1[q]? = H[q]?) → va_S A0 H0 H1 locs1 → W p l e R s m args below meth c H1 locs1 (cells + mc) (slots + ms) QQ (F0 m (pc + 3) lsr rest)) : W p l e R s m args below meth c H locs cells slots QQ (F0 m pc lsr st0) := by
  intro T hT X
  obtain ⟨v, st₀, t, T', L, h0, X', hL, e1, e2, ⟨⟨ad, I, J, hv, hq, hP, hD⟩, hz, hk⟩, st⟩ := hr T hT X
  cases hv
  rw [h0] at hz hk
  obtain ⟨t2, a1, b1⟩ := kk ad I J T'.heap (locs ++ L) hq (by rw [e1]; exact hP) hD (fun q h1 h2 => by rw [e1]; exact hk q h1 h2)
    ⟨Nat.le_trans hS.1 (by rw [e1]; exact hz), fun q h1 h2 => by rw [e1, hk q (Nat.lt_of_lt_of_le h1 hS.1) (fun z => h2 (hA q (Nat.lt_of_lt_of_le h1 hS.1) z))]; exact hS.2.1 q h1 h2, fun q hq => by
      rcases List.mem_append.mp hq with h | h
      · exact hS.2.2 q h
      · exact hf _ (hL q h)⟩ T' rfl X'
  exact ⟨t2, st t2 a1, b1⟩
end YC
section YR2
variable {dC : Nat → ClassId} {dI : Nat → Nat → Nat} {cI cJ cR : ClassId} {R : Room} {n k : Nat} {E : gE} {B0 : (Nat → Prop) → Array Value → State → Prop} {t : zM} {pc : Nat} {ls st : List Value} {ws : va_W}
theorem Y_ctor {lay : List zL} {t' : zM} {d' mc ms b idx np : Nat} {w : yW} {As rest : List Value} {Q : Nat → (Nat → Nat) → zI → zJ → Prop} {w0 : va_W} (hM : yMet lay t' d' mc ms w As Q) (hd : decode t.2.1 pc = .ok (.invokespecial idx, 3)) (hlk : Cond.methodLink t.1.cls idx t'.1 ∈ zTb) (hm : zMth t' np) (hin : Cond.instanceMethod t'.1 ∈ zTb) (hini : t'.1.name = "<init>") (hret : t'.2.2.2 = none) (hn : As.length = np) (hdd : d' + 1 ≤ R.frames ∧ 60 + 60 * d' ≤ R.locals) (hnk : n + mc ≤ R.cells ∧ k + ms ≤ R.slots) (hst : st = As.reverse ++ .ref b :: rest) (hr : (rest.map fun v => v.category).sum ≤ 8) (hw : ws = w0 ++ w cI cJ cR b)
    (kk : ∀ (ad : Nat → Nat) (I : zI) (J : zJ), Q b ad I J → Y dC dI cI cJ cR R (n + mc) (k + ms) E B0 t (pc + 3) ls rest (w0 ++ zW cI cJ cR ad lay I J)) : Y dC dI cI cJ cR R n k E B0 t pc ls st ws := by
  subst hst
  subst hw
  intro l p e s m args below meth c A H locs lsr X N C K hA P D S L
  obtain ⟨y, cc, maxL, ret⟩ := t'
  obtain rfl : ret = none := hret
  obtain ⟨hm1, hm2, hm3, hm4⟩ := hm
  have hts := C.2.2.2.2.2.1
  generalize hwe : w cI cJ cR b = w1 at P D
  have hlast : ∀ (i : Nat) (q : Nat × va_E), w1[i]? = some q → (w0 ++ w1)[w0.length + i]? = some q := fun i q hq => by
    rw [List.getElem?_append_right (by omega), show w0.length + i - w0.length = i by omega]; exact hq
  have hfst : ∀ (i : Nat) (q : Nat × va_E), w0[i]? = some q → (w0 ++ w1)[i]? = some q := fun i q hq => by
    rw [List.getElem?_append_left (List.getElem?_eq_some_iff.mp hq).1]; exact hq
  have hF : ∀ q, va_A w1 H.size q → A q := fun q hq => by
    rcases hq with ⟨i, e0, hq⟩ | hq
    · exact D.2 _ _ (hlast i _ hq)
    · exact hA q (Nat.le_trans S.1 hq)
  have hPc : va_P (dC, dI) zcls w1 H := fun i q hq => P _ q (hlast i q hq)
  have hDc : va_D (fun _ => True) w1 := ⟨fun i j p q hi hj e => by have := D.1 _ _ p q (hlast i p hi) (hlast j q hj) e; omega, fun _ _ _ => trivial⟩
  refine va_cally (A1 := va_A w1 H.size) (free := va_A w1 H.size) (Q := Q b) (va_runI (As := As) (rest := rest) ⟨C.1, C.2.1, C.2.2.1, C.2.2.2.2.1, hts⟩ (by have h9 := hM l dC dI cI cJ cR b H.size; rw [hwe] at h9; exact h9) (cwI np hts (zws_good (t := (y, cc, maxL, none)) hm1) rfl rfl rfl (hts _ hm2) (hts _ hlk) (hts _ hin) hini hm3 ⟨hdd.1, by show 8 + (maxL + 11) + 60 * d' ≤ R.locals; have h9 : maxL ≤ 40 := hm4; have := hdd.2; omega⟩) ⟨?_, ?_⟩ rfl hn (by obtain ⟨h1, lv, h2, h3⟩ := L; exact h2.1) rfl (lv_room hr) hd hnk) S (fun q _ h => hF q h) hF (fun ad I J H1 locs1 hq P1 D1 hk S1 => ?_)
  · intro a U g mk q
    obtain ⟨q0, q1, q2, q3, q4⟩ := q
    exact ⟨q0, q1, q2, q3.blind, q4⟩
  · intro U hU hW
    exact ⟨rfl, by rw [hU], by rw [hU]; exact hPc, K.moved hW, hDc⟩
  · have h9 : va_P (dC, dI) zcls w0 H := fun i q hq => P i q (hfst i q hq)
    have h8 : va_D A w0 := ⟨fun i j p q hi hj => D.1 i j p q (hfst i p hi) (hfst j q hj), fun i q hq => D.2 i q (hfst i q hq)⟩
    have hap : ∀ (i : Nat) (q : Nat × va_E), w0[i]? = some q → q.1 < H.size ∧ ¬ va_A w1 H.size q.1 := fun i q hq => by
      have hlt := (h9 i q hq).lt
      have hi := (List.getElem?_eq_some_iff.mp hq).1
      refine ⟨hlt, fun hx => ?_⟩
      rcases hx with ⟨k0, e0, hx⟩ | hx
      · have := D.1 i _ q (q.1, e0) (hfst i q hq) (hlast k0 _ hx) rfl
        omega
      · omega
    refine kk ad I J hq l p e s m args below meth c A H1 locs1 lsr X N C K hA ?_ ?_ S1 L
    · exact va_P.app (fun i q hq => (h9 i q hq).kept (hk q.1 (hap i q hq).1 (hap i q hq).2)) P1
    · exact va_D.app h8 (D1.weaken (fun k q _ h => hF q.1 h)) (fun i j x z hx hz hxz => (hap i x hx).2 (by rw [hxz]; exact D1.2 j z hz))
theorem y_outer (c : ClassId) (N h0 : Nat) : ∀ i : Nat, i ≤ N → Jvm.Free.Multi.outerC c N h0 i = ({ cls := c, slots := ((List.range N).map (fun j => if j < i then Value.ref (h0 + 1 + j) else Value.null)).toArray, vm := .none } : Cell)
  | 0, _ => by
    show ({ cls := c, slots := Array.replicate N Value.null, vm := .none } : Cell) = _
    have e9 : Array.replicate N Value.null = ((List.range N).map (fun j => if j < 0 then Value.ref (h0 + 1 + j) else Value.null)).toArray := by
      apply Array.ext'
      simp only [Array.toList_replicate]
      apply List.ext_getElem?
      intro j
      rw [List.getElem?_map]
      by_cases hj : j < N
      · rw [List.getElem?_range hj, List.getElem?_replicate]; simp [hj]
      · rw [List.getElem?_eq_none (by simp; omega), List.getElem?_eq_none (by simp; omega)]; rfl
    rw [e9]
  | i + 1, hi => by
    show (Jvm.Free.Multi.outerC c N h0 i).setSlot i (.ref (h0 + 1 + i)) = _
    rw [y_outer c N h0 i (by omega)]
    show ({ cls := c, slots := Array.setIfInBounds _ i (.ref (h0 + 1 + i)), vm := .none } : Cell) = _
    have e9 : Array.setIfInBounds ((List.range N).map (fun j => if j < i then Value.ref (h0 + 1 + j) else Value.null)).toArray i (.ref (h0 + 1 + i)) = ((List.range N).map (fun j => if j < i + 1 then Value.ref (h0 + 1 + j) else Value.null)).toArray := by
      apply Array.ext'
      rw [Array.toList_setIfInBounds]
      apply List.ext_getElem?
      intro j
      rw [List.getElem?_set]
      by_cases hj : j < N
      · by_cases he : i = j
        · subst he
          simp [hj]
        · rw [if_neg he]
          simp only [List.getElem?_map, List.getElem?_range hj, Option.map_some]
          by_cases h : j < i
          · rw [if_pos h, if_pos (by omega)]
          · rw [if_neg h, if_neg (by omega)]
      · rw [List.getElem?_eq_none (by simp; omega)]
        by_cases he : i = j
        · subst he; omega
        · rw [if_neg he, List.getElem?_eq_none (by simp; omega)]
    rw [e9]
theorem Y_mna {idx N' K' : Nat} {x y : Int32} (hd : decode t.2.1 pc = .ok (.multianewarray idx 2, 4)) (hlk : Cond.classLink t.1.cls idx "[[J" ∈ zTb) (hx : x = nI N') (hy : y = nI K') (hN : N' ≤ 1000) (hK : K' ≤ 1000) (hnk : n + (1 + N') ≤ R.cells ∧ k + (N' + N' * K') ≤ R.slots)
    (kk : ∀ q : Nat, Y dC dI cI cJ cR R (n + 1 + N') (k + N' + N' * K') E B0 t (pc + 4) ls (.ref q :: st) (ws ++ (q, .inl (cR, N', .inr (.inr (.inr (.inr (fun i => if i < N' then some (q + 1 + i) else none)))))) :: (List.range N').map (fun i => (q + 1 + i, .inl (cJ, K', .inr (.inl (fun _ => 0))))))) : Y dC dI cI cJ cR R n k E B0 t pc ls (.int y :: .int x :: st) ws := by
  subst hx
  subst hy
  intro l p e s m args below meth c A H locs lsr X N C K hA P D S L
  intro T hT Xs
  have en : (nI N').toNatClampNeg = N' := nI_clamp (by omega)
  have ek : (nI K').toNatClampNeg = K' := nI_clamp (by omega)
  have hnm : ("[" ++ (FieldType.array FieldType.long).toString) = "[[J" := by decide +kernel
  have hnj : (FieldType.array FieldType.long).toString = "[J" := by decide +kernel
  have hts := C.2.2.2.2.2.1
  obtain ⟨vm₁, cA, comp, -, fA, fC, -, -, X', step⟩ := Xs.multianewarray2F (own := t.1.cls) (index := idx) (ty := .long) C.1 C.2.2.2.2.1 (by rw [hnm]; exact hts _ hlk) ((zAOv_eq args s).trans K.2) (hts _ lr_long) (g := F0 m pc lsr (.int (nI K') :: .int (nI N') :: st)) rfl (by rw [C.2.1]; exact hd) rfl (by have := nI_pos (n := N') (by omega); exact this) (by have := nI_pos (n := K') (by omega); exact this) (by rw [en]; omega) (by rw [ek]; show K' * 8 ≤ _; omega) (by rw [ek]; omega) rfl rfl (by rw [en]; exact hnk.1) (by rw [en, ek]; exact hnk.2)
  have eA : some cA = some cR := fA.symm.trans (K.1.1.2 2 _ rfl).2
  obtain rfl : cA = cR := Option.some.inj eA
  rw [hnj] at fC
  have eC : some comp = some cJ := fC.symm.trans (va_nm_long (K.1.1.2 1 _ rfl).2)
  obtain rfl : comp = cJ := Option.some.inj eC
  rw [en, ek] at X' step
  have hTh : (T.setVm vm₁).heap = H := hT
  obtain ⟨f1, f2, -, -⟩ := Jvm.Free.Multi.fill_facts (T.setVm vm₁) cA comp N' K' (defaultValue .long) N'
  have hold : ∀ z : Nat, z < H.size → (Jvm.Free.Multi.fill (T.setVm vm₁) cA comp N' K' (defaultValue .long) N').heap[z]? = H[z]? := fun z hz => by
    have := Jvm.Free.Multi.fill_old (T.setVm vm₁) cA comp N' K' (defaultValue .long) (a := z) (by rw [hTh]; exact hz) N'
    rw [hTh] at this
    exact this
  have hrow : ∀ j : Nat, j < N' → (Jvm.Free.Multi.fill (T.setVm vm₁) cA comp N' K' (defaultValue .long) N').heap[H.size + 1 + j]? = some (vp_cell comp (K', .inr (.inl (fun _ => 0)))) := fun j hj => by
    have := Jvm.Free.Multi.fill_inner (T.setVm vm₁) cA comp N' K' (defaultValue .long) N' j hj
    rw [hTh] at this
    rw [this]
    show some (Jvm.Free.Multi.innerC comp K' (.long 0)) = some (arrV comp K' (fun _ => .long 0))
    rw [← arrV_new]
    rfl
  rw [hTh] at f1 f2
  have hout : Jvm.Free.Multi.outerC cA N' H.size N' = vp_cell cA (N', .inr (.inr (.inr (.inr (fun i => if i < N' then some (H.size + 1 + i) else none))))) := by
    rw [y_outer cA N' H.size N' (Nat.le_refl _)]
    show _ = ({ cls := cA, slots := Array.ofFn (n := N') fun j => va_rf (if j.val < N' then some (H.size + 1 + j.val) else none), vm := .none } : Cell)
    have e9 : ((List.range N').map (fun j => if j < N' then Value.ref (H.size + 1 + j) else Value.null)).toArray = (Array.ofFn (n := N') fun j => va_rf (if j.val < N' then some (H.size + 1 + j.val) else none)) := by
      apply Array.ext'
      apply List.ext_getElem?
      intro j
      by_cases hj : j < N'
      · simp [hj, va_rf]
      · simp [hj]
    rw [e9]
  rw [hout] at f2
  have hnl : ∀ (j : Nat) (q : Nat × va_E), ((H.size, .inl (cA, N', .inr (.inr (.inr (.inr (fun i => if i < N' then some (H.size + 1 + i) else none)))))) :: (List.range N').map (fun i => ((H.size + 1 + i, .inl (comp, K', .inr (.inl (fun _ => 0)))) : Nat × va_E)))[j]? = some q → q.1 = H.size + j ∧ va_at (dC, dI) zcls q (Jvm.Free.Multi.fill (T.setVm vm₁) cA comp N' K' (defaultValue .long) N').heap := fun j q hq => by
    cases j with
    | zero => cases hq; exact ⟨rfl, f2⟩
    | succ j =>
      rw [List.getElem?_cons_succ, List.getElem?_map] at hq
      by_cases hj : j < N'
      · rw [List.getElem?_range hj] at hq
        cases hq
        exact ⟨by show H.size + 1 + j = _; omega, hrow j hj⟩
      · rw [List.getElem?_eq_none (by simp; omega)] at hq
        cases hq
  have hP0 : va_P (dC, dI) zcls ws (Jvm.Free.Multi.fill (T.setVm vm₁) cA comp N' K' (defaultValue .long) N').heap := P.kept (fun k9 x hx => hold x.1 ((P k9 x hx).lt))
  have hP2 := hP0.app (fun j q hq => (hnl j q hq).2)
  have hD2 : va_D A (ws ++ (H.size, .inl (cA, N', .inr (.inr (.inr (.inr (fun i => if i < N' then some (H.size + 1 + i) else none)))))) :: (List.range N').map (fun i => ((H.size + 1 + i, .inl (comp, K', .inr (.inl (fun _ => 0)))) : Nat × va_E))) := by
    refine va_D.app D ⟨fun i j p q hi hj e => ?_, fun j q hq => hA _ ?_⟩ (fun i j p q hi hj e => ?_)
    · have e1 := (hnl i p hi).1
      have e2 := (hnl j q hj).1
      omega
    · have e1 := (hnl j q hq).1
      have := S.1
      omega
    · have e1 := (hnl j q hj).1
      have e2 := (P i p hi).lt
      omega
  obtain ⟨t2, a1, b1⟩ := kk H.size l p e s m args below meth c A _ locs lsr X N C K hA hP2 hD2 ⟨by rw [f1]; have := S.1; omega, fun z h1 h2 => (hold z (Nat.lt_of_lt_of_le h1 S.1)).trans (S.2.1 z h1 h2), S.2.2⟩ L _ rfl X'
  refine ⟨t2, step t2 ?_, b1⟩
  have e : T.heap.size = H.size := by rw [hT]
  rw [e]
  exact a1
end YR2
