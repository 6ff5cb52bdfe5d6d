/-! ===== the frame: Z says that the method goes on from here to an end with Q ===== -/
/-- the four words on the outer class's private methods -/
def zNst (U : State) : Prop := va_Nw (.methodLinkNest "RakeTables$Rounding" 101 yX9_oneIf "RakeTables") U ∧ va_Nw (.methodLinkNest "RakeTables$Rounding" 70 yX9_place "RakeTables") U ∧ va_Nw (.methodLinkNest "RakeTables$Setting" 46 yX9_place "RakeTables") U ∧ va_Nw (.methodLinkNest "RakeTables$Table" 56 yX9_place "RakeTables") U
def zK (dC : Nat → ClassId) (dI : Nat → Nat → Nat) (cI cJ cR : ClassId) (U : State) : Prop := va_K (dC, dI) zcls [(cI, .int), (cJ, .long), (cR, .array .long)] U ∧ zNst U
theorem zK.moved {dC : Nat → ClassId} {dI : Nat → Nat → Nat} {cI cJ cR : ClassId} {u U : State} (h : zK dC dI cI cJ cR u) (hW : u.WarmedH U.vm) : zK dC dI cI cJ cR U :=
  ⟨va_K.moved hW.alike h.1, va_Nw.warmM hW h.2.1, va_Nw.warmM hW h.2.2.1, va_Nw.warmM hW h.2.2.2.1, va_Nw.warmM hW h.2.2.2.2⟩
theorem zK.blind {dC : Nat → ClassId} {dI : Nat → Nat → Nat} {cI cJ cR : ClassId} {U : State} {g : JFrame} {mk : MethodId} {a : Array Value} (h : zK dC dI cI cJ cR U) : zK dC dI cI cJ cR (U.calling g mk a) :=
  ⟨va_K.moved (u := U) (U := U.calling g mk a) (Vm.Alike.refl U.vm) h.1, va_Nw.same rfl rfl h.2.1, va_Nw.same rfl rfl h.2.2.1, va_Nw.same rfl rfl h.2.2.2.1, va_Nw.same rfl rfl h.2.2.2.2⟩
def zroom (d : Nat) : Room := { frames := d, cells := 0, slots := 0, locals := 60 * d }
def zov : Value → Option Value
  | .null => none
  | v => some v
/-- a method's end -/
def zQo (dC : Nat → ClassId) (dI : Nat → Nat → Nat) (cI cJ cR : ClassId) (ad : Nat → Nat) (lay : List zL) (A : Nat → Prop) (Q : Value → zI → zJ → Prop) : Array Value → State → Outcome → State → Prop := fun _ st oc t =>
  (∃ (r : Value) (I : zI) (J : zJ), oc = .returned ((zov r).map (zrf ad)) ∧ Q r I J ∧ va_P (dC, dI) zcls (zW cI cJ cR ad lay I J) t.heap) ∧ va_F A st t
def zws (t : zM) : List Cond := .code t.1 t.2.1 t.2.2.1 t.2.2.2 :: zTb
/-- a method's contract at these arguments in this world -/
def zMet (lay : List zL) (t : zM) (d : Nat) (as : List Value) (I : zI) (J : zJ) (Q : Value → zI → zJ → Prop) : Prop :=
  ∀ (l : Launch) (dC : Nat → ClassId) (dI : Nat → Nat → Nat) (cI cJ cR : ClassId) (ad : Nat → Nat) (sz : Nat),
    Met l t.1 (zws t) (zroom d) (va_Pc (as.map (zrf ad)) (fun U => U.heap.size = sz ∧ va_P (dC, dI) zcls (zW cI cJ cR ad lay I J) U.heap ∧ zK dC dI cI cJ cR U ∧ va_D (fun _ => True) (zW cI cJ cR ad lay I J)))
      (zQo dC dI cI cJ cR ad lay (va_A (zW cI cJ cR ad lay I J) sz) Q) 0 0 (va_A (zW cI cJ cR ad lay I J) sz)
def zCtx (p : Program) (s : State) (m : MethodId) (args : Array Value) (meth : Method) (c : Code) (t : zM) : Prop :=
  p.tables.exec = Jvm.exec ∧ c.code = t.2.1 ∧ c.maxLocals = t.2.2.1 ∧ meth.sig.returnType = t.2.2.2 ∧ s.vm.findClass t.1.cls = some m.cls ∧ (∀ w ∈ zTb, w.before args s = true) ∧ meth.locks = false
def Z (lay : List zL) (t : zM) (d pc : Nat) (ls st : List Value) (I : zI) (J : zJ) (Q : Value → zI → zJ → Prop) : Prop :=
  ∀ (l : Launch) (dC : Nat → ClassId) (dI : Nat → Nat → Nat) (cI cJ cR : ClassId) (ad : Nat → Nat) (p : Program) (e : Env) (s : State) (m : MethodId) (args : Array Value) (below : List Frame) (meth : Method) (c : Code) (A : Nat → Prop) (H : Heap) (locs : List Loc) (lsr : Array Slot),
    zCtx p s m args meth c t → zK dC dI cI cJ cR s → (∀ q : Nat, s.heap.size ≤ q → A q) → va_P (dC, dI) zcls (zW cI cJ cR ad lay I J) H → va_D A (zW cI cJ cR ad lay I J) → va_S A s.heap H locs → zlv ad t.2.2.1 ls lsr →
    W p l e (zroom d) s m args below meth c H locs 0 0 (MQ below (zQo dC dI cI cJ cR ad lay A Q) args s 0 0 A) (F0 m pc lsr (st.map (zrf ad)))
/-- the locals at the entry -/
def zent : List Value → List Value
  | [] => []
  | v :: r => if v.category = 2 then v :: .null :: zent r else v :: zent r
theorem zent_in (ad : Nat → Nat) : ∀ (as : List Value) (o n i : Nat) (v : Value), (zent as ++ List.replicate n Value.null)[i]? = some v → v ≠ .null → (o + i, zrf ad v) ∈ lv_args o (as.map (zrf ad))
  | [], o, n, i, v, h, hv => by
    simp only [zent, List.nil_append] at h
    rw [List.getElem?_replicate] at h
    split at h
    · exact absurd (Option.some.inj h).symm hv
    · cases h
  | w :: r, o, n, i, v, h, hv => by
    simp only [zent] at h
    simp only [List.map_cons, lv_args, zrf_cat]
    by_cases hc : w.category = 2
    · rw [if_pos hc] at h ⊢
      match i, h with
      | 0, h => simp at h; subst h; exact List.mem_cons_self
      | 1, h => simp at h; exact absurd h.symm hv
      | i + 2, h =>
        have := zent_in ad r (o + 2) n i v (by simpa using h) hv
        refine List.mem_cons_of_mem _ ?_
        rw [show o + (i + 2) = o + 2 + i by omega]
        exact this
    · rw [if_neg hc] at h ⊢
      match i, h with
      | 0, h => simp at h; subst h; exact List.mem_cons_self
      | i + 1, h =>
        have := zent_in ad r (o + 1) n i v (by simpa using h) hv
        refine List.mem_cons_of_mem _ ?_
        rw [show o + (i + 1) = o + 1 + i by omega]
        exact this
theorem zent_len (ad : Nat → Nat) : ∀ (as : List Value), (lg_sl (as.map (zrf ad))).length = (zent as).length
  | [] => rfl
  | w :: r => by
    have h := zent_len ad r
    have e : lg_sl ((w :: r).map (zrf ad)) = (if (zrf ad w).category = 2 then [.val (zrf ad w), .second] else [.val (zrf ad w)]) ++ lg_sl (r.map (zrf ad)) := rfl
    rw [e, List.length_append, h, zrf_cat]
    by_cases hc : w.category = 2
    · simp only [zent, if_pos hc, List.length_cons, List.length_nil]
      omega
    · simp only [zent, if_neg hc, List.length_cons, List.length_nil]
      omega
/-- from the entry to the contract -/
theorem zMet_of {lay : List zL} {t : zM} {d : Nat} {as ls : List Value} {I : zI} {J : zJ} {Q : Value → zI → zJ → Prop} (hy : plainName t.1.cls = true) (hn : (zent as).length ≤ t.2.2.1) (hls : zent as ++ List.replicate (t.2.2.1 - (zent as).length) Value.null = ls)
    (k : Z lay t d 0 ls [] I J Q) : zMet lay t d as I J Q := by
  intro l dC dI cI cJ cR ad sz
  obtain ⟨y, cc, maxL, ret⟩ := t
  refine Met.ofW (cc := cc) (maxL := maxL) (ret := ret) hy rfl ?_
  intro p e s m args below meth c s₁ B hml hv
  obtain ⟨rfl, hsz, hP, hK, hD0⟩ := hv
  have hts := atoms_spec (ws := zws (y, cc, maxL, ret)) B.pre
  subst hsz
  have hD := hD0.self (sz := s.heap.size)
  have hl := lv_entry (as.map (zrf ad)) (n := maxL) (by rw [zent_len]; exact hn)
  rw [lg_entry_eq]
  refine k l dC dI cI cJ cR ad p e s m _ below meth c (va_A (zW cI cJ cR ad lay I J) s.heap.size) s.heap [] _ ⟨B.exec, B.bytes, hml, B.returns, findClass_of_methodNamed B.named, fun w hw => hts w (List.mem_cons_of_mem _ hw), B.notSynchronized⟩ hK (fun q h => Or.inr h) hP hD va_S.rf ⟨?_, _, hl, fun i v hi hv => ?_⟩
  · rw [← hls, List.length_append, List.length_replicate]
    show (zent as).length + (maxL - (zent as).length) = maxL
    have h9 : (zent as).length ≤ maxL := hn
    omega
  · rw [← hls] at hi
    have h9 := zent_in ad as 0 _ i v hi hv
    rwa [Nat.zero_add] at h9
section ZR
variable {lay : List zL} {t : zM} {d pc : Nat} {ls st : List Value} {I : zI} {J : zJ} {Q : Value → zI → zJ → Prop}
theorem z_iconst {n : Int} {v : Int32} (hd : decode t.2.1 pc = .ok (.iconst n, 1)) (hv : Int32.ofInt n = v) (k : Z lay t d (pc + 1) ls (.int v :: st) I J Q) : Z lay t d pc ls st I J Q :=
  fun l dC dI cI cJ cR ad p e s m args below meth c A H locs lsr C K hA P D S L => lv_iconst C.1 C.2.1 hd hv (k l dC dI cI cJ cR ad p e s m args below meth c A H locs lsr C K hA P D S L)
theorem z_bipush {n : Int} {v : Int32} (hd : decode t.2.1 pc = .ok (.bipush n, 2)) (hv : (Int8.ofInt n).toInt32 = v) (k : Z lay t d (pc + 2) ls (.int v :: st) I J Q) : Z lay t d pc ls st I J Q :=
  fun l dC dI cI cJ cR ad p e s m args below meth c A H locs lsr C K hA P D S L => lv_bipush C.1 C.2.1 hd hv (k l dC dI cI cJ cR ad p e s m args below meth c A H locs lsr C K hA P D S L)
theorem z_sipush {n : Int} {v : Int32} (hd : decode t.2.1 pc = .ok (.sipush n, 3)) (hv : (Int16.ofInt n).toInt32 = v) (k : Z lay t d (pc + 3) ls (.int v :: st) I J Q) : Z lay t d pc ls st I J Q :=
  fun l dC dI cI cJ cR ad p e s m args below meth c A H locs lsr C K hA P D S L => lv_sipush C.1 C.2.1 hd hv (k l dC dI cI cJ cR ad p e s m args below meth c A H locs lsr C K hA P D S L)
theorem z_lconst {n : Fin 2} {v : Int64} (hd : decode t.2.1 pc = .ok (.lconst n, 1)) (hv : Int64.ofNat (n : Nat) = v) (k : Z lay t d (pc + 1) ls (.long v :: st) I J Q) : Z lay t d pc ls st I J Q :=
  fun l dC dI cI cJ cR ad p e s m args below meth c A H locs lsr C K hA P D S L => lv_lconst C.1 C.2.1 hd hv (k l dC dI cI cJ cR ad p e s m args below meth c A H locs lsr C K hA P D S L)
theorem z_ldc2 {index : Nat} {v : Int64} (hd : decode t.2.1 pc = .ok (.ldc2_w index, 3)) (hw : Cond.constantLong t.1.cls index v ∈ zTb) (k : Z lay t d (pc + 3) ls (.long v :: st) I J Q) : Z lay t d pc ls st I J Q :=
  fun l dC dI cI cJ cR ad p e s m args below meth c A H locs lsr C K hA P D S L => lv_ldc2 C.1 C.2.1 C.2.2.2.2.1 (C.2.2.2.2.2.1 _ hw) hd (k l dC dI cI cJ cR ad p e s m args below meth c A H locs lsr C K hA P D S L)
theorem z_ldcw {index : Nat} {v : Int32} (hd : decode t.2.1 pc = .ok (.ldc_w index, 3)) (hw : Cond.constant t.1.cls index v ∈ zTb) (k : Z lay t d (pc + 3) ls (.int v :: st) I J Q) : Z lay t d pc ls st I J Q :=
  fun l dC dI cI cJ cR ad p e s m args below meth c A H locs lsr C K hA P D S L => lv_ldcw C.1 C.2.1 C.2.2.2.2.1 (C.2.2.2.2.2.1 _ hw) hd (k l dC dI cI cJ cR ad p e s m args below meth c A H locs lsr C K hA P D S L)
theorem z_iload_n {n : Fin 4} {i : Nat} {x : Int32} (hd : decode t.2.1 pc = .ok (.iload_n n, 1)) (hi : (n : Nat) = i) (hl : ls[i]? = some (.int x)) (k : Z lay t d (pc + 1) ls (.int x :: st) I J Q) : Z lay t d pc ls st I J Q :=
  fun l dC dI cI cJ cR ad p e s m args below meth c A H locs lsr C K hA P D S L => lv_iload_n C.1 C.2.1 hd hi (L.at hl (fun h => by cases h)) (k l dC dI cI cJ cR ad p e s m args below meth c A H locs lsr C K hA P D S L)
theorem z_iload {i : Nat} {x : Int32} (hd : decode t.2.1 pc = .ok (.iload i, 2)) (hl : ls[i]? = some (.int x)) (k : Z lay t d (pc + 2) ls (.int x :: st) I J Q) : Z lay t d pc ls st I J Q :=
  fun l dC dI cI cJ cR ad p e s m args below meth c A H locs lsr C K hA P D S L => lv_iload C.1 C.2.1 hd (L.at hl (fun h => by cases h)) (k l dC dI cI cJ cR ad p e s m args below meth c A H locs lsr C K hA P D S L)
theorem z_lload_n {n : Fin 4} {i : Nat} {x : Int64} (hd : decode t.2.1 pc = .ok (.lload_n n, 1)) (hi : (n : Nat) = i) (hl : ls[i]? = some (.long x)) (k : Z lay t d (pc + 1) ls (.long x :: st) I J Q) : Z lay t d pc ls st I J Q :=
  fun l dC dI cI cJ cR ad p e s m args below meth c A H locs lsr C K hA P D S L => lv_lload_n C.1 C.2.1 hd hi (L.at hl (fun h => by cases h)) (k l dC dI cI cJ cR ad p e s m args below meth c A H locs lsr C K hA P D S L)
theorem z_lload {i : Nat} {x : Int64} (hd : decode t.2.1 pc = .ok (.lload i, 2)) (hl : ls[i]? = some (.long x)) (k : Z lay t d (pc + 2) ls (.long x :: st) I J Q) : Z lay t d pc ls st I J Q :=
  fun l dC dI cI cJ cR ad p e s m args below meth c A H locs lsr C K hA P D S L => lv_lload C.1 C.2.1 hd (L.at hl (fun h => by cases h)) (k l dC dI cI cJ cR ad p e s m args below meth c A H locs lsr C K hA P D S L)
theorem z_aload_n {n : Fin 4} {i : Nat} {x : Nat} (hd : decode t.2.1 pc = .ok (.aload_n n, 1)) (hi : (n : Nat) = i) (hl : ls[i]? = some (.ref x)) (k : Z lay t d (pc + 1) ls (.ref x :: st) I J Q) : Z lay t d pc ls st I J Q :=
  fun l dC dI cI cJ cR ad p e s m args below meth c A H locs lsr C K hA P D S L => lv_aload_n C.1 C.2.1 hd hi (L.at hl (fun h => by cases h)) (k l dC dI cI cJ cR ad p e s m args below meth c A H locs lsr C K hA P D S L)
theorem z_aload {i : Nat} {x : Nat} (hd : decode t.2.1 pc = .ok (.aload i, 2)) (hl : ls[i]? = some (.ref x)) (k : Z lay t d (pc + 2) ls (.ref x :: st) I J Q) : Z lay t d pc ls st I J Q :=
  fun l dC dI cI cJ cR ad p e s m args below meth c A H locs lsr C K hA P D S L => lv_aload C.1 C.2.1 hd (L.at hl (fun h => by cases h)) (k l dC dI cI cJ cR ad p e s m args below meth c A H locs lsr C K hA P D S L)
theorem z_istore_n {n : Fin 4} {i : Nat} {x : Int32} {ls' : List Value} (hd : decode t.2.1 pc = .ok (.istore_n n, 1)) (hi : (n : Nat) = i) (hl : i < t.2.2.1) (hs : zst1 ls i (.int x) = ls') (k : Z lay t d (pc + 1) ls' st I J Q) : Z lay t d pc ls (.int x :: st) I J Q := by
  subst hs
  intro l dC dI cI cJ cR ad p e s m args below meth c A H locs lsr C K hA P D S L
  obtain ⟨h1, lv, h2, h3⟩ := L
  exact lv_istore_n C.1 C.2.1 hd hi h2 hl rfl (fun ls' h => k l dC dI cI cJ cR ad p e s m args below meth c A H locs ls' C K hA P D S (zlv.st1 h1 h3 h))
theorem z_istore {i : Nat} {x : Int32} {ls' : List Value} (hd : decode t.2.1 pc = .ok (.istore i, 2)) (hl : i < t.2.2.1) (hs : zst1 ls i (.int x) = ls') (k : Z lay t d (pc + 2) ls' st I J Q) : Z lay t d pc ls (.int x :: st) I J Q := by
  subst hs
  intro l dC dI cI cJ cR ad p e s m args below meth c A H locs lsr C K hA P D S L
  obtain ⟨h1, lv, h2, h3⟩ := L
  exact lv_istore C.1 C.2.1 hd h2 hl rfl (fun ls' h => k l dC dI cI cJ cR ad p e s m args below meth c A H locs ls' C K hA P D S (zlv.st1 h1 h3 h))
theorem z_astore_n {n : Fin 4} {i : Nat} {x : Nat} {ls' : List Value} (hd : decode t.2.1 pc = .ok (.astore_n n, 1)) (hi : (n : Nat) = i) (hl : i < t.2.2.1) (hs : zst1 ls i (.ref x) = ls') (k : Z lay t d (pc + 1) ls' st I J Q) : Z lay t d pc ls (.ref x :: st) I J Q := by
  subst hs
  intro l dC dI cI cJ cR ad p e s m args below meth c A H locs lsr C K hA P D S L
  obtain ⟨h1, lv, h2, h3⟩ := L
  exact lv_astore_n C.1 C.2.1 hd hi h2 hl rfl (fun ls' h => k l dC dI cI cJ cR ad p e s m args below meth c A H locs ls' C K hA P D S (zlv.st1 (v := .ref x) h1 h3 h))
theorem z_astore {i : Nat} {x : Nat} {ls' : List Value} (hd : decode t.2.1 pc = .ok (.astore i, 2)) (hl : i < t.2.2.1) (hs : zst1 ls i (.ref x) = ls') (k : Z lay t d (pc + 2) ls' st I J Q) : Z lay t d pc ls (.ref x :: st) I J Q := by
  subst hs
  intro l dC dI cI cJ cR ad p e s m args below meth c A H locs lsr C K hA P D S L
  obtain ⟨h1, lv, h2, h3⟩ := L
  exact lv_astore C.1 C.2.1 hd h2 hl rfl (fun ls' h => k l dC dI cI cJ cR ad p e s m args below meth c A H locs ls' C K hA P D S (zlv.st1 (v := .ref x) h1 h3 h))
theorem z_lstore_n {n : Fin 4} {i : Nat} {x : Int64} {ls' : List Value} (hd : decode t.2.1 pc = .ok (.lstore_n n, 1)) (hi : (n : Nat) = i) (hl : i + 1 < t.2.2.1) (hs : zst2 ls i (.long x) = ls') (k : Z lay t d (pc + 1) ls' st I J Q) : Z lay t d pc ls (.long x :: st) I J Q := by
  subst hs
  intro l dC dI cI cJ cR ad p e s m args below meth c A H locs lsr C K hA P D S L
  obtain ⟨h1, lv, h2, h3⟩ := L
  exact lv_lstore_n C.1 C.2.1 hd hi h2 hl rfl (fun ls' h => k l dC dI cI cJ cR ad p e s m args below meth c A H locs ls' C K hA P D S (zlv.st2 h1 h3 h))
theorem z_lstore {i : Nat} {x : Int64} {ls' : List Value} (hd : decode t.2.1 pc = .ok (.lstore i, 2)) (hl : i + 1 < t.2.2.1) (hs : zst2 ls i (.long x) = ls') (k : Z lay t d (pc + 2) ls' st I J Q) : Z lay t d pc ls (.long x :: st) I J Q := by
  subst hs
  intro l dC dI cI cJ cR ad p e s m args below meth c A H locs lsr C K hA P D S L
  obtain ⟨h1, lv, h2, h3⟩ := L
  exact lv_lstore C.1 C.2.1 hd h2 hl rfl (fun ls' h => k l dC dI cI cJ cR ad p e s m args below meth c A H locs ls' C K hA P D S (zlv.st2 h1 h3 h))
theorem z_iinc {i : Nat} {n : Int} {x v : Int32} {ls' : List Value} (hd : decode t.2.1 pc = .ok (.iinc i n, 3)) (hx : ls[i]? = some (.int x)) (hv : x + Int32.ofInt n = v) (hl : i < t.2.2.1) (hs : zst1 ls i (.int v) = ls') (k : Z lay t d (pc + 3) ls' st I J Q) : Z lay t d pc ls st I J Q := by
  subst hs
  intro l dC dI cI cJ cR ad p e s m args below meth c A H locs lsr C K hA P D S L
  obtain ⟨h1, lv, h2, h3⟩ := L
  obtain ⟨j, hj⟩ := List.getElem?_of_mem (h3 i _ hx (fun h => by cases h))
  exact lv_iinc C.1 C.2.1 hd h2 hj hv hl rfl (fun ls' h => k l dC dI cI cJ cR ad p e s m args below meth c A H locs ls' C K hA P D S (zlv.st1 (v := .int v) h1 h3 h))
theorem z_iadd {x y : Int32} (hd : decode t.2.1 pc = .ok (.iadd, 1)) (k : Z lay t d (pc + 1) ls (.int (x + y) :: st) I J Q) : Z lay t d pc ls (.int y :: .int x :: st) I J Q :=
  fun l dC dI cI cJ cR ad p e s m args below meth c A H locs lsr C K hA P D S L => lv_iadd C.1 C.2.1 hd (k l dC dI cI cJ cR ad p e s m args below meth c A H locs lsr C K hA P D S L)
theorem z_isub {x y : Int32} (hd : decode t.2.1 pc = .ok (.isub, 1)) (k : Z lay t d (pc + 1) ls (.int (x - y) :: st) I J Q) : Z lay t d pc ls (.int y :: .int x :: st) I J Q :=
  fun l dC dI cI cJ cR ad p e s m args below meth c A H locs lsr C K hA P D S L => lv_isub C.1 C.2.1 hd (k l dC dI cI cJ cR ad p e s m args below meth c A H locs lsr C K hA P D S L)
theorem z_imul {x y : Int32} (hd : decode t.2.1 pc = .ok (.imul, 1)) (k : Z lay t d (pc + 1) ls (.int (x * y) :: st) I J Q) : Z lay t d pc ls (.int y :: .int x :: st) I J Q :=
  fun l dC dI cI cJ cR ad p e s m args below meth c A H locs lsr C K hA P D S L => lv_imul C.1 C.2.1 hd (k l dC dI cI cJ cR ad p e s m args below meth c A H locs lsr C K hA P D S L)
theorem z_iand {x y : Int32} (hd : decode t.2.1 pc = .ok (.iand, 1)) (k : Z lay t d (pc + 1) ls (.int (x &&& y) :: st) I J Q) : Z lay t d pc ls (.int y :: .int x :: st) I J Q :=
  fun l dC dI cI cJ cR ad p e s m args below meth c A H locs lsr C K hA P D S L => lv_iand C.1 C.2.1 hd (k l dC dI cI cJ cR ad p e s m args below meth c A H locs lsr C K hA P D S L)
theorem z_ior {x y : Int32} (hd : decode t.2.1 pc = .ok (.ior, 1)) (k : Z lay t d (pc + 1) ls (.int (x ||| y) :: st) I J Q) : Z lay t d pc ls (.int y :: .int x :: st) I J Q :=
  fun l dC dI cI cJ cR ad p e s m args below meth c A H locs lsr C K hA P D S L => lv_ior C.1 C.2.1 hd (k l dC dI cI cJ cR ad p e s m args below meth c A H locs lsr C K hA P D S L)
theorem z_ishl {x y : Int32} (hd : decode t.2.1 pc = .ok (.ishl, 1)) (k : Z lay t d (pc + 1) ls (.int (x <<< (y &&& 31)) :: st) I J Q) : Z lay t d pc ls (.int y :: .int x :: st) I J Q :=
  fun l dC dI cI cJ cR ad p e s m args below meth c A H locs lsr C K hA P D S L => lv_ishl C.1 C.2.1 hd (k l dC dI cI cJ cR ad p e s m args below meth c A H locs lsr C K hA P D S L)
theorem z_ishr {x y : Int32} (hd : decode t.2.1 pc = .ok (.ishr, 1)) (k : Z lay t d (pc + 1) ls (.int (x >>> (y &&& 31)) :: st) I J Q) : Z lay t d pc ls (.int y :: .int x :: st) I J Q :=
  fun l dC dI cI cJ cR ad p e s m args below meth c A H locs lsr C K hA P D S L => lv_ishr C.1 C.2.1 hd (k l dC dI cI cJ cR ad p e s m args below meth c A H locs lsr C K hA P D S L)
theorem z_idiv {x y : Int32} (hd : decode t.2.1 pc = .ok (.idiv, 1)) (hne : ¬ y = 0) (k : Z lay t d (pc + 1) ls (.int (x / y) :: st) I J Q) : Z lay t d pc ls (.int y :: .int x :: st) I J Q :=
  fun l dC dI cI cJ cR ad p e s m args below meth c A H locs lsr C K hA P D S L => lv_idiv C.1 C.2.1 hd hne (k l dC dI cI cJ cR ad p e s m args below meth c A H locs lsr C K hA P D S L)
theorem z_irem {x y : Int32} (hd : decode t.2.1 pc = .ok (.irem, 1)) (hne : ¬ y = 0) (k : Z lay t d (pc + 1) ls (.int (x - x / y * y) :: st) I J Q) : Z lay t d pc ls (.int y :: .int x :: st) I J Q :=
  fun l dC dI cI cJ cR ad p e s m args below meth c A H locs lsr C K hA P D S L => lv_irem C.1 C.2.1 hd hne (k l dC dI cI cJ cR ad p e s m args below meth c A H locs lsr C K hA P D S L)
theorem z_ladd {x y : Int64} (hd : decode t.2.1 pc = .ok (.ladd, 1)) (k : Z lay t d (pc + 1) ls (.long (x + y) :: st) I J Q) : Z lay t d pc ls (.long y :: .long x :: st) I J Q :=
  fun l dC dI cI cJ cR ad p e s m args below meth c A H locs lsr C K hA P D S L => lv_ladd C.1 C.2.1 hd (k l dC dI cI cJ cR ad p e s m args below meth c A H locs lsr C K hA P D S L)
theorem z_lsub {x y : Int64} (hd : decode t.2.1 pc = .ok (.lsub, 1)) (k : Z lay t d (pc + 1) ls (.long (x - y) :: st) I J Q) : Z lay t d pc ls (.long y :: .long x :: st) I J Q :=
  fun l dC dI cI cJ cR ad p e s m args below meth c A H locs lsr C K hA P D S L => lv_lsub C.1 C.2.1 hd (k l dC dI cI cJ cR ad p e s m args below meth c A H locs lsr C K hA P D S L)
theorem z_lmul {x y : Int64} (hd : decode t.2.1 pc = .ok (.lmul, 1)) (k : Z lay t d (pc + 1) ls (.long (x * y) :: st) I J Q) : Z lay t d pc ls (.long y :: .long x :: st) I J Q :=
  fun l dC dI cI cJ cR ad p e s m args below meth c A H locs lsr C K hA P D S L => lv_lmul C.1 C.2.1 hd (k l dC dI cI cJ cR ad p e s m args below meth c A H locs lsr C K hA P D S L)
theorem z_land {x y : Int64} (hd : decode t.2.1 pc = .ok (.land, 1)) (k : Z lay t d (pc + 1) ls (.long (x &&& y) :: st) I J Q) : Z lay t d pc ls (.long y :: .long x :: st) I J Q :=
  fun l dC dI cI cJ cR ad p e s m args below meth c A H locs lsr C K hA P D S L => lv_land C.1 C.2.1 hd (k l dC dI cI cJ cR ad p e s m args below meth c A H locs lsr C K hA P D S L)
theorem z_lor {x y : Int64} (hd : decode t.2.1 pc = .ok (.lor, 1)) (k : Z lay t d (pc + 1) ls (.long (x ||| y) :: st) I J Q) : Z lay t d pc ls (.long y :: .long x :: st) I J Q :=
  fun l dC dI cI cJ cR ad p e s m args below meth c A H locs lsr C K hA P D S L => lv_lor C.1 C.2.1 hd (k l dC dI cI cJ cR ad p e s m args below meth c A H locs lsr C K hA P D S L)
theorem z_ldiv {x y : Int64} (hd : decode t.2.1 pc = .ok (.ldiv, 1)) (hne : ¬ y = 0) (k : Z lay t d (pc + 1) ls (.long (x / y) :: st) I J Q) : Z lay t d pc ls (.long y :: .long x :: st) I J Q :=
  fun l dC dI cI cJ cR ad p e s m args below meth c A H locs lsr C K hA P D S L => lv_ldiv C.1 C.2.1 hd hne (k l dC dI cI cJ cR ad p e s m args below meth c A H locs lsr C K hA P D S L)
theorem z_lrem {x y : Int64} (hd : decode t.2.1 pc = .ok (.lrem, 1)) (hne : ¬ y = 0) (k : Z lay t d (pc + 1) ls (.long (x - x / y * y) :: st) I J Q) : Z lay t d pc ls (.long y :: .long x :: st) I J Q :=
  fun l dC dI cI cJ cR ad p e s m args below meth c A H locs lsr C K hA P D S L => lv_lrem C.1 C.2.1 hd hne (k l dC dI cI cJ cR ad p e s m args below meth c A H locs lsr C K hA P D S L)
theorem z_ineg {x : Int32} (hd : decode t.2.1 pc = .ok (.ineg, 1)) (k : Z lay t d (pc + 1) ls (.int (-x) :: st) I J Q) : Z lay t d pc ls (.int x :: st) I J Q :=
  fun l dC dI cI cJ cR ad p e s m args below meth c A H locs lsr C K hA P D S L => lv_ineg C.1 C.2.1 hd (k l dC dI cI cJ cR ad p e s m args below meth c A H locs lsr C K hA P D S L)
theorem z_lneg {x : Int64} (hd : decode t.2.1 pc = .ok (.lneg, 1)) (k : Z lay t d (pc + 1) ls (.long (-x) :: st) I J Q) : Z lay t d pc ls (.long x :: st) I J Q :=
  fun l dC dI cI cJ cR ad p e s m args below meth c A H locs lsr C K hA P D S L => lv_lneg C.1 C.2.1 hd (k l dC dI cI cJ cR ad p e s m args below meth c A H locs lsr C K hA P D S L)
theorem z_i2l {x : Int32} {v : Int64} (hd : decode t.2.1 pc = .ok (.i2l, 1)) (hv : x.toInt64 = v) (k : Z lay t d (pc + 1) ls (.long v :: st) I J Q) : Z lay t d pc ls (.int x :: st) I J Q :=
  fun l dC dI cI cJ cR ad p e s m args below meth c A H locs lsr C K hA P D S L => lv_i2l C.1 C.2.1 hd hv (k l dC dI cI cJ cR ad p e s m args below meth c A H locs lsr C K hA P D S L)
theorem z_l2i {x : Int64} {v : Int32} (hd : decode t.2.1 pc = .ok (.l2i, 1)) (hv : x.toInt32 = v) (k : Z lay t d (pc + 1) ls (.int v :: st) I J Q) : Z lay t d pc ls (.long x :: st) I J Q :=
  fun l dC dI cI cJ cR ad p e s m args below meth c A H locs lsr C K hA P D S L => lv_l2i C.1 C.2.1 hd hv (k l dC dI cI cJ cR ad p e s m args below meth c A H locs lsr C K hA P D S L)
theorem z_i2b {x v : Int32} (hd : decode t.2.1 pc = .ok (.i2b, 1)) (hv : x.toInt8.toInt32 = v) (k : Z lay t d (pc + 1) ls (.int v :: st) I J Q) : Z lay t d pc ls (.int x :: st) I J Q :=
  fun l dC dI cI cJ cR ad p e s m args below meth c A H locs lsr C K hA P D S L => lv_i2b C.1 C.2.1 hd hv (k l dC dI cI cJ cR ad p e s m args below meth c A H locs lsr C K hA P D S L)
theorem z_i2s {x v : Int32} (hd : decode t.2.1 pc = .ok (.i2s, 1)) (hv : x.toInt16.toInt32 = v) (k : Z lay t d (pc + 1) ls (.int v :: st) I J Q) : Z lay t d pc ls (.int x :: st) I J Q :=
  fun l dC dI cI cJ cR ad p e s m args below meth c A H locs lsr C K hA P D S L => lv_i2s C.1 C.2.1 hd hv (k l dC dI cI cJ cR ad p e s m args below meth c A H locs lsr C K hA P D S L)
theorem z_iushr {x y v : Int32} (hd : decode t.2.1 pc = .ok (.iushr, 1)) (hv : (x.toUInt32 >>> (y.toUInt32 &&& Int32.toUInt32 31)).toInt32 = v) (k : Z lay t d (pc + 1) ls (.int v :: st) I J Q) : Z lay t d pc ls (.int y :: .int x :: st) I J Q :=
  fun l dC dI cI cJ cR ad p e s m args below meth c A H locs lsr C K hA P D S L => lv_iushr C.1 C.2.1 hd hv (k l dC dI cI cJ cR ad p e s m args below meth c A H locs lsr C K hA P D S L)
theorem z_lcmp {x y : Int64} (hd : decode t.2.1 pc = .ok (.lcmp, 1)) (k : Z lay t d (pc + 1) ls (.int (lg_cmp x y) :: st) I J Q) : Z lay t d pc ls (.long y :: .long x :: st) I J Q :=
  fun l dC dI cI cJ cR ad p e s m args below meth c A H locs lsr C K hA P D S L => W.lcmp C.1 C.2.1 hd (k l dC dI cI cJ cR ad p e s m args below meth c A H locs lsr C K hA P D S L)
theorem z_dup {v : Value} (hd : decode t.2.1 pc = .ok (.dup, 1)) (hv : v.category = 1) (k : Z lay t d (pc + 1) ls (v :: v :: st) I J Q) : Z lay t d pc ls (v :: st) I J Q :=
  fun l dC dI cI cJ cR ad p e s m args below meth c A H locs lsr C K hA P D S L => lv_dup C.1 C.2.1 hd (by rw [zrf_cat]; exact hv) (k l dC dI cI cJ cR ad p e s m args below meth c A H locs lsr C K hA P D S L)
theorem z_pop {v : Value} (hd : decode t.2.1 pc = .ok (.pop, 1)) (hv : v.category = 1) (k : Z lay t d (pc + 1) ls st I J Q) : Z lay t d pc ls (v :: st) I J Q :=
  fun l dC dI cI cJ cR ad p e s m args below meth c A H locs lsr C K hA P D S L => lv_pop C.1 C.2.1 hd (by rw [zrf_cat]; exact hv) (k l dC dI cI cJ cR ad p e s m args below meth c A H locs lsr C K hA P D S L)
theorem z_dup2 {v w : Value} (hd : decode t.2.1 pc = .ok (.dup2, 1)) (hv : v.category = 1) (hw : w.category = 1) (k : Z lay t d (pc + 1) ls (v :: w :: v :: w :: st) I J Q) : Z lay t d pc ls (v :: w :: st) I J Q :=
  fun l dC dI cI cJ cR ad p e s m args below meth c A H locs lsr C K hA P D S L => lv_dup2_11 C.1 C.2.1 hd (by rw [zrf_cat]; exact hv) (by rw [zrf_cat]; exact hw) (k l dC dI cI cJ cR ad p e s m args below meth c A H locs lsr C K hA P D S L)
theorem z_if_eq {x : Int32} {off : Int} {tgt : Nat} (hd : decode t.2.1 pc = .ok (.ifCond .eq off, 3)) (ht : (pc : Int) + off = (tgt : Int)) (kt : x = 0 → Z lay t d tgt ls st I J Q) (kf : ¬ x = 0 → Z lay t d (pc + 3) ls st I J Q) : Z lay t d pc ls (.int x :: st) I J Q :=
  fun l dC dI cI cJ cR ad p e s m args below meth c A H locs lsr C K hA P D S L => lv_if_eq C.1 C.2.1 hd ht (fun h => kt h l dC dI cI cJ cR ad p e s m args below meth c A H locs lsr C K hA P D S L) (fun h => kf h l dC dI cI cJ cR ad p e s m args below meth c A H locs lsr C K hA P D S L)
theorem z_icmp_eq {x y : Int32} {off : Int} {tgt : Nat} (hd : decode t.2.1 pc = .ok (.if_icmp .eq off, 3)) (ht : (pc : Int) + off = (tgt : Int)) (kt : x = y → Z lay t d tgt ls st I J Q) (kf : ¬ x = y → Z lay t d (pc + 3) ls st I J Q) : Z lay t d pc ls (.int y :: .int x :: st) I J Q :=
  fun l dC dI cI cJ cR ad p e s m args below meth c A H locs lsr C K hA P D S L => lv_icmp_eq C.1 C.2.1 hd ht (fun h => kt h l dC dI cI cJ cR ad p e s m args below meth c A H locs lsr C K hA P D S L) (fun h => kf h l dC dI cI cJ cR ad p e s m args below meth c A H locs lsr C K hA P D S L)
theorem z_if_ne {x : Int32} {off : Int} {tgt : Nat} (hd : decode t.2.1 pc = .ok (.ifCond .ne off, 3)) (ht : (pc : Int) + off = (tgt : Int)) (kt : ¬ x = 0 → Z lay t d tgt ls st I J Q) (kf : x = 0 → Z lay t d (pc + 3) ls st I J Q) : Z lay t d pc ls (.int x :: st) I J Q :=
  fun l dC dI cI cJ cR ad p e s m args below meth c A H locs lsr C K hA P D S L => lv_if_ne C.1 C.2.1 hd ht (fun h => kt h l dC dI cI cJ cR ad p e s m args below meth c A H locs lsr C K hA P D S L) (fun h => kf h l dC dI cI cJ cR ad p e s m args below meth c A H locs lsr C K hA P D S L)
theorem z_icmp_ne {x y : Int32} {off : Int} {tgt : Nat} (hd : decode t.2.1 pc = .ok (.if_icmp .ne off, 3)) (ht : (pc : Int) + off = (tgt : Int)) (kt : ¬ x = y → Z lay t d tgt ls st I J Q) (kf : x = y → Z lay t d (pc + 3) ls st I J Q) : Z lay t d pc ls (.int y :: .int x :: st) I J Q :=
  fun l dC dI cI cJ cR ad p e s m args below meth c A H locs lsr C K hA P D S L => lv_icmp_ne C.1 C.2.1 hd ht (fun h => kt h l dC dI cI cJ cR ad p e s m args below meth c A H locs lsr C K hA P D S L) (fun h => kf h l dC dI cI cJ cR ad p e s m args below meth c A H locs lsr C K hA P D S L)
theorem z_if_lt {x : Int32} {off : Int} {tgt : Nat} (hd : decode t.2.1 pc = .ok (.ifCond .lt off, 3)) (ht : (pc : Int) + off = (tgt : Int)) (kt : x < 0 → Z lay t d tgt ls st I J Q) (kf : ¬ x < 0 → Z lay t d (pc + 3) ls st I J Q) : Z lay t d pc ls (.int x :: st) I J Q :=
  fun l dC dI cI cJ cR ad p e s m args below meth c A H locs lsr C K hA P D S L => lv_if_lt C.1 C.2.1 hd ht (fun h => kt h l dC dI cI cJ cR ad p e s m args below meth c A H locs lsr C K hA P D S L) (fun h => kf h l dC dI cI cJ cR ad p e s m args below meth c A H locs lsr C K hA P D S L)
theorem z_icmp_lt {x y : Int32} {off : Int} {tgt : Nat} (hd : decode t.2.1 pc = .ok (.if_icmp .lt off, 3)) (ht : (pc : Int) + off = (tgt : Int)) (kt : x < y → Z lay t d tgt ls st I J Q) (kf : ¬ x < y → Z lay t d (pc + 3) ls st I J Q) : Z lay t d pc ls (.int y :: .int x :: st) I J Q :=
  fun l dC dI cI cJ cR ad p e s m args below meth c A H locs lsr C K hA P D S L => lv_icmp_lt C.1 C.2.1 hd ht (fun h => kt h l dC dI cI cJ cR ad p e s m args below meth c A H locs lsr C K hA P D S L) (fun h => kf h l dC dI cI cJ cR ad p e s m args below meth c A H locs lsr C K hA P D S L)
theorem z_if_ge {x : Int32} {off : Int} {tgt : Nat} (hd : decode t.2.1 pc = .ok (.ifCond .ge off, 3)) (ht : (pc : Int) + off = (tgt : Int)) (kt : 0 ≤ x → Z lay t d tgt ls st I J Q) (kf : ¬ 0 ≤ x → Z lay t d (pc + 3) ls st I J Q) : Z lay t d pc ls (.int x :: st) I J Q :=
  fun l dC dI cI cJ cR ad p e s m args below meth c A H locs lsr C K hA P D S L => lv_if_ge C.1 C.2.1 hd ht (fun h => kt h l dC dI cI cJ cR ad p e s m args below meth c A H locs lsr C K hA P D S L) (fun h => kf h l dC dI cI cJ cR ad p e s m args below meth c A H locs lsr C K hA P D S L)
theorem z_icmp_ge {x y : Int32} {off : Int} {tgt : Nat} (hd : decode t.2.1 pc = .ok (.if_icmp .ge off, 3)) (ht : (pc : Int) + off = (tgt : Int)) (kt : y ≤ x → Z lay t d tgt ls st I J Q) (kf : ¬ y ≤ x → Z lay t d (pc + 3) ls st I J Q) : Z lay t d pc ls (.int y :: .int x :: st) I J Q :=
  fun l dC dI cI cJ cR ad p e s m args below meth c A H locs lsr C K hA P D S L => lv_icmp_ge C.1 C.2.1 hd ht (fun h => kt h l dC dI cI cJ cR ad p e s m args below meth c A H locs lsr C K hA P D S L) (fun h => kf h l dC dI cI cJ cR ad p e s m args below meth c A H locs lsr C K hA P D S L)
theorem z_if_gt {x : Int32} {off : Int} {tgt : Nat} (hd : decode t.2.1 pc = .ok (.ifCond .gt off, 3)) (ht : (pc : Int) + off = (tgt : Int)) (kt : 0 < x → Z lay t d tgt ls st I J Q) (kf : ¬ 0 < x → Z lay t d (pc + 3) ls st I J Q) : Z lay t d pc ls (.int x :: st) I J Q :=
  fun l dC dI cI cJ cR ad p e s m args below meth c A H locs lsr C K hA P D S L => lv_if_gt C.1 C.2.1 hd ht (fun h => kt h l dC dI cI cJ cR ad p e s m args below meth c A H locs lsr C K hA P D S L) (fun h => kf h l dC dI cI cJ cR ad p e s m args below meth c A H locs lsr C K hA P D S L)
theorem z_icmp_gt {x y : Int32} {off : Int} {tgt : Nat} (hd : decode t.2.1 pc = .ok (.if_icmp .gt off, 3)) (ht : (pc : Int) + off = (tgt : Int)) (kt : y < x → Z lay t d tgt ls st I J Q) (kf : ¬ y < x → Z lay t d (pc + 3) ls st I J Q) : Z lay t d pc ls (.int y :: .int x :: st) I J Q :=
  fun l dC dI cI cJ cR ad p e s m args below meth c A H locs lsr C K hA P D S L => lv_icmp_gt C.1 C.2.1 hd ht (fun h => kt h l dC dI cI cJ cR ad p e s m args below meth c A H locs lsr C K hA P D S L) (fun h => kf h l dC dI cI cJ cR ad p e s m args below meth c A H locs lsr C K hA P D S L)
theorem z_if_le {x : Int32} {off : Int} {tgt : Nat} (hd : decode t.2.1 pc = .ok (.ifCond .le off, 3)) (ht : (pc : Int) + off = (tgt : Int)) (kt : x ≤ 0 → Z lay t d tgt ls st I J Q) (kf : ¬ x ≤ 0 → Z lay t d (pc + 3) ls st I J Q) : Z lay t d pc ls (.int x :: st) I J Q :=
  fun l dC dI cI cJ cR ad p e s m args below meth c A H locs lsr C K hA P D S L => lv_if_le C.1 C.2.1 hd ht (fun h => kt h l dC dI cI cJ cR ad p e s m args below meth c A H locs lsr C K hA P D S L) (fun h => kf h l dC dI cI cJ cR ad p e s m args below meth c A H locs lsr C K hA P D S L)
theorem z_icmp_le {x y : Int32} {off : Int} {tgt : Nat} (hd : decode t.2.1 pc = .ok (.if_icmp .le off, 3)) (ht : (pc : Int) + off = (tgt : Int)) (kt : x ≤ y → Z lay t d tgt ls st I J Q) (kf : ¬ x ≤ y → Z lay t d (pc + 3) ls st I J Q) : Z lay t d pc ls (.int y :: .int x :: st) I J Q :=
  fun l dC dI cI cJ cR ad p e s m args below meth c A H locs lsr C K hA P D S L => lv_icmp_le C.1 C.2.1 hd ht (fun h => kt h l dC dI cI cJ cR ad p e s m args below meth c A H locs lsr C K hA P D S L) (fun h => kf h l dC dI cI cJ cR ad p e s m args below meth c A H locs lsr C K hA P D S L)
theorem z_goto {off : Int} {tgt : Nat} (hd : decode t.2.1 pc = .ok (.goto off, 3)) (ht : (pc : Int) + off = (tgt : Int)) (k : Z lay t d tgt ls st I J Q) : Z lay t d pc ls st I J Q :=
  fun l dC dI cI cJ cR ad p e s m args below meth c A H locs lsr C K hA P D S L => lv_goto C.1 C.2.1 hd ht (k l dC dI cI cJ cR ad p e s m args below meth c A H locs lsr C K hA P D S L)
theorem z_lookup {dflt : Int} {ps : Array (Int × Int)} {len : Nat} {x : Int32} {off : Int} {tgt : Nat} (hd : decode t.2.1 pc = .ok (.lookupswitch dflt ps, len)) (hp : (ps.toList.zip (ps.toList.drop 1)).all (fun (a, next) => a.1 < next.1) = true) (ho : Op.lookupswitch.offset ps.toList dflt x.toInt = off) (ht : (pc : Int) + off = (tgt : Int)) (k : Z lay t d tgt ls st I J Q) : Z lay t d pc ls (.int x :: st) I J Q :=
  fun l dC dI cI cJ cR ad p e s m args below meth c A H locs lsr C K hA P D S L => lv_lookup C.1 C.2.1 hd hp ho ht (k l dC dI cI cJ cR ad p e s m args below meth c A H locs lsr C K hA P D S L)
theorem z_tableOut {dflt lo hi : Int} {offs : Array Int} {len : Nat} {x : Int32} {tgt : Nat} (hd : decode t.2.1 pc = .ok (.tableswitch dflt lo hi offs, len)) (h : x.toInt < lo ∨ hi < x.toInt) (ht : (pc : Int) + dflt = (tgt : Int)) (k : Z lay t d tgt ls st I J Q) : Z lay t d pc ls (.int x :: st) I J Q :=
  fun l dC dI cI cJ cR ad p e s m args below meth c A H locs lsr C K hA P D S L => lv_tableOut C.1 C.2.1 hd h ht (k l dC dI cI cJ cR ad p e s m args below meth c A H locs lsr C K hA P D S L)
theorem z_tableIn {dflt lo hi : Int} {offs : Array Int} {len : Nat} {x : Int32} {off : Int} {tgt : Nat} (hd : decode t.2.1 pc = .ok (.tableswitch dflt lo hi offs, len)) (h1 : ¬ x.toInt < lo) (h2 : ¬ hi < x.toInt) (ho : offs[(x.toInt - lo).toNat]? = some off) (ht : (pc : Int) + off = (tgt : Int)) (k : Z lay t d tgt ls st I J Q) : Z lay t d pc ls (.int x :: st) I J Q :=
  fun l dC dI cI cJ cR ad p e s m args below meth c A H locs lsr C K hA P D S L => lv_tableIn C.1 C.2.1 hd h1 h2 ho ht (k l dC dI cI cJ cR ad p e s m args below meth c A H locs lsr C K hA P D S L)
theorem z_getI {idx ci k0 a : Nat} {ty : FieldType} {fin : Bool} {fl : List Nat} (hd : decode t.2.1 pc = .ok (.getfield idx, 3)) (hF : zFld t.1.cls idx ci k0 ty fin) (hl : lay[a]? = some (.inl (ci, fl))) (hf0 : fl[k0]? = some 0) (k : Z lay t d (pc + 3) ls (.int (I a k0) :: st) I J Q) : Z lay t d pc ls (.ref a :: st) I J Q := by
  intro l dC dI cI cJ cR ad p e s m args below meth c A H locs lsr C K hA P D S L
  obtain ⟨C', T, N, tys, ⟨hcl, hin, hty, hnm⟩, hk, hlk, ht, hf⟩ := hF
  exact va_get (D := (dC, dI)) (ci := ci) (v := zrf ad (.int (I a k0))) C.1 C.2.1 C.2.2.2.2.2.1 hin C.2.2.2.2.1 K.1 P a (zW_get hl) hcl k0 hk (C.2.2.2.2.2.1 _ hlk) (fun _ h => h) (by rw [List.getElem?_mapIdx, hf0]; rfl) hd (k l dC dI cI cJ cR ad p e s m args below meth c A H locs lsr C K hA P D S L)
theorem z_getJ {idx ci k0 a : Nat} {ty : FieldType} {fin : Bool} {fl : List Nat} (hd : decode t.2.1 pc = .ok (.getfield idx, 3)) (hF : zFld t.1.cls idx ci k0 ty fin) (hl : lay[a]? = some (.inl (ci, fl))) (hf0 : fl[k0]? = some 1) (k : Z lay t d (pc + 3) ls (.long (J a k0) :: st) I J Q) : Z lay t d pc ls (.ref a :: st) I J Q := by
  intro l dC dI cI cJ cR ad p e s m args below meth c A H locs lsr C K hA P D S L
  obtain ⟨C', T, N, tys, ⟨hcl, hin, hty, hnm⟩, hk, hlk, ht, hf⟩ := hF
  exact va_get (D := (dC, dI)) (ci := ci) (v := zrf ad (.long (J a k0))) C.1 C.2.1 C.2.2.2.2.2.1 hin C.2.2.2.2.1 K.1 P a (zW_get hl) hcl k0 hk (C.2.2.2.2.2.1 _ hlk) (fun _ h => h) (by rw [List.getElem?_mapIdx, hf0]; rfl) hd (k l dC dI cI cJ cR ad p e s m args below meth c A H locs lsr C K hA P D S L)
theorem z_getR {idx ci k0 a b : Nat} {ty : FieldType} {fin : Bool} {fl : List Nat} (hd : decode t.2.1 pc = .ok (.getfield idx, 3)) (hF : zFld t.1.cls idx ci k0 ty fin) (hl : lay[a]? = some (.inl (ci, fl))) (hf0 : fl[k0]? = some (b + 2)) (k : Z lay t d (pc + 3) ls (.ref b :: st) I J Q) : Z lay t d pc ls (.ref a :: st) I J Q := by
  intro l dC dI cI cJ cR ad p e s m args below meth c A H locs lsr C K hA P D S L
  obtain ⟨C', T, N, tys, ⟨hcl, hin, hty, hnm⟩, hk, hlk, ht, hf⟩ := hF
  exact va_get (D := (dC, dI)) (ci := ci) (v := zrf ad (.ref b)) C.1 C.2.1 C.2.2.2.2.2.1 hin C.2.2.2.2.1 K.1 P a (zW_get hl) hcl k0 hk (C.2.2.2.2.2.1 _ hlk) (fun _ h => h) (by rw [List.getElem?_mapIdx, hf0]; rfl) hd (k l dC dI cI cJ cR ad p e s m args below meth c A H locs lsr C K hA P D S L)
theorem z_putI {idx ci k0 a : Nat} {fl : List Nat} {v : Int32} (hd : decode t.2.1 pc = .ok (.putfield idx, 3)) (hF : zFld t.1.cls idx ci k0 (.int) false) (hl : lay[a]? = some (.inl (ci, fl))) (hf0 : fl[k0]? = some 0) (k : Z lay t d (pc + 3) ls st (zup I a k0 v) (J) Q) : Z lay t d pc ls (.int v :: .ref a :: st) I J Q := by
  intro l dC dI cI cJ cR ad p e' s m args below meth c A H locs lsr C K hA P D S L
  obtain ⟨C', T, N, tys, ⟨hcl, hin, hty, hnm⟩, hk, hlk, ht, hf⟩ := hF
  refine va_put (D := (dC, dI)) (ci := ci) (v := .int v) (ty := .int) C.1 C.2.1 C.2.2.2.2.2.1 hin tys hty hnm C.2.2.2.2.1 K.1 P D S a (zW_get hl) hcl k0 hk (C.2.2.2.2.2.1 _ hlk) (fun _ h => h) hf (by rw [hty k0 hk, ht]) (rfl) (rfl) (by rw [List.length_mapIdx]; exact (List.getElem?_eq_some_iff.mp hf0).1) hd (fun H1 locs1 P1 D1 S1 => ?_)
  have e := zW_set (cI := cI) (cJ := cJ) (cR := cR) (ad := ad) (I := I) (I' := zup I a k0 v) (J := J) (J' := J) (e := .inr (ci, (fl.mapIdx (fun j f => zfv ad I J a j f)).set k0 (.int v))) hl (by rw [zfv_int hf0]; rfl) (fun b d h => zcell_oI b d h)
  have P2 : va_P (dC, dI) zcls (zW cI cJ cR ad lay (zup I a k0 v) (J)) H1 := by rw [← e]; exact P1
  exact k l dC dI cI cJ cR ad p e' s m args below meth c A H1 locs1 lsr C K hA P2 (zW_D D) S1 L
theorem z_putZ {idx ci k0 a : Nat} {fl : List Nat} {v : Int32} (hd : decode t.2.1 pc = .ok (.putfield idx, 3)) (hF : zFld t.1.cls idx ci k0 (.boolean) false) (hl : lay[a]? = some (.inl (ci, fl))) (hf0 : fl[k0]? = some 0) (hv : v = 0 ∨ v = 1) (k : Z lay t d (pc + 3) ls st (zup I a k0 v) (J) Q) : Z lay t d pc ls (.int v :: .ref a :: st) I J Q := by
  intro l dC dI cI cJ cR ad p e' s m args below meth c A H locs lsr C K hA P D S L
  obtain ⟨C', T, N, tys, ⟨hcl, hin, hty, hnm⟩, hk, hlk, ht, hf⟩ := hF
  refine va_put (D := (dC, dI)) (ci := ci) (v := .int v) (ty := .boolean) C.1 C.2.1 C.2.2.2.2.2.1 hin tys hty hnm C.2.2.2.2.1 K.1 P D S a (zW_get hl) hcl k0 hk (C.2.2.2.2.2.1 _ hlk) (fun _ h => h) hf (by rw [hty k0 hk, ht]) (by rcases hv with rfl | rfl <;> rfl) (by rcases hv with rfl | rfl <;> rfl) (by rw [List.length_mapIdx]; exact (List.getElem?_eq_some_iff.mp hf0).1) hd (fun H1 locs1 P1 D1 S1 => ?_)
  have e := zW_set (cI := cI) (cJ := cJ) (cR := cR) (ad := ad) (I := I) (I' := zup I a k0 v) (J := J) (J' := J) (e := .inr (ci, (fl.mapIdx (fun j f => zfv ad I J a j f)).set k0 (.int v))) hl (by rw [zfv_int hf0]; rfl) (fun b d h => zcell_oI b d h)
  have P2 : va_P (dC, dI) zcls (zW cI cJ cR ad lay (zup I a k0 v) (J)) H1 := by rw [← e]; exact P1
  exact k l dC dI cI cJ cR ad p e' s m args below meth c A H1 locs1 lsr C K hA P2 (zW_D D) S1 L
theorem z_putJ {idx ci k0 a : Nat} {fl : List Nat} {v : Int64} (hd : decode t.2.1 pc = .ok (.putfield idx, 3)) (hF : zFld t.1.cls idx ci k0 (.long) false) (hl : lay[a]? = some (.inl (ci, fl))) (hf0 : fl[k0]? = some 1) (k : Z lay t d (pc + 3) ls st (I) (zup J a k0 v) Q) : Z lay t d pc ls (.long v :: .ref a :: st) I J Q := by
  intro l dC dI cI cJ cR ad p e' s m args below meth c A H locs lsr C K hA P D S L
  obtain ⟨C', T, N, tys, ⟨hcl, hin, hty, hnm⟩, hk, hlk, ht, hf⟩ := hF
  refine va_put (D := (dC, dI)) (ci := ci) (v := .long v) (ty := .long) C.1 C.2.1 C.2.2.2.2.2.1 hin tys hty hnm C.2.2.2.2.1 K.1 P D S a (zW_get hl) hcl k0 hk (C.2.2.2.2.2.1 _ hlk) (fun _ h => h) hf (by rw [hty k0 hk, ht]) (rfl) (rfl) (by rw [List.length_mapIdx]; exact (List.getElem?_eq_some_iff.mp hf0).1) hd (fun H1 locs1 P1 D1 S1 => ?_)
  have e := zW_set (cI := cI) (cJ := cJ) (cR := cR) (ad := ad) (I := I) (I' := I) (J := J) (J' := zup J a k0 v) (e := .inr (ci, (fl.mapIdx (fun j f => zfv ad I J a j f)).set k0 (.long v))) hl (by rw [zfv_long hf0]; rfl) (fun b d h => zcell_oJ b d h)
  have P2 : va_P (dC, dI) zcls (zW cI cJ cR ad lay (I) (zup J a k0 v)) H1 := by rw [← e]; exact P1
  exact k l dC dI cI cJ cR ad p e' s m args below meth c A H1 locs1 lsr C K hA P2 (zW_D D) S1 L
theorem z_iaload {a n N : Nat} {i : Int32} (hd : decode t.2.1 pc = .ok (.iaload, 1)) (hl : lay[a]? = some (.inr (.inl N))) (hi : i = nI n) (hn : n < N) (hN : N < 2147483648) (k : Z lay t d (pc + 1) ls (.int (I a n) :: st) I J Q) : Z lay t d pc ls (.int i :: .ref a :: st) I J Q := by
  intro l dC dI cI cJ cR ad p e s m args below meth c A H locs lsr C K hA P D S L
  subst hi
  refine va_iald C.1 C.2.1 K.1 P a 0 (zW_get hl) rfl (vp_in_nI hn hN) hd ?_
  rw [nI_clamp (Nat.lt_trans hn hN)]
  exact k l dC dI cI cJ cR ad p e s m args below meth c A H locs lsr C K hA P D S L
theorem z_laload {a n N : Nat} {i : Int32} (hd : decode t.2.1 pc = .ok (.laload, 1)) (hl : lay[a]? = some (.inr (.inr (.inl N)))) (hi : i = nI n) (hn : n < N) (hN : N < 2147483648) (k : Z lay t d (pc + 1) ls (.long (J a n) :: st) I J Q) : Z lay t d pc ls (.int i :: .ref a :: st) I J Q := by
  intro l dC dI cI cJ cR ad p e s m args below meth c A H locs lsr C K hA P D S L
  subst hi
  refine va_lald C.1 C.2.1 K.1 P a 1 (zW_get hl) rfl (vp_in_nI hn hN) hd ?_
  rw [nI_clamp (Nat.lt_trans hn hN)]
  exact k l dC dI cI cJ cR ad p e s m args below meth c A H locs lsr C K hA P D S L
theorem z_aaload {a b n : Nat} {i : Int32} {rs : List Nat} (hd : decode t.2.1 pc = .ok (.aaload, 1)) (hl : lay[a]? = some (.inr (.inr (.inr rs)))) (hi : i = nI n) (hn : rs[n]? = some b) (hN : rs.length < 2147483648) (k : Z lay t d (pc + 1) ls (.ref b :: st) I J Q) : Z lay t d pc ls (.int i :: .ref a :: st) I J Q := by
  intro l dC dI cI cJ cR ad p e s m args below meth c A H locs lsr C K hA P D S L
  subst hi
  have hlt : n < rs.length := (List.getElem?_eq_some_iff.mp hn).1
  refine W.aald (v := .ref (ad b)) (ty := .array .long) C.1 C.2.1 (P a _ (zW_get hl)) ((K.1.2 2 _ rfl).1 rs.length (fun j => va_rf ((rs[j]?).map ad))) rfl (fun q => by cases q) (by show ¬ (_ < 0 ∨ (arrV _ _ _).slots.size ≤ _); rw [arrV_size]; exact vp_in_nI hlt hN) (by show (arrV _ _ _).slots[_]? = _; rw [nI_clamp (Nat.lt_trans hlt hN), arrV_read _ _ hlt]; show some (va_rf (Option.map ad rs[n]?)) = _; rw [hn]; rfl) rfl rfl hd (k l dC dI cI cJ cR ad p e s m args below meth c A H locs lsr C K hA P D S L)
theorem z_iastore {a n N : Nat} {i x : Int32} (hd : decode t.2.1 pc = .ok (.iastore, 1)) (hl : lay[a]? = some (.inr (.inl N))) (hi : i = nI n) (hn : n < N) (hN : N < 2147483648) (k : Z lay t d (pc + 1) ls st (zup I a n x) J Q) : Z lay t d pc ls (.int x :: .int i :: .ref a :: st) I J Q := by
  intro l dC dI cI cJ cR ad p e' s m args below meth c A H locs lsr C K hA P D S L
  subst hi
  refine va_iast C.1 C.2.1 K.1 P D S a 0 (zW_get hl) rfl (vp_in_nI hn hN) hd (fun H1 locs1 P1 D1 S1 => ?_)
  have e := zW_set (cI := cI) (cJ := cJ) (cR := cR) (ad := ad) (I := I) (I' := zup I a n x) (J := J) (J' := J) (e := .inl (cI, N, .inl (upd (I a) (nI n).toNatClampNeg x))) hl (by
    rw [nI_clamp (Nat.lt_trans hn hN)]
    show (Sum.inl (cI, N, .inl (zup I a n x a)) : va_E) = _
    congr 4
    funext j
    simp [zup, upd]) (fun b d h => zcell_oI b d h)
  have P2 : va_P (dC, dI) zcls (zW cI cJ cR ad lay (zup I a n x) J) H1 := by rw [← e]; exact P1
  exact k l dC dI cI cJ cR ad p e' s m args below meth c A H1 locs1 lsr C K hA P2 (zW_D D) S1 L
theorem z_lastore {a n N : Nat} {i : Int32} {x : Int64} (hd : decode t.2.1 pc = .ok (.lastore, 1)) (hl : lay[a]? = some (.inr (.inr (.inl N)))) (hi : i = nI n) (hn : n < N) (hN : N < 2147483648) (k : Z lay t d (pc + 1) ls st I (zup J a n x) Q) : Z lay t d pc ls (.long x :: .int i :: .ref a :: st) I J Q := by
  intro l dC dI cI cJ cR ad p e' s m args below meth c A H locs lsr C K hA P D S L
  subst hi
  refine va_last C.1 C.2.1 K.1 P D S a 1 (zW_get hl) rfl (vp_in_nI hn hN) hd (fun H1 locs1 P1 D1 S1 => ?_)
  have e := zW_set (cI := cI) (cJ := cJ) (cR := cR) (ad := ad) (I := I) (I' := I) (J := J) (J' := zup J a n x) (e := .inl (cJ, N, .inr (.inl (vp_updL (J a) (nI n).toNatClampNeg x)))) hl (by
    rw [nI_clamp (Nat.lt_trans hn hN)]
    show (Sum.inl (cJ, N, .inr (.inl (zup J a n x a))) : va_E) = _
    congr 5
    funext j
    simp [zup, vp_updL]) (fun b d h => zcell_oJ b d h)
  have P2 : va_P (dC, dI) zcls (zW cI cJ cR ad lay I (zup J a n x)) H1 := by rw [← e]; exact P1
  exact k l dC dI cI cJ cR ad p e' s m args below meth c A H1 locs1 lsr C K hA P2 (zW_D D) S1 L
theorem z_alenI {a N : Nat} (hd : decode t.2.1 pc = .ok (.arraylength, 1)) (hl : lay[a]? = some (.inr (.inl N))) (k : Z lay t d (pc + 1) ls (.int (nI N) :: st) I J Q) : Z lay t d pc ls (.ref a :: st) I J Q :=
  fun l dC dI cI cJ cR ad p e s m args below meth c A H locs lsr C K hA P D S L => va_alen C.1 C.2.1 K.1 P a 0 (zW_get hl) rfl rfl hd (k l dC dI cI cJ cR ad p e s m args below meth c A H locs lsr C K hA P D S L)
theorem z_alenJ {a N : Nat} (hd : decode t.2.1 pc = .ok (.arraylength, 1)) (hl : lay[a]? = some (.inr (.inr (.inl N)))) (k : Z lay t d (pc + 1) ls (.int (nI N) :: st) I J Q) : Z lay t d pc ls (.ref a :: st) I J Q :=
  fun l dC dI cI cJ cR ad p e s m args below meth c A H locs lsr C K hA P D S L => va_alen C.1 C.2.1 K.1 P a 1 (zW_get hl) rfl rfl hd (k l dC dI cI cJ cR ad p e s m args below meth c A H locs lsr C K hA P D S L)
theorem z_copyI {idx a b i j n N M : Nat} {x y w : Int32} (hd : decode t.2.1 pc = .ok (.invokestatic idx, 3)) (hlk : Cond.methodLink t.1.cls idx arraycopyName ∈ zTb) (hl : lay[a]? = some (.inr (.inl N))) (hm : lay[b]? = some (.inr (.inl M))) (hx : x = nI i) (hy : y = nI j) (hw : w = nI n) (h4 : i + n ≤ N) (h5 : j + n ≤ M) (hN : N < 2147483648) (hM : M < 2147483648) (hdd : 1 ≤ d) (hr : (st.map fun v => v.category).sum ≤ 8) (k : Z lay t d (pc + 3) ls st (zcp I a i b j n) (J) Q) : Z lay t d pc ls (.int w :: .int y :: .ref b :: .int x :: .ref a :: st) I J Q := by
  intro l dC dI cI cJ cR ad p e' s m args below meth c A H locs lsr C K hA P D S L
  subst hx
  subst hy
  subst hw
  have ei : (nI i).toNatClampNeg = i := nI_clamp (by omega)
  have ej : (nI j).toNatClampNeg = j := nI_clamp (by omega)
  have en : (nI n).toNatClampNeg = n := nI_clamp (by omega)
  refine va_copyi C.1 C.2.1 (by obtain ⟨h1, lv, h2, h3⟩ := L; rw [C.2.2.1]; exact h2.1.symm) C.2.2.2.2.1 (C.2.2.2.2.2.1 _ hlk) (C.2.2.2.2.2.1 _ zNat) (C.2.2.2.2.2.1 _ zSta) (C.2.2.2.2.2.1 _ zIni) K.1 P D S a b 0 0 (zW_get hl) (zW_get hm) rfl rfl rfl (nI_pos (by omega)) (nI_pos (by omega)) (nI_pos (by omega)) (by rw [ei, en]; exact h4) (by rw [ej, en]; exact h5) (fun _ _ => rfl) hdd ?_ hd (fun H1 locs1 P1 D1 S1 => ?_)
  · rw [zrf_cats]
    show _ + (nativeFrameWords "java/lang/System" "arraycopy" 5 + 11) ≤ 60 * d
    have h9 : nativeFrameWords "java/lang/System" "arraycopy" 5 = 7 := by decide
    omega
  · have e := zW_set (cI := cI) (cJ := cJ) (cR := cR) (ad := ad) (I := I) (I' := zcp I a i b j n) (J := J) (J' := J) (e := .inl (cI, M, .inl (va_cpy (I a) (I b) (nI i).toNatClampNeg (nI j).toNatClampNeg (nI n).toNatClampNeg))) hm (by
      rw [ei, ej, en]
      show (Sum.inl (cI, M, .inl (zcp I a i b j n b)) : va_E) = _
      congr 4
      funext q
      simp [zcp, va_cpy]) (fun q d h => zcell_cI q d h)
    have P2 : va_P (dC, dI) zcls (zW cI cJ cR ad lay (zcp I a i b j n) (J)) H1 := by rw [← e]; exact P1
    exact k l dC dI cI cJ cR ad p e' s m args below meth c A H1 locs1 lsr C K hA P2 (zW_D D) S1 L
theorem z_copyJ {idx a b i j n N M : Nat} {x y w : Int32} (hd : decode t.2.1 pc = .ok (.invokestatic idx, 3)) (hlk : Cond.methodLink t.1.cls idx arraycopyName ∈ zTb) (hl : lay[a]? = some (.inr (.inr (.inl N)))) (hm : lay[b]? = some (.inr (.inr (.inl M)))) (hx : x = nI i) (hy : y = nI j) (hw : w = nI n) (h4 : i + n ≤ N) (h5 : j + n ≤ M) (hN : N < 2147483648) (hM : M < 2147483648) (hdd : 1 ≤ d) (hr : (st.map fun v => v.category).sum ≤ 8) (k : Z lay t d (pc + 3) ls st (I) (zcp J a i b j n) Q) : Z lay t d pc ls (.int w :: .int y :: .ref b :: .int x :: .ref a :: st) I J Q := by
  intro l dC dI cI cJ cR ad p e' s m args below meth c A H locs lsr C K hA P D S L
  subst hx
  subst hy
  subst hw
  have ei : (nI i).toNatClampNeg = i := nI_clamp (by omega)
  have ej : (nI j).toNatClampNeg = j := nI_clamp (by omega)
  have en : (nI n).toNatClampNeg = n := nI_clamp (by omega)
  refine va_copyl C.1 C.2.1 (by obtain ⟨h1, lv, h2, h3⟩ := L; rw [C.2.2.1]; exact h2.1.symm) C.2.2.2.2.1 (C.2.2.2.2.2.1 _ hlk) (C.2.2.2.2.2.1 _ zNat) (C.2.2.2.2.2.1 _ zSta) (C.2.2.2.2.2.1 _ zIni) K.1 P D S a b 1 1 (zW_get hl) (zW_get hm) rfl rfl rfl (nI_pos (by omega)) (nI_pos (by omega)) (nI_pos (by omega)) (by rw [ei, en]; exact h4) (by rw [ej, en]; exact h5) (fun _ _ => rfl) hdd ?_ hd (fun H1 locs1 P1 D1 S1 => ?_)
  · rw [zrf_cats]
    show _ + (nativeFrameWords "java/lang/System" "arraycopy" 5 + 11) ≤ 60 * d
    have h9 : nativeFrameWords "java/lang/System" "arraycopy" 5 = 7 := by decide
    omega
  · have e := zW_set (cI := cI) (cJ := cJ) (cR := cR) (ad := ad) (I := I) (I' := I) (J := J) (J' := zcp J a i b j n) (e := .inl (cJ, M, .inr (.inl (va_cpy (J a) (J b) (nI i).toNatClampNeg (nI j).toNatClampNeg (nI n).toNatClampNeg)))) hm (by
      rw [ei, ej, en]
      show (Sum.inl (cJ, M, .inr (.inl (zcp J a i b j n b))) : va_E) = _
      congr 5
      funext q
      simp [zcp, va_cpy]) (fun q d h => zcell_cJ q d h)
    have P2 : va_P (dC, dI) zcls (zW cI cJ cR ad lay (I) (zcp J a i b j n)) H1 := by rw [← e]; exact P1
    exact k l dC dI cI cJ cR ad p e' s m args below meth c A H1 locs1 lsr C K hA P2 (zW_D D) S1 L
theorem z_iret {v : Int32} (hd : decode t.2.1 pc = .ok (.ireturn, 1)) (hr : t.2.2.2 = some .int) (hq : Q (.int v) I J) : Z lay t d pc ls [.int v] I J Q :=
  fun l dC dI cI cJ cR ad p e s m args below meth c A H locs lsr C K hA P D S L => W.iret (v := v) C.1 C.2.1 (C.2.2.2.1.trans hr) (fun u hu hW => ⟨⟨.int v, I, J, rfl, hq, by rw [hu]; exact P⟩, S.F hu⟩) S.2.2 hd C.2.2.2.2.2.2
theorem z_lret {v : Int64} (hd : decode t.2.1 pc = .ok (.lreturn, 1)) (hr : t.2.2.2 = some .long) (hq : Q (.long v) I J) : Z lay t d pc ls [.long v] I J Q :=
  fun l dC dI cI cJ cR ad p e s m args below meth c A H locs lsr C K hA P D S L => W.lret (v := v) C.1 C.2.1 (C.2.2.2.1.trans hr) (fun u hu hW => ⟨⟨.long v, I, J, rfl, hq, by rw [hu]; exact P⟩, S.F hu⟩) S.2.2 hd C.2.2.2.2.2.2
theorem z_zret {v : Int32} (hd : decode t.2.1 pc = .ok (.ireturn, 1)) (hr : t.2.2.2 = some .boolean) (hv : v = 0 ∨ v = 1) (hq : Q (.int v) I J) : Z lay t d pc ls [.int v] I J Q :=
  fun l dC dI cI cJ cR ad p e s m args below meth c A H locs lsr C K hA P D S L => W.zret (v := v) C.1 C.2.1 (C.2.2.2.1.trans hr) (by rcases hv with rfl | rfl <;> rfl) (fun u hu hW => ⟨⟨.int v, I, J, rfl, hq, by rw [hu]; exact P⟩, S.F hu⟩) S.2.2 hd C.2.2.2.2.2.2
theorem z_vret (hd : decode t.2.1 pc = .ok (.return_, 1)) (hr : t.2.2.2 = none) (hq : Q .null I J) : Z lay t d pc ls [] I J Q :=
  fun l dC dI cI cJ cR ad p e s m args below meth c A H locs lsr C K hA P D S L => W.vret C.1 C.2.1 (C.2.2.2.1.trans hr) (fun u hu hW => ⟨⟨.null, I, J, rfl, hq, by rw [hu]; exact P⟩, S.F hu⟩) S.2.2 hd C.2.2.2.2.2.2
end ZR
section ZC
variable {p : Program} {l : Launch} {e : Env} {R : Room} {s : State} {m : MethodId} {args : Array Value} {below : List Frame} {meth : Method} {c : Code} {H : Heap} {locs : List Loc} {cells slots : Nat} {QQ : State → Prop}
variable {dC : Nat → ClassId} {dI : Nat → Nat → Nat} {cI cJ cR : ClassId} {ad : Nat → Nat} {lay : List zL} {A0 A1 : Nat → Prop} {Q : Value → zI → zJ → Prop} {H0 : Heap} {free : Addr → Prop} {a : Array Value} {pc : Nat} {lsr : Array Slot} {rest st0 : List Value}
theorem va_callz (hr : va_Run p l e R s m args below meth c H locs cells slots 0 0 (F0 m pc lsr st0) rest (zQo dC dI cI cJ cR ad lay A1 Q a) free) (hS : va_S A0 H0 H locs) (hA : ∀ q, q < H.size → A1 q → A0 q) (hf : ∀ q, free q → A0 q)
    (kk : ∀ (r : Value) (I : zI) (J : zJ) (H1 : Heap) (locs1 : List Loc), Q r I J → va_P (dC, dI) zcls (zW cI cJ cR ad lay I J) H1 → va_S A0 H0 H1 locs1 → W p l e R s m args below meth c H1 locs1 cells slots QQ (F0 m (pc + 3) lsr (((zov r).map (zrf ad)).toList ++ rest))) : W p l e R s m args below meth c H locs cells slots QQ (F0 m pc lsr st0) := by
  intro T hT X
  obtain ⟨v, st₀, t, T', L, h0, X', hL, e1, e2, ⟨⟨r, I, J, hv, hp, hb⟩, hz, hk⟩, st⟩ := hr T hT X
  cases hv
  rw [h0] at hz hk
  obtain ⟨t2, a1, b1⟩ := kk r I J T'.heap (locs ++ L) hp (by rw [e1]; exact hb)
    ⟨Nat.le_trans hS.1 (by rw [e1]; exact hz), fun q h1 h2 => by rw [e1, hk q (Nat.lt_of_lt_of_le h1 hS.1) (fun z => h2 (hA q (Nat.lt_of_lt_of_le h1 hS.1) z))]; exact hS.2.1 q h1 h2, fun q hq => by
      rcases List.mem_append.mp hq with h | h
      · exact hS.2.2 q h
      · exact hf _ (hL q h)⟩ T' rfl X'
  exact ⟨t2, st t2 a1, b1⟩
end ZC
theorem zW_free {cI cJ cR : ClassId} {ad : Nat → Nat} {lay : List zL} {I : zI} {J : zJ} {A : Nat → Prop} {H0 H : Heap} {locs : List Loc} (hD : va_D A (zW cI cJ cR ad lay I J)) (hS : va_S A H0 H locs) (hA : ∀ q : Nat, H0.size ≤ q → A q) : ∀ q, va_A (zW cI cJ cR ad lay I J) H.size q → A q := by
  intro q h
  rcases h with ⟨k, e, h⟩ | h
  · exact hD.2 k _ h
  · exact hA q (Nat.le_trans hS.1 h)
theorem zov_map (ad : Nat → Nat) (r : Value) (rest : List Value) : ((zov r).toList ++ rest).map (zrf ad) = ((zov r).map (zrf ad)).toList ++ rest.map (zrf ad) := by
  cases r <;> rfl
def zMth (t : zM) (n : Nat) : Prop := Cond.code t.1 t.2.1 t.2.2.1 t.2.2.2 ∈ zTb ∧ Cond.initialized t.1.cls ∈ zTb ∧ (t.1.cls ≠ "java/lang/invoke/MethodHandle" ∧ t.1.cls ≠ "java/lang/invoke/VarHandle" ∧ (parseMethodDescriptor t.1.desc).map (fun d => d.parameters.length) = some n) ∧ t.2.2.1 ≤ 40
theorem zws_good {t : zM} (h : Cond.code t.1 t.2.1 t.2.2.1 t.2.2.2 ∈ zTb) : GoodIn zTb (zws t) := by
  intro w hw
  rcases List.mem_cons.mp hw with rfl | hw
  · exact ⟨h, good_of_word (zTb_in h).2⟩
  · exact ⟨hw, good_of_word (zTb_in hw).2⟩
section ZR2
variable {lay : List zL} {t : zM} {d pc : Nat} {ls st : List Value} {I : zI} {J : zJ} {Q : Value → zI → zJ → Prop}
theorem z_callV {t' : zM} {d' n idx a ci : Nat} {fl : List Nat} {T : u_T} {N : Nat} {As rest : List Value} {Q' : Value → zI → zJ → Prop} (hM : zMet lay t' d' (.ref a :: As) I J Q') (hd : decode t.2.1 pc = .ok (.invokevirtual idx, 3)) (hlk : Cond.methodLink t.1.cls idx t'.1 ∈ zTb) (hm : zMth t' n) (hi : Cond.instanceMethod t'.1 ∈ zTb) (he : Cond.selects t'.1.cls t'.1 t'.1 ∈ zTb) (hn : As.length = n) (hdd : d' < d) (hla : lay[a]? = some (.inl (ci, fl))) (hci : zcls[ci]? = some (t'.1.cls, T, N)) (hst : st = As.reverse ++ .ref a :: rest) (hr : (rest.map fun v => v.category).sum ≤ 8)
    (kk : ∀ (r : Value) (I' : zI) (J' : zJ), Q' r I' J' → Z lay t d (pc + 3) ls ((zov r).toList ++ rest) I' J' Q) : Z lay t d pc ls st I J Q := by
  subst hst
  intro l dC dI cI cJ cR ad p e' s m args below meth c A H locs lsr C K hA P D S L
  obtain ⟨hm1, hm2, hm3, hm4⟩ := hm
  have hts := C.2.2.2.2.2.1
  have cw : CallW (zroom d) s args t.1.cls t'.1.cls idx t'.1 t'.2.1 t'.2.2.1 t'.2.2.2 (zws t') (zroom d') 0 0 n := ⟨callB_of n hts (zws_good hm1) rfl rfl rfl (hts _ hm2) (hts _ hlk) hm3 ⟨by show d' + 1 ≤ d; omega, by show 8 + (t'.2.2.1 + 11) + 60 * d' ≤ 60 * d; omega⟩, hts _ hi, hts _ he⟩
  have hfr := zW_free D S hA
  refine va_callz (dC := dC) (dI := dI) (cI := cI) (cJ := cJ) (cR := cR) (ad := ad) (lay := lay) (va_runV (As := As.map (zrf ad)) (rest := rest.map (zrf ad)) (C := t'.1.cls) (b := ad a) ⟨C.1, C.2.1, C.2.2.1, C.2.2.2.2.1, hts⟩ (hM l dC dI cI cJ cR ad H.size) cw ⟨?_, ?_, ?_⟩ rfl (by rw [List.length_map]; exact hn) (by obtain ⟨h1, lv, h2, h3⟩ := L; exact h2.1) (by simp [List.map_append, List.map_reverse, zrf]) (lv_room (by rw [zrf_cats]; exact hr)) hd ⟨Nat.le_refl 0, Nat.le_refl 0⟩) S (fun q _ h => hfr q h) hfr (fun r I' J' H1 locs1 hQ hP1 hS1 => ?_)
  · intro a U g mk q
    obtain ⟨q0, q1, q2, q3, q4⟩ := q
    exact ⟨q0, q1, q2, q3.blind, q4⟩
  · exact va_recv K.1 P hci (zW_get hla)
  · intro U hU hW
    refine ⟨rfl, by rw [hU], by rw [hU]; exact P, K.moved hW, D.weaken (fun _ _ _ _ => trivial)⟩
  · have k := kk r I' J' hQ l dC dI cI cJ cR ad p e' s m args below meth c A H1 locs1 lsr C K hA hP1 (zW_D D) hS1 L
    rw [zov_map] at k
    exact k
theorem z_callS {t' : zM} {d' n idx : Nat} {As rest : List Value} {Q' : Value → zI → zJ → Prop} (hM : zMet lay t' d' As I J Q') (hd : decode t.2.1 pc = .ok (.invokestatic idx, 3)) (hlk : Cond.methodLink t.1.cls idx t'.1 ∈ zTb) (hm : zMth t' n) (hi : Cond.static t'.1 ∈ zTb) (hn : As.length = n) (hdd : d' < d) (hst : st = As.reverse ++ rest) (hr : (rest.map fun v => v.category).sum ≤ 8)
    (kk : ∀ (r : Value) (I' : zI) (J' : zJ), Q' r I' J' → Z lay t d (pc + 3) ls ((zov r).toList ++ rest) I' J' Q) : Z lay t d pc ls st I J Q := by
  subst hst
  intro l dC dI cI cJ cR ad p e' s m args below meth c A H locs lsr C K hA P D S L
  obtain ⟨hm1, hm2, hm3, hm4⟩ := hm
  have hts := C.2.2.2.2.2.1
  have cw : CallB (zroom d) s args t.1.cls idx t'.1 t'.2.1 t'.2.2.1 t'.2.2.2 (zws t') (zroom d') 0 0 n ∧ (Cond.static t'.1).before args s = true := ⟨callB_of n hts (zws_good hm1) rfl rfl rfl (hts _ hm2) (hts _ hlk) hm3 ⟨by show d' + 1 ≤ d; omega, by show 8 + (t'.2.2.1 + 11) + 60 * d' ≤ 60 * d; omega⟩, hts _ hi⟩
  have hfr := zW_free D S hA
  refine va_callz (dC := dC) (dI := dI) (cI := cI) (cJ := cJ) (cR := cR) (ad := ad) (lay := lay) (va_runS (As := As.map (zrf ad)) (rest := rest.map (zrf ad)) ⟨C.1, C.2.1, C.2.2.1, C.2.2.2.2.1, hts⟩ (hM l dC dI cI cJ cR ad H.size) cw ⟨?_, ?_⟩ rfl (by rw [List.length_map]; exact hn) (by obtain ⟨h1, lv, h2, h3⟩ := L; exact h2.1) (by simp [List.map_append, List.map_reverse]) (lv_room (by rw [zrf_cats]; exact hr)) hd ⟨Nat.le_refl 0, Nat.le_refl 0⟩) S (fun q _ h => hfr q h) hfr (fun r I' J' H1 locs1 hQ hP1 hS1 => ?_)
  · intro a U g mk q
    obtain ⟨q0, q1, q2, q3, q4⟩ := q
    exact ⟨q0, q1, q2, q3.blind, q4⟩
  · intro U hU hW
    refine ⟨rfl, by rw [hU], by rw [hU]; exact P, K.moved hW, D.weaken (fun _ _ _ _ => trivial)⟩
  · have k := kk r I' J' hQ l dC dI cI cJ cR ad p e' s m args below meth c A H1 locs1 lsr C K hA hP1 (zW_D D) hS1 L
    rw [zov_map] at k
    exact k
/-- one of the four words on the outer class's private methods -/
def zNw (own : String) (idx : Nat) (y : MethodName) (host : String) : Prop := ∀ U : State, zNst U → va_Nw (.methodLinkNest own idx y host) U
theorem z_callN {t' : zM} {d' n idx : Nat} {host : String} {As rest : List Value} {Q' : Value → zI → zJ → Prop} (hM : zMet lay t' d' As I J Q') (hd : decode t.2.1 pc = .ok (.invokestatic idx, 3)) (hlk : zNw t.1.cls idx t'.1 host) (hm : zMth t' n) (hi : Cond.static t'.1 ∈ zTb) (hn : As.length = n) (hdd : d' < d) (hst : st = As.reverse ++ rest) (hr : (rest.map fun v => v.category).sum ≤ 8)
    (kk : ∀ (r : Value) (I' : zI) (J' : zJ), Q' r I' J' → Z lay t d (pc + 3) ls ((zov r).toList ++ rest) I' J' Q) : Z lay t d pc ls st I J Q := by
  subst hst
  intro l dC dI cI cJ cR ad p e' s m args below meth c A H locs lsr C K hA P D S L
  obtain ⟨hm1, hm2, hm3, hm4⟩ := hm
  have hts := C.2.2.2.2.2.1
  have cw : va_CN (zroom d) s args t.1.cls idx t'.1 host t'.2.1 t'.2.2.1 t'.2.2.2 (zws t') (zroom d') 0 0 n ∧ (Cond.static t'.1).before args s = true ∧ True := ⟨va_cnB n hts (zws_good hm1) rfl rfl rfl (hlk s K.2) (hts _ hm2) hm3 ⟨by show d' + 1 ≤ d; omega, by show 8 + (t'.2.2.1 + 11) + 60 * d' ≤ 60 * d; omega⟩, hts _ hi, trivial⟩
  have hfr := zW_free D S hA
  refine va_callz (dC := dC) (dI := dI) (cI := cI) (cJ := cJ) (cR := cR) (ad := ad) (lay := lay) (va_runSN (As := As.map (zrf ad)) (rest := rest.map (zrf ad)) ⟨C.1, C.2.1, C.2.2.1, C.2.2.2.2.1, hts⟩ (hM l dC dI cI cJ cR ad H.size) cw ⟨?_, ?_⟩ rfl (by rw [List.length_map]; exact hn) (by obtain ⟨h1, lv, h2, h3⟩ := L; exact h2.1) (by simp [List.map_append, List.map_reverse]) (lv_room (by rw [zrf_cats]; exact hr)) hd ⟨Nat.le_refl 0, Nat.le_refl 0⟩) S (fun q _ h => hfr q h) hfr (fun r I' J' H1 locs1 hQ hP1 hS1 => ?_)
  · intro a U g mk q
    obtain ⟨q0, q1, q2, q3, q4⟩ := q
    exact ⟨q0, q1, q2, q3.blind, q4⟩
  · intro U hU hW
    refine ⟨rfl, by rw [hU], by rw [hU]; exact P, K.moved hW, D.weaken (fun _ _ _ _ => trivial)⟩
  · have k := kk r I' J' hQ l dC dI cI cJ cR ad p e' s m args below meth c A H1 locs1 lsr C K hA hP1 (zW_D D) hS1 L
    rw [zov_map] at k
    exact k
theorem zN_101 : zNw RX4 101 yX9_oneIf "RakeTables" := fun _ h => h.1
theorem zN_70 : zNw RX4 70 yX9_place "RakeTables" := fun _ h => h.2.1
theorem zN_46 : zNw RX6 46 yX9_place "RakeTables" := fun _ h => h.2.2.1
theorem zN_56 : zNw RX7 56 yX9_place "RakeTables" := fun _ h => h.2.2.2
end ZR2
