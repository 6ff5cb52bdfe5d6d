/-! ===== layouts put together ===== -/
def zsh (b : Nat) : zL → zL
  | .inl (ci, fl) => .inl (ci, fl.map (fun f => if f < 2 then f else f + b))
  | .inr (.inr (.inr rs)) => .inr (.inr (.inr (rs.map (fun r => r + b))))
  | c => c
def zclo (n : Nat) : zL → Bool
  | .inl (_, fl) => fl.all (fun f => decide (f < n + 2))
  | .inr (.inr (.inr rs)) => rs.all (fun r => decide (r < n))
  | _ => true
def zWo (b : Nat) (cI cJ cR : ClassId) (ad : Nat → Nat) (lay : List zL) (I : zI) (J : zJ) : va_W := lay.mapIdx (fun a c => (ad (b + a), zcell cI cJ cR ad I J (b + a) c))
theorem zWo_0 {cI cJ cR : ClassId} {ad : Nat → Nat} {lay : List zL} {I : zI} {J : zJ} : zW cI cJ cR ad lay I J = zWo 0 cI cJ cR ad lay I J := by
  unfold zW zWo
  refine congrArg (fun g => List.mapIdx g lay) ?_
  funext a c
  rw [Nat.zero_add]
theorem zWo_app {b : Nat} {cI cJ cR : ClassId} {ad : Nat → Nat} {l1 l2 : List zL} {I : zI} {J : zJ} : zWo b cI cJ cR ad (l1 ++ l2) I J = zWo b cI cJ cR ad l1 I J ++ zWo (b + l1.length) cI cJ cR ad l2 I J := by
  unfold zWo
  rw [List.mapIdx_append]
  congr 1
  refine congrArg (fun g => List.mapIdx g l2) ?_
  funext a c
  rw [show b + l1.length + a = b + (a + l1.length) by omega]
theorem zcell_sh {n b a : Nat} {cI cJ cR : ClassId} {ad ad1 : Nat → Nat} {I I1 : zI} {J J1 : zJ} {c : zL} (hc : zclo n c = true) (ha : a < n) (h1 : ∀ x, x < n → ad (b + x) = ad1 x) (h2 : ∀ x, x < n → I (b + x) = I1 x) (h3 : ∀ x, x < n → J (b + x) = J1 x) : zcell cI cJ cR ad I J (b + a) (zsh b c) = zcell cI cJ cR ad1 I1 J1 a c := by
  rcases c with ⟨ci, fl⟩ | m | m | rs
  · have hf : ∀ f ∈ fl, f < n + 2 := fun f hf => of_decide_eq_true (List.all_eq_true.mp hc f hf)
    show (Sum.inr (ci, (fl.map (fun f => if f < 2 then f else f + b)).mapIdx (fun j f => zfv ad I J (b + a) j f)) : va_E) = Sum.inr (ci, fl.mapIdx (fun j f => zfv ad1 I1 J1 a j f))
    congr 2
    apply List.ext_getElem?
    intro j
    rw [List.getElem?_mapIdx, List.getElem?_mapIdx, List.getElem?_map]
    cases hj : fl[j]? with
    | none => rfl
    | some f =>
      have hlt := hf f (List.mem_of_getElem? hj)
      simp only [Option.map_some, Option.some.injEq]
      match f, hlt with
      | 0, _ => simp [zfv, h2 a ha]
      | 1, _ => simp [zfv, h3 a ha]
      | f + 2, hlt =>
        rw [if_neg (by omega), show f + 2 + b = (f + b) + 2 by omega]
        show Value.ref (ad (f + b)) = Value.ref (ad1 f)
        rw [Nat.add_comm f b, h1 f (by omega)]
  · show (Sum.inl (cI, m, Sum.inl (I (b + a))) : va_E) = _
    rw [h2 a ha]; rfl
  · show (Sum.inl (cJ, m, Sum.inr (Sum.inl (J (b + a)))) : va_E) = _
    rw [h3 a ha]; rfl
  · have hf : ∀ r ∈ rs, r < n := fun r hr => of_decide_eq_true (List.all_eq_true.mp hc r hr)
    show (Sum.inl (cR, (rs.map (fun r => r + b)).length, .inr (.inr (.inr (.inr (fun i => ((rs.map (fun r => r + b))[i]?).map ad))))) : va_E) = Sum.inl (cR, rs.length, .inr (.inr (.inr (.inr (fun i => (rs[i]?).map ad1)))))
    rw [List.length_map]
    have e9 : (fun i : Nat => ((rs.map (fun r => r + b))[i]?).map ad) = (fun i : Nat => (rs[i]?).map ad1) := by
      funext i
      rw [List.getElem?_map]
      cases hi : rs[i]? with
      | none => rfl
      | some r =>
        simp only [Option.map_some]
        rw [Nat.add_comm r b, h1 r (hf r (List.mem_of_getElem? hi))]
    rw [e9]
theorem zWo_sh {b : Nat} {cI cJ cR : ClassId} {ad ad1 : Nat → Nat} {l1 l2 : List zL} {I I1 : zI} {J J1 : zJ} (he : l2 = l1.map (zsh b)) (hc : ∀ c ∈ l1, zclo l1.length c = true) (h1 : ∀ x, x < l1.length → ad (b + x) = ad1 x) (h2 : ∀ x, x < l1.length → I (b + x) = I1 x) (h3 : ∀ x, x < l1.length → J (b + x) = J1 x) : zWo b cI cJ cR ad l2 I J = zW cI cJ cR ad1 l1 I1 J1 := by
  subst he
  unfold zWo zW
  apply List.ext_getElem?
  intro a
  rw [List.getElem?_mapIdx, List.getElem?_mapIdx, List.getElem?_map]
  cases ha : l1[a]? with
  | none => rfl
  | some c =>
    have hlt := (List.getElem?_eq_some_iff.mp ha).1
    simp only [Option.map_some, Option.some.injEq, Prod.mk.injEq]
    exact ⟨h1 a hlt, zcell_sh (hc c (List.mem_of_getElem? ha)) hlt h1 h2 h3⟩
theorem zWo_blk {b : Nat} {cI cJ cR : ClassId} {ad ad1 : Nat → Nat} {l0 l1 l2 : List zL} {I I1 : zI} {J J1 : zJ} {w : va_W} (h0 : w = zWo 0 cI cJ cR ad l0 I J) (hb : l0.length = b) (he : l2 = l1.map (zsh b)) (hc : ∀ c ∈ l1, zclo l1.length c = true) (h1 : ∀ x, x < l1.length → ad (b + x) = ad1 x) (h2 : ∀ x, x < l1.length → I (b + x) = I1 x) (h3 : ∀ x, x < l1.length → J (b + x) = J1 x) : w ++ zW cI cJ cR ad1 l1 I1 J1 = zWo 0 cI cJ cR ad (l0 ++ l2) I J := by
  rw [zWo_app, ← h0, Nat.zero_add, hb, zWo_sh he hc h1 h2 h3]
/-- a stretch from elsewhere -/
def zj {α : Type} (b n : Nat) (f1 f : Nat → α) : Nat → α := fun x => if b ≤ x ∧ x < b + n then f1 (x - b) else f x
theorem zj_i {α : Type} {b n : Nat} {f1 f : Nat → α} {x : Nat} (h : x < n) : zj b n f1 f (b + x) = f1 x := by
  unfold zj
  rw [if_pos (by omega), show b + x - b = x by omega]
theorem zj_o {α : Type} {b n : Nat} {f1 f : Nat → α} {x : Nat} (h : x < b ∨ b + n ≤ x) : zj b n f1 f x = f x := by
  unfold zj
  rw [if_neg (by omega)]
