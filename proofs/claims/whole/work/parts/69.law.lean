/-! ===== the law ===== -/
/-! THE CLAIM OUT OF ONE WALK OF THE LAW'S BODY. Your part is whole_start (and what it stands on); all else here is the same for every law, but numbers. -/
def R_law : String := "RakeTablesLaw"
def lw_P (b : Addr) (xs : List Int32) (args : Array Value) (s : State) : Prop := args = #[.ref b] ∧ s.IntsAt b xs ∧ xs.length ≤ 3072 ∧ (Jvm.Cond.and given_1 narrow_1).before args s = true
def lw_Q (_ : Array Value) (s : State) (o : Outcome) (t : State) : Prop := o = .returned (some (.int 1)) ∧ Framed s o t [] 600000 7302250
def lw_Z (below : List Frame) (a : Array Value) (s : State) : State → Prop := fun t => ∃ o, t.status = .running ∧ Ended t below o ∧ lw_Q a s o t
/-- the law's own end, with 1 on the stack, nothing written that was there before, its room as the claim has it -/
theorem lw_ret {p : Program} {l : Launch} {e : Env} {s : State} {m : MethodId} {below : List Frame} {meth : Method} {c : Code} {b : Nat} (hx : p.tables.exec = Jvm.exec) (hb : c.code = code) (hr : meth.sig.returnType = ret) (hlocks : meth.locks = false) {pc : Nat} {H : Heap} {ls : Array Slot} (hdg : decode code pc = .ok (.ireturn, 1)) : W p l e room_1 s m #[Value.ref b] below meth c H [] 600000 7302250 (lw_Z below #[Value.ref b] s) (F0 m pc ls [.int 1]) := by
  intro T hT X
  obtain ⟨fs, hret, hrun, hended, hW, hframe⟩ := X.leave (v := some (.int 1)) (hlocks := hlocks) (fun h => by rw [hr] at h; cases h)
  have hmeth' : T.vm.method? m = some meth := X.method'
  refine ⟨T.setFrames fs, ?_, .returned (some (.int 1)), hrun, hended, rfl, ⟨_, rfl⟩, hW, hframe⟩
  jvm_step X.here [X.here.top, hx, hb, hdg, hmeth', hr, ret, narrow_b1]
  (try refine ⟨rfl, ?_⟩); (try refine ⟨rfl, ?_⟩)
  first | (intro acts; rw [hret _ acts rfl rfl rfl]) | rw [hret _ _ rfl rfl rfl]
  exact Steps.refl _
/-- what holds at the law's entry: the machine, the code, the tables' words (any of lw_tbl by 'hts w (by decide +kernel)'), the script of L ints xs at the cell b, what the Statement gives of the start (any of its parts by flat_of_before) -/
def lw_At (p : Program) (s : State) (m : MethodId) (meth : Method) (c : Code) (b L : Nat) (xs : Nat → Int32) : Prop :=
  p.tables.exec = Jvm.exec ∧ c.code = code ∧ meth.sig.returnType = ret ∧ c.maxLocals = 4 ∧ s.vm.findClass R_law = some m.cls ∧ (∀ w ∈ lw_tbl, w.before #[Value.ref b] s = true) ∧ va_X b L xs s s.heap ∧ b < s.heap.size ∧ meth.locks = false ∧ (Jvm.Cond.and given_1 narrow_1).before #[Value.ref b] s = true

theorem v_fsize {S : zS} {r c : Int32} : ∃ w9, (fsize S r c).1 = .int w9 := by
  unfold fsize
  try unfold zite
  repeat' (first | exact ⟨_, rfl⟩ | split)
theorem v_ftell {S : zS} {i j v : Int32} : ∃ w9, (ftell S i j v).1 = .int w9 := by
  unfold ftell
  try unfold zite
  repeat' (first | exact ⟨_, rfl⟩ | split)
theorem v_fmark {S : zS} {i j v : Int32} : ∃ w9, (fmark S i j v).1 = .int w9 := by
  unfold fmark
  try unfold zite
  repeat' (first | exact ⟨_, rfl⟩ | split)
theorem v_fmargin {S : zS} {w l v : Int32} : ∃ w9, (fmargin S w l v).1 = .int w9 := by
  unfold fmargin
  try unfold zite
  repeat' (first | exact ⟨_, rfl⟩ | split)
theorem v_fthree {S : zS} {b : Nat} : ∃ w9, (fthree S b).1 = .int w9 := by
  unfold fthree
  try unfold zite
  repeat' (first | exact ⟨_, rfl⟩ | split)
theorem v_fof {S : zS} {i j w : Int32} : ∃ w9, (fof S i j w).1 = .int w9 := by
  unfold fof
  try unfold zite
  repeat' (first | exact ⟨_, rfl⟩ | split)
theorem v_fmarginOf {S : zS} {w l : Int32} : ∃ w9, (fmarginOf S w l).1 = .int w9 := by
  unfold fmarginOf
  try unfold zite
  repeat' (first | exact ⟨_, rfl⟩ | split)
theorem v_fbegin {S : zS}  : ∃ w9, (fbegin S ).1 = .int w9 := by
  unfold fbegin
  try unfold zite
  repeat' (first | exact ⟨_, rfl⟩ | split)
theorem v_ffeed {S : zS} {c : Int32} : ∃ w9, (ffeed S c).1 = .int w9 := by
  unfold ffeed
  try unfold zite
  repeat' (first | exact ⟨_, rfl⟩ | split)
theorem v_fread {S : zS}  : ∃ w9, (fread S ).1 = .int w9 := by
  unfold fread
  try unfold zite
  repeat' (first | exact ⟨_, rfl⟩ | split)
theorem v_ffit {S : zS} {w : Int32} : ∃ w9, (ffit S w).1 = .int w9 := by
  unfold ffit
  try unfold zite
  repeat' (first | exact ⟨_, rfl⟩ | split)
theorem v_frounds {S : zS} {v : Int32} : ∃ w9, (frounds S v).1 = .int w9 := by
  unfold frounds
  try unfold zite
  repeat' (first | exact ⟨_, rfl⟩ | split)
theorem v_fcell {S : zS} {i j p : Int32} : ∃ w9, (fcell S i j p).1 = .long w9 := by
  unfold fcell
  try unfold zite
  repeat' (first | exact ⟨_, rfl⟩ | split)
theorem v_fsum {S : zS} {w l p : Int32} : ∃ w9, (fsum S w l p).1 = .long w9 := by
  unfold fsum
  try unfold zite
  repeat' (first | exact ⟨_, rfl⟩ | split)
theorem v_fgap {S : zS} {w l p : Int32} : ∃ w9, (fgap S w l p).1 = .long w9 := by
  unfold fgap
  try unfold zite
  repeat' (first | exact ⟨_, rfl⟩ | split)
theorem v_ffar {S : zS}  : ∃ w9, (ffar S ).1 = .int w9 := by
  unfold ffar
  try unfold zite
  repeat' (first | exact ⟨_, rfl⟩ | split)
theorem v_ftold {S : zS} {w : Int32} : ∃ w9, (ftold S w).1 = .int w9 := by
  unfold ftold
  try unfold zite
  repeat' (first | exact ⟨_, rfl⟩ | split)
theorem v_frounded {S : zS} {i j : Int32} : ∃ w9, (frounded S i j).1 = .int w9 := by
  unfold frounded
  try unfold zite
  repeat' (first | exact ⟨_, rfl⟩ | split)
theorem v_ftogether {S : zS} {w l : Int32} : ∃ w9, (ftogether S w l).1 = .int w9 := by
  unfold ftogether
  try unfold zite
  repeat' (first | exact ⟨_, rfl⟩ | split)
theorem v_forders {S : zS}  : ∃ w9, (forders S ).1 = .long w9 := by
  unfold forders
  try unfold zite
  repeat' (first | exact ⟨_, rfl⟩ | split)
theorem v_frank {S : zS} {k : Int32} : ∃ w9, (frank S k).1 = .int w9 := by
  unfold frank
  try unfold zite
  repeat' (first | exact ⟨_, rfl⟩ | split)
theorem v_fcross {S : zS} {i k j l p : Int32} : ∃ w9, (fcross S i k j l p).1 = .long w9 := by
  unfold fcross
  try unfold zite
  repeat' (first | exact ⟨_, rfl⟩ | split)
theorem v_flist {S : zS} {m o most : Nat} {i j v : Int32} : ∃ w9, (flist S m o most i j v).1 = .int w9 := by
  unfold flist
  try unfold zite
  repeat' (first | exact ⟨_, rfl⟩ | split)
theorem v_flooked {S : zS}  : ∃ w9, (flooked S ).1 = .int w9 := by
  unfold flooked
  try unfold zite
  repeat' (first | exact ⟨_, rfl⟩ | split)
theorem v_ffitting {S : zS} {i j w : Int32} : ∃ w9, (ffitting S i j w).1 = .int w9 := by
  unfold ffitting
  try unfold zite
  repeat' (first | exact ⟨_, rfl⟩ | split)
theorem v_fodds {S : zS} {i j p : Int32} : ∃ w9, (fodds S i j p).1 = .long w9 := by
  unfold fodds
  try unfold zite
  repeat' (first | exact ⟨_, rfl⟩ | split)
theorem v_fmean {S : zS} {p : Int32} : ∃ w9, (fmean S p).1 = .long w9 := by
  unfold fmean
  try unfold zite
  repeat' (first | exact ⟨_, rfl⟩ | split)
theorem v_fevent {S : zS} {w v : Int32} : ∃ w9, (fevent S w v).1 = .int w9 := by
  unfold fevent
  try unfold zite
  repeat' (first | exact ⟨_, rfl⟩ | split)
theorem v_fafter {S : zS} {w : Int32} : ∃ w9, (fafter S w).1 = .long w9 := by
  unfold fafter
  try unfold zite
  repeat' (first | exact ⟨_, rfl⟩ | split)
theorem v_fimage {S : zS}  : ∃ w9, (fimage S ).1 = .int w9 := by
  unfold fimage
  try unfold zite
  repeat' (first | exact ⟨_, rfl⟩ | split)
theorem v_fundo {S : zS}  : ∃ w9, (fundo S ).1 = .int w9 := by
  unfold fundo
  try unfold zite
  repeat' (first | exact ⟨_, rfl⟩ | split)
theorem v_fcount {S : zS} {w : Int32} : ∃ w9, (fcount S w).1 = .int w9 := by
  unfold fcount
  try unfold zite
  repeat' (first | exact ⟨_, rfl⟩ | split)
theorem v_ftape {S : zS} {t s n : Int32} : ∃ w9, (ftape S t s n).1 = .int w9 := by
  unfold ftape
  try unfold zite
  repeat' (first | exact ⟨_, rfl⟩ | split)
theorem v_fitem {S : zS} {t i : Int32} {v : Int64} : ∃ w9, (fitem S t i v).1 = .int w9 := by
  unfold fitem
  try unfold zite
  repeat' (first | exact ⟨_, rfl⟩ | split)
theorem v_fpeek {S : zS} {t i : Int32} : ∃ w9, (fpeek S t i).1 = .long w9 := by
  unfold fpeek
  try unfold zite
  repeat' (first | exact ⟨_, rfl⟩ | split)
theorem v_fshift {S : zS} {t i u j n : Int32} : ∃ w9, (fshift S t i u j n).1 = .int w9 := by
  unfold fshift
  try unfold zite
  repeat' (first | exact ⟨_, rfl⟩ | split)
theorem v_fjudge {S : zS} {t i : Int32} : ∃ w9, (fjudge S t i).1 = .int w9 := by
  unfold fjudge
  try unfold zite
  repeat' (first | exact ⟨_, rfl⟩ | split)
abbrev ML : zM := (x, code, 4, ret)
def lawB (b L : Nat) (xs : Nat → Int32) : gB := fun ad A args s => args = #[Value.ref b] ∧ va_X b L xs s s.heap ∧ b < s.heap.size ∧ (∀ q, A q → s.heap.size ≤ q) ∧ ad 97 = b
def lawE : gE := fun _ _ _ _ _ _ _ below args s => lw_Z below args s
def GL (b L : Nat) (xs : Nat → Int32) (pc : Nat) (ls st : List Value) (I : zI) (J : zJ) : Prop := G room_1 600000 7302250 lawE (lawB b L xs) layA ML pc ls st I J
section GLR
variable {b L : Nat} {xs : Nat → Int32} {pc : Nat} {ls st : List Value} {I : zI} {J : zJ}
theorem gl_len (hd : decode code pc = .ok (.arraylength, 1)) (k : GL b L xs (pc + 1) ls (.int (nI L) :: st) I J) : GL b L xs pc ls (.ref 97 :: st) I J := by
  intro l dC dI cI cJ cR ad p e s m args below meth c A H locs lsr X C K hA P D S Lv
  obtain ⟨h1, h2, h3, h4, h5⟩ := id X
  show W p l e room_1 s m args below meth c H locs 600000 7302250 _ (F0 m pc lsr (Value.ref (ad 97) :: st.map (zrf ad)))
  rw [h5]
  exact va_slen C.1 C.2.1 h2 h3 (fun q => by have := h4 b q; omega) S hd (k l dC dI cI cJ cR ad p e s m args below meth c A H locs lsr X C K hA P D S Lv)
theorem gl_ld {i : Nat} {v : Int32} (hd : decode code pc = .ok (.iaload, 1)) (hL : L ≤ 3072) (hi : i < L) (hv : v = nI i) (k : GL b L xs (pc + 1) ls (.int (xs i) :: st) I J) : GL b L xs pc ls (.int v :: .ref 97 :: st) I J := by
  subst hv
  intro l dC dI cI cJ cR ad p e s m args below meth c A H locs lsr X C K hA P D S Lv
  obtain ⟨h1, h2, h3, h4, h5⟩ := id X
  show W p l e room_1 s m args below meth c H locs 600000 7302250 _ (F0 m pc lsr (Value.int (nI i) :: Value.ref (ad 97) :: st.map (zrf ad)))
  rw [h5]
  refine va_sld C.1 C.2.1 h2 h3 (fun q => by have := h4 b q; omega) S (vp_in_nI hi (by omega)) hd ?_
  rw [nI_clamp (by omega)]
  exact k l dC dI cI cJ cR ad p e s m args below meth c A H locs lsr X C K hA P D S Lv
theorem gl_ret (hd : decode code pc = .ok (.ireturn, 1)) : GL b L xs pc ls [.int 1] I J := by
  intro l dC dI cI cJ cR ad p e s m args below meth c A H locs lsr X C K hA P D S Lv
  obtain ⟨h1, h2, h3, h4, h5⟩ := X
  subst h1
  exact va_forget (fun q hq => h4 _ (S.2.2 q hq)) (lw_ret C.1 C.2.1 C.2.2.2.1 C.2.2.2.2.2.2 hd)
/-- the script's i + j-th, on the stack -/
theorem gl_arg {i j : Nat} {n : Int} {r1 r2 : Value} (d1 : decode code pc = .ok (.aload_n 0, 1)) (d2 : decode code (pc + 1) = .ok (.iload_n 3, 1)) (d3 : decode code (pc + 2) = .ok (.iconst n, 1)) (d4 : decode code (pc + 3) = .ok (.iadd, 1)) (d5 : decode code (pc + 4) = .ok (.iaload, 1)) (hn : Int32.ofInt n = nI j) (hL : L ≤ 3072) (hi : i + j < L) (k : GL b L xs (pc + 5) [.ref 97, r1, r2, .int (nI i)] (.int (xs (i + j)) :: st) I J) : GL b L xs pc [.ref 97, r1, r2, .int (nI i)] st I J := by
  refine g_aload_n (t := ML) d1 rfl rfl ?_
  refine g_iload_n (t := ML) d2 rfl rfl ?_
  refine g_iconst (t := ML) d3 hn ?_
  refine g_iadd (t := ML) d4 ?_
  exact gl_ld d5 hL hi (nI_add i j) k
end GLR
theorem law_sw (v : Int32) : (∃ k, k < 38 ∧ v = nI k) ∨ (v.toInt < 0 ∨ 37 < v.toInt) := by
  by_cases h1 : v.toInt < 0
  · exact Or.inr (Or.inl h1)
  by_cases h2 : 37 < v.toInt
  · exact Or.inr (Or.inr h2)
  refine Or.inl ⟨v.toInt.toNat, by omega, Int32.toInt_inj.mp ?_⟩
  rw [nI_toInt (by omega)]
  omega
