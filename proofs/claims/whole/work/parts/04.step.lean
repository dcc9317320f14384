/-! A step of the picture is a step of the machine -/
def zGo (l : Launch) (b S0 : Nat) (D : va_G) (cI c3 c4 : ClassId) (mi : Nat) (p : Program) (e : Env) (R : Room) (s : State) (m : MethodId) (args : Array Value) (below : List Frame) (meth : Method) (c : Code) (M0 : zMem) (Q : State → Prop) (pc : Nat) (ls : zLS) (st : List Value) (M : zMem) : Prop :=
  ∀ (H : Heap) (locs : List Loc) (lsA : Array Slot), zLR b S0 mi lsA ls → zwf M → va_P D vwCl (zW b S0 cI c3 c4 M) H → va_S (fun q : Nat => S0 ≤ q) s.heap H locs → M0.1 ≤ M.1 → M0.2.1 ≤ M.2.1 → mget M 0 = mget M0 0 →
    W p l e R s m args below meth c H locs (M.1 - M0.1) (M.2.1 - M0.2.1) Q (F0 m pc lsA (st.map (ztr b S0)))
theorem z_sz {p : Program} {l : Launch} {e : Env} {R : Room} {s : State} {m : MethodId} {args : Array Value} {below : List Frame} {meth : Method} {c : Code} {H : Heap} {locs : List Loc} {cells slots : Nat} {Q : State → Prop} {g : JFrame} (h : H.size ≤ s.heap.size + cells → W p l e R s m args below meth c H locs cells slots Q g) : W p l e R s m args below meth c H locs cells slots Q g :=
  fun T hT X => h (by rw [← hT]; exact X.heapSize) T hT X
theorem zno {mi : Nat} {i : Instr} {st : List Value} {M : zMem} {x : zC ⊕ (zC × (zR → zC))} (h : (match zretv mi i st with | some v => some (Sum.inl (v, M)) | none => none : zA) = some (.inr x)) : False := by
  split at h
  · cases h
  · cases h
theorem zJ_inj {mi pc : Nat} {ls : zLS} {st : List Value} {M : zMem} {mi' pc' : Nat} {ls' : zLS} {st' : List Value} {M' : zMem} (h : zJ mi pc ls st M = some (.inr (.inl (mi', pc', ls', st', M')))) : mi' = mi ∧ pc' = pc ∧ ls' = ls ∧ st' = st ∧ M' = M := by
  cases h
  exact ⟨rfl, rfl, rfl, rfl, rfl⟩
theorem zld_inv {q : Value → Bool} {k n mi pc : Nat} {ls : zLS} {st : List Value} {M : zMem} {mi' pc' : Nat} {ls' : zLS} {st' : List Value} {M' : zMem} (h : zld q k n mi pc ls st M = some (.inr (.inl (mi', pc', ls', st', M')))) : ∃ v, ls[k]? = some (some v) ∧ q v = true ∧ mi' = mi ∧ pc' = pc + n ∧ ls' = ls ∧ st' = v :: st ∧ M' = M := by
  unfold zld at h
  split at h
  · rename_i v hv
    split at h
    · rename_i hq
      obtain ⟨h1, h2, h3, h4, h5⟩ := zJ_inj h
      exact ⟨v, hv, hq, h1, h2, h3, h4, h5⟩
    · cases h
  · cases h
theorem zst1_inv {q : Value → Bool} {k n mi pc : Nat} {ls : zLS} {st : List Value} {M : zMem} {mi' pc' : Nat} {ls' : zLS} {st' : List Value} {M' : zMem} (h : zst1 q k n mi pc ls st M = some (.inr (.inl (mi', pc', ls', st', M')))) : ∃ v r, st = v :: r ∧ q v = true ∧ k < ls.length ∧ mi' = mi ∧ pc' = pc + n ∧ ls' = zs1 mi ls k v ∧ st' = r ∧ M' = M := by
  unfold zst1 at h
  split at h
  · split at h
    · rename_i hq
      obtain ⟨h1, h2, h3, h4, h5⟩ := zJ_inj h
      exact ⟨_, _, rfl, hq.1, hq.2, h1, h2, h3, h4, h5⟩
    · cases h
  · cases h
theorem zst2_inv {k n mi pc : Nat} {ls : zLS} {st : List Value} {M : zMem} {mi' pc' : Nat} {ls' : zLS} {st' : List Value} {M' : zMem} (h : zst2 k n mi pc ls st M = some (.inr (.inl (mi', pc', ls', st', M')))) : ∃ v r, st = v :: r ∧ zkL v = true ∧ k + 1 < ls.length ∧ zhl mi = true ∧ mi' = mi ∧ pc' = pc + n ∧ ls' = zs2 ls k v ∧ st' = r ∧ M' = M := by
  unfold zst2 at h
  split at h
  · split at h
    · rename_i hq
      obtain ⟨h1, h2, h3, h4, h5⟩ := zJ_inj h
      exact ⟨_, _, rfl, hq.1, hq.2.1, hq.2.2, h1, h2, h3, h4, h5⟩
    · cases h
  · cases h
theorem zbi_inv {f : Int32 → Int32 → Int32} {mi pc : Nat} {ls : zLS} {st : List Value} {M : zMem} {mi' pc' : Nat} {ls' : zLS} {st' : List Value} {M' : zMem} (h : zbi f mi pc ls st M = some (.inr (.inl (mi', pc', ls', st', M')))) : ∃ x y r, st = .int y :: .int x :: r ∧ mi' = mi ∧ pc' = pc + 1 ∧ ls' = ls ∧ st' = .int (f x y) :: r ∧ M' = M := by
  unfold zbi at h
  split at h
  · obtain ⟨h1, h2, h3, h4, h5⟩ := zJ_inj h
    exact ⟨_, _, _, rfl, h1, h2, h3, h4, h5⟩
  · cases h
theorem zdi_inv {f : Int32 → Int32 → Int32} {mi pc : Nat} {ls : zLS} {st : List Value} {M : zMem} {mi' pc' : Nat} {ls' : zLS} {st' : List Value} {M' : zMem} (h : zdi f mi pc ls st M = some (.inr (.inl (mi', pc', ls', st', M')))) : ∃ x y r, st = .int y :: .int x :: r ∧ ¬ y = 0 ∧ mi' = mi ∧ pc' = pc + 1 ∧ ls' = ls ∧ st' = .int (f x y) :: r ∧ M' = M := by
  unfold zdi at h
  split at h
  · split at h
    · cases h
    · rename_i hy
      obtain ⟨h1, h2, h3, h4, h5⟩ := zJ_inj h
      exact ⟨_, _, _, rfl, hy, h1, h2, h3, h4, h5⟩
  · cases h
theorem zbl_inv {f : Int64 → Int64 → Int64} {mi pc : Nat} {ls : zLS} {st : List Value} {M : zMem} {mi' pc' : Nat} {ls' : zLS} {st' : List Value} {M' : zMem} (h : zbl f mi pc ls st M = some (.inr (.inl (mi', pc', ls', st', M')))) : ∃ x y r, st = .long y :: .long x :: r ∧ mi' = mi ∧ pc' = pc + 1 ∧ ls' = ls ∧ st' = .long (f x y) :: r ∧ M' = M := by
  unfold zbl at h
  split at h
  · obtain ⟨h1, h2, h3, h4, h5⟩ := zJ_inj h
    exact ⟨_, _, _, rfl, h1, h2, h3, h4, h5⟩
  · cases h
theorem zdl_inv {f : Int64 → Int64 → Int64} {mi pc : Nat} {ls : zLS} {st : List Value} {M : zMem} {mi' pc' : Nat} {ls' : zLS} {st' : List Value} {M' : zMem} (h : zdl f mi pc ls st M = some (.inr (.inl (mi', pc', ls', st', M')))) : ∃ x y r, st = .long y :: .long x :: r ∧ ¬ y = 0 ∧ mi' = mi ∧ pc' = pc + 1 ∧ ls' = ls ∧ st' = .long (f x y) :: r ∧ M' = M := by
  unfold zdl at h
  split at h
  · split at h
    · cases h
    · rename_i hy
      obtain ⟨h1, h2, h3, h4, h5⟩ := zJ_inj h
      exact ⟨_, _, _, rfl, hy, h1, h2, h3, h4, h5⟩
  · cases h
theorem zui_inv {f : Int32 → Value} {mi pc : Nat} {ls : zLS} {st : List Value} {M : zMem} {mi' pc' : Nat} {ls' : zLS} {st' : List Value} {M' : zMem} (h : zui f mi pc ls st M = some (.inr (.inl (mi', pc', ls', st', M')))) : ∃ x r, st = .int x :: r ∧ mi' = mi ∧ pc' = pc + 1 ∧ ls' = ls ∧ st' = f x :: r ∧ M' = M := by
  unfold zui at h
  split at h
  · obtain ⟨h1, h2, h3, h4, h5⟩ := zJ_inj h
    exact ⟨_, _, rfl, h1, h2, h3, h4, h5⟩
  · cases h
theorem ztg_of {pc t : Nat} {off : Int} (h : ztg pc off = some t) : (pc : Int) + off = (t : Int) := by
  unfold ztg at h
  split at h
  · cases h
    omega
  · cases h
theorem zkI_of {v : Value} (h : zkI v = true) : ∃ x, v = .int x := by cases v <;> first | exact ⟨_, rfl⟩ | cases h
theorem zkL_of {v : Value} (h : zkL v = true) : ∃ x, v = .long x := by cases v <;> first | exact ⟨_, rfl⟩ | cases h
theorem zkA_of {v : Value} (h : zkA v = true) : v = .null ∨ ∃ x, v = .ref x := by cases v <;> first | exact Or.inr ⟨_, rfl⟩ | exact Or.inl rfl | cases h
theorem zlen_of {i : Instr} {n len : Nat} (h : zlen i = len ∨ zlen i = 0) (hn : zlen i = n) (h0 : n ≠ 0) : len = n := by omega
def zpure : Instr → Bool
  | .getfield _ | .putfield _ | .iaload | .iastore | .arraylength | .aaload | .aastore | .newarray _ | .anewarray _ | .new _ | .invokevirtual _ | .invokestatic _ | .invokespecial _ => false
  | _ => true
section ZS
variable {l : Launch} {b S0 : Nat} {D : va_G} {cI c3 c4 : ClassId} {mi : Nat} {p : Program} {e : Env} {R : Room} {s : State} {m : MethodId} {args : Array Value} {below : List Frame} {meth : Method} {c : Code} {M0 : zMem} {Q : State → Prop} {pc pc' len : Nat} {ls ls' : zLS} {st st' : List Value} {M M' : zMem}
set_option maxHeartbeats 4000000 in
/-- the steps that touch no cell -/
theorem zstepA (hC : zCx b S0 D cI c3 c4 mi p R s m args meth c) {i : Instr} (hd : decode (zbyt mi) pc = .ok (i, len)) (hlen : zlen i = len ∨ zlen i = 0) {mi' : Nat} (hs : sti i mi pc ls st M = some (.inr (.inl (mi', pc', ls', st', M'))))
    (hpu : zpure i = true)
    (hG : zGo l b S0 D cI c3 c4 mi p e R s m args below meth c M0 Q pc' ls' st' M') : mi' = mi ∧ zGo l b S0 D cI c3 c4 mi p e R s m args below meth c M0 Q pc ls st M := by
  obtain ⟨hx, hb, hml, hown, hts, hK, hbS, hS0, hfr, hlo, hin⟩ := hC
  cases i with
  | aconst_null =>
    obtain ⟨rfl, rfl, rfl, rfl, rfl⟩ := zJ_inj hs
    obtain rfl := zlen_of (n := 1) hlen rfl (by decide)
    exact ⟨rfl, fun H locs lsA a1 a2 a3 a4 a5 a6 a7 => lv_null hx hb hd (hG H locs lsA a1 a2 a3 a4 a5 a6 a7)⟩
  | iconst n =>
    obtain ⟨rfl, rfl, rfl, rfl, rfl⟩ := zJ_inj hs
    obtain rfl := zlen_of (n := 1) hlen rfl (by decide)
    exact ⟨rfl, fun H locs lsA a1 a2 a3 a4 a5 a6 a7 => lv_iconst hx hb hd rfl (hG H locs lsA a1 a2 a3 a4 a5 a6 a7)⟩
  | lconst n =>
    obtain ⟨rfl, rfl, rfl, rfl, rfl⟩ := zJ_inj hs
    obtain rfl := zlen_of (n := 1) hlen rfl (by decide)
    exact ⟨rfl, fun H locs lsA a1 a2 a3 a4 a5 a6 a7 => lv_lconst hx hb hd rfl (hG H locs lsA a1 a2 a3 a4 a5 a6 a7)⟩
  | bipush n =>
    obtain ⟨rfl, rfl, rfl, rfl, rfl⟩ := zJ_inj hs
    obtain rfl := zlen_of (n := 2) hlen rfl (by decide)
    exact ⟨rfl, fun H locs lsA a1 a2 a3 a4 a5 a6 a7 => lv_bipush hx hb hd rfl (hG H locs lsA a1 a2 a3 a4 a5 a6 a7)⟩
  | sipush n =>
    obtain ⟨rfl, rfl, rfl, rfl, rfl⟩ := zJ_inj hs
    obtain rfl := zlen_of (n := 3) hlen rfl (by decide)
    exact ⟨rfl, fun H locs lsA a1 a2 a3 a4 a5 a6 a7 => lv_sipush hx hb hd rfl (hG H locs lsA a1 a2 a3 a4 a5 a6 a7)⟩
  | ldc_w k =>
    simp only [sti] at hs
    split at hs
    · rename_i v hv
      obtain ⟨rfl, rfl, rfl, rfl, rfl⟩ := zJ_inj hs
      obtain rfl := zlen_of (n := 3) hlen rfl (by decide)
      exact ⟨rfl, fun H locs lsA a1 a2 a3 a4 a5 a6 a7 => lv_ldcw hx hb hown (hts _ (zcI_of hv)) hd (hG H locs lsA a1 a2 a3 a4 a5 a6 a7)⟩
    · cases hs
  | ldc2_w k =>
    simp only [sti] at hs
    split at hs
    · rename_i v hv
      obtain ⟨rfl, rfl, rfl, rfl, rfl⟩ := zJ_inj hs
      obtain rfl := zlen_of (n := 3) hlen rfl (by decide)
      exact ⟨rfl, fun H locs lsA a1 a2 a3 a4 a5 a6 a7 => lv_ldc2 hx hb hown (hts _ (zcL_of hv)) hd (hG H locs lsA a1 a2 a3 a4 a5 a6 a7)⟩
    · cases hs
  | iload k =>
    obtain ⟨v, hv, hq, rfl, rfl, rfl, rfl, rfl⟩ := zld_inv hs
    obtain ⟨x, rfl⟩ := zkI_of hq
    obtain rfl := zlen_of (n := 2) hlen rfl (by decide)
    exact ⟨rfl, fun H locs lsA a1 a2 a3 a4 a5 a6 a7 => lv_iload hx hb hd (a1.2.2.1 _ _ hv) (hG H locs lsA a1 a2 a3 a4 a5 a6 a7)⟩
  | iload_n k =>
    obtain ⟨v, hv, hq, rfl, rfl, rfl, rfl, rfl⟩ := zld_inv hs
    obtain ⟨x, rfl⟩ := zkI_of hq
    obtain rfl := zlen_of (n := 1) hlen rfl (by decide)
    exact ⟨rfl, fun H locs lsA a1 a2 a3 a4 a5 a6 a7 => lv_iload_n hx hb hd rfl (a1.2.2.1 _ _ hv) (hG H locs lsA a1 a2 a3 a4 a5 a6 a7)⟩
  | lload k =>
    obtain ⟨v, hv, hq, rfl, rfl, rfl, rfl, rfl⟩ := zld_inv hs
    obtain ⟨x, rfl⟩ := zkL_of hq
    obtain rfl := zlen_of (n := 2) hlen rfl (by decide)
    exact ⟨rfl, fun H locs lsA a1 a2 a3 a4 a5 a6 a7 => lv_lload hx hb hd (a1.2.2.1 _ _ hv) (hG H locs lsA a1 a2 a3 a4 a5 a6 a7)⟩
  | lload_n k =>
    obtain ⟨v, hv, hq, rfl, rfl, rfl, rfl, rfl⟩ := zld_inv hs
    obtain ⟨x, rfl⟩ := zkL_of hq
    obtain rfl := zlen_of (n := 1) hlen rfl (by decide)
    exact ⟨rfl, fun H locs lsA a1 a2 a3 a4 a5 a6 a7 => lv_lload_n hx hb hd rfl (a1.2.2.1 _ _ hv) (hG H locs lsA a1 a2 a3 a4 a5 a6 a7)⟩
  | aload k =>
    obtain ⟨v, hv, hq, rfl, rfl, rfl, rfl, rfl⟩ := zld_inv hs
    obtain rfl := zlen_of (n := 2) hlen rfl (by decide)
    rcases zkA_of hq with rfl | ⟨x, rfl⟩
    · exact ⟨rfl, fun H locs lsA a1 a2 a3 a4 a5 a6 a7 => lv_aloadN hx hb hd (a1.2.2.1 _ _ hv) (hG H locs lsA a1 a2 a3 a4 a5 a6 a7)⟩
    · exact ⟨rfl, fun H locs lsA a1 a2 a3 a4 a5 a6 a7 => lv_aload hx hb hd (a1.2.2.1 _ _ hv) (hG H locs lsA a1 a2 a3 a4 a5 a6 a7)⟩
  | aload_n k =>
    obtain ⟨v, hv, hq, rfl, rfl, rfl, rfl, rfl⟩ := zld_inv hs
    obtain rfl := zlen_of (n := 1) hlen rfl (by decide)
    rcases zkA_of hq with rfl | ⟨x, rfl⟩
    · exact ⟨rfl, fun H locs lsA a1 a2 a3 a4 a5 a6 a7 => lv_aload_nN hx hb hd rfl (a1.2.2.1 _ _ hv) (hG H locs lsA a1 a2 a3 a4 a5 a6 a7)⟩
    · exact ⟨rfl, fun H locs lsA a1 a2 a3 a4 a5 a6 a7 => lv_aload_n hx hb hd rfl (a1.2.2.1 _ _ hv) (hG H locs lsA a1 a2 a3 a4 a5 a6 a7)⟩
  | istore k =>
    obtain ⟨v, r, rfl, hq, hk, rfl, rfl, rfl, rfl, rfl⟩ := zst1_inv hs
    obtain ⟨x, rfl⟩ := zkI_of hq
    obtain rfl := zlen_of (n := 2) hlen rfl (by decide)
    exact ⟨rfl, fun H locs lsA a1 a2 a3 a4 a5 a6 a7 => lv_istore hx hb hd a1.has (by rw [← a1.1]; exact hk) rfl (fun lsB hB => hG H locs lsB (a1.st1 (v := .int x) rfl hk hB) a2 a3 a4 a5 a6 a7)⟩
  | istore_n k =>
    obtain ⟨v, r, rfl, hq, hk, rfl, rfl, rfl, rfl, rfl⟩ := zst1_inv hs
    obtain ⟨x, rfl⟩ := zkI_of hq
    obtain rfl := zlen_of (n := 1) hlen rfl (by decide)
    exact ⟨rfl, fun H locs lsA a1 a2 a3 a4 a5 a6 a7 => lv_istore_n hx hb hd rfl a1.has (by rw [← a1.1]; exact hk) rfl (fun lsB hB => hG H locs lsB (a1.st1 (v := .int x) rfl hk hB) a2 a3 a4 a5 a6 a7)⟩
  | lstore k =>
    obtain ⟨v, r, rfl, hq, hk, hh, rfl, rfl, rfl, rfl, rfl⟩ := zst2_inv hs
    obtain ⟨x, rfl⟩ := zkL_of hq
    obtain rfl := zlen_of (n := 2) hlen rfl (by decide)
    exact ⟨rfl, fun H locs lsA a1 a2 a3 a4 a5 a6 a7 => lv_lstore hx hb hd a1.has (by rw [← a1.1]; exact hk) rfl (fun lsB hB => hG H locs lsB (a1.st2 (v := .long x) hh hk hB) a2 a3 a4 a5 a6 a7)⟩
  | lstore_n k =>
    obtain ⟨v, r, rfl, hq, hk, hh, rfl, rfl, rfl, rfl, rfl⟩ := zst2_inv hs
    obtain ⟨x, rfl⟩ := zkL_of hq
    obtain rfl := zlen_of (n := 1) hlen rfl (by decide)
    exact ⟨rfl, fun H locs lsA a1 a2 a3 a4 a5 a6 a7 => lv_lstore_n hx hb hd rfl a1.has (by rw [← a1.1]; exact hk) rfl (fun lsB hB => hG H locs lsB (a1.st2 (v := .long x) hh hk hB) a2 a3 a4 a5 a6 a7)⟩
  | astore k =>
    obtain ⟨v, r, rfl, hq, hk, rfl, rfl, rfl, rfl, rfl⟩ := zst1_inv hs
    obtain rfl := zlen_of (n := 2) hlen rfl (by decide)
    rcases zkA_of hq with rfl | ⟨x, rfl⟩
    · exact ⟨rfl, fun H locs lsA a1 a2 a3 a4 a5 a6 a7 => lv_astoreN hx hb hd a1.has (by rw [← a1.1]; exact hk) rfl (fun lsB hB => hG H locs lsB (a1.st1 (v := .null) rfl hk hB) a2 a3 a4 a5 a6 a7)⟩
    · exact ⟨rfl, fun H locs lsA a1 a2 a3 a4 a5 a6 a7 => lv_astore hx hb hd a1.has (by rw [← a1.1]; exact hk) rfl (fun lsB hB => hG H locs lsB (a1.st1 (v := .ref x) rfl hk hB) a2 a3 a4 a5 a6 a7)⟩
  | astore_n k =>
    obtain ⟨v, r, rfl, hq, hk, rfl, rfl, rfl, rfl, rfl⟩ := zst1_inv hs
    obtain rfl := zlen_of (n := 1) hlen rfl (by decide)
    rcases zkA_of hq with rfl | ⟨x, rfl⟩
    · exact ⟨rfl, fun H locs lsA a1 a2 a3 a4 a5 a6 a7 => lv_astore_nN hx hb hd rfl a1.has (by rw [← a1.1]; exact hk) rfl (fun lsB hB => hG H locs lsB (a1.st1 (v := .null) rfl hk hB) a2 a3 a4 a5 a6 a7)⟩
    · exact ⟨rfl, fun H locs lsA a1 a2 a3 a4 a5 a6 a7 => lv_astore_n hx hb hd rfl a1.has (by rw [← a1.1]; exact hk) rfl (fun lsB hB => hG H locs lsB (a1.st1 (v := .ref x) rfl hk hB) a2 a3 a4 a5 a6 a7)⟩
  | iinc k n =>
    simp only [sti] at hs
    split at hs
    · rename_i x hv
      obtain ⟨rfl, rfl, rfl, rfl, rfl⟩ := zJ_inj hs
      obtain rfl := zlen_of (n := 3) hlen rfl (by decide)
      have hk : k < ls.length := (List.getElem?_eq_some_iff.mp hv).1
      refine ⟨rfl, fun H locs lsA a1 a2 a3 a4 a5 a6 a7 => ?_⟩
      obtain ⟨j, hj⟩ := List.getElem?_of_mem (zLl_mem (b := b) (S0 := S0) hv)
      exact lv_iinc hx hb hd a1.has hj rfl (by rw [← a1.1]; exact hk) rfl (fun lsB hB => hG H locs lsB (a1.st1 (v := .int (x + Int32.ofInt n)) rfl hk hB) a2 a3 a4 a5 a6 a7)
    · cases hs
  | iadd =>
    obtain ⟨x, y, r, rfl, rfl, rfl, rfl, rfl, rfl⟩ := zbi_inv hs
    obtain rfl := zlen_of (n := 1) hlen rfl (by decide)
    exact ⟨rfl, fun H locs lsA a1 a2 a3 a4 a5 a6 a7 => lv_iadd hx hb hd (hG H locs lsA a1 a2 a3 a4 a5 a6 a7)⟩
  | isub =>
    obtain ⟨x, y, r, rfl, rfl, rfl, rfl, rfl, rfl⟩ := zbi_inv hs
    obtain rfl := zlen_of (n := 1) hlen rfl (by decide)
    exact ⟨rfl, fun H locs lsA a1 a2 a3 a4 a5 a6 a7 => lv_isub hx hb hd (hG H locs lsA a1 a2 a3 a4 a5 a6 a7)⟩
  | imul =>
    obtain ⟨x, y, r, rfl, rfl, rfl, rfl, rfl, rfl⟩ := zbi_inv hs
    obtain rfl := zlen_of (n := 1) hlen rfl (by decide)
    exact ⟨rfl, fun H locs lsA a1 a2 a3 a4 a5 a6 a7 => lv_imul hx hb hd (hG H locs lsA a1 a2 a3 a4 a5 a6 a7)⟩
  | iand =>
    obtain ⟨x, y, r, rfl, rfl, rfl, rfl, rfl, rfl⟩ := zbi_inv hs
    obtain rfl := zlen_of (n := 1) hlen rfl (by decide)
    exact ⟨rfl, fun H locs lsA a1 a2 a3 a4 a5 a6 a7 => lv_iand hx hb hd (hG H locs lsA a1 a2 a3 a4 a5 a6 a7)⟩
  | ior =>
    obtain ⟨x, y, r, rfl, rfl, rfl, rfl, rfl, rfl⟩ := zbi_inv hs
    obtain rfl := zlen_of (n := 1) hlen rfl (by decide)
    exact ⟨rfl, fun H locs lsA a1 a2 a3 a4 a5 a6 a7 => lv_ior hx hb hd (hG H locs lsA a1 a2 a3 a4 a5 a6 a7)⟩
  | ixor =>
    obtain ⟨x, y, r, rfl, rfl, rfl, rfl, rfl, rfl⟩ := zbi_inv hs
    obtain rfl := zlen_of (n := 1) hlen rfl (by decide)
    exact ⟨rfl, fun H locs lsA a1 a2 a3 a4 a5 a6 a7 => lv_ixor hx hb hd (hG H locs lsA a1 a2 a3 a4 a5 a6 a7)⟩
  | ishl =>
    obtain ⟨x, y, r, rfl, rfl, rfl, rfl, rfl, rfl⟩ := zbi_inv hs
    obtain rfl := zlen_of (n := 1) hlen rfl (by decide)
    exact ⟨rfl, fun H locs lsA a1 a2 a3 a4 a5 a6 a7 => lv_ishl hx hb hd (hG H locs lsA a1 a2 a3 a4 a5 a6 a7)⟩
  | ishr =>
    obtain ⟨x, y, r, rfl, rfl, rfl, rfl, rfl, rfl⟩ := zbi_inv hs
    obtain rfl := zlen_of (n := 1) hlen rfl (by decide)
    exact ⟨rfl, fun H locs lsA a1 a2 a3 a4 a5 a6 a7 => lv_ishr hx hb hd (hG H locs lsA a1 a2 a3 a4 a5 a6 a7)⟩
  | iushr =>
    obtain ⟨x, y, r, rfl, rfl, rfl, rfl, rfl, rfl⟩ := zbi_inv hs
    obtain rfl := zlen_of (n := 1) hlen rfl (by decide)
    exact ⟨rfl, fun H locs lsA a1 a2 a3 a4 a5 a6 a7 => lv_iushr hx hb hd rfl (hG H locs lsA a1 a2 a3 a4 a5 a6 a7)⟩
  | idiv =>
    obtain ⟨x, y, r, rfl, hy, rfl, rfl, rfl, rfl, rfl⟩ := zdi_inv hs
    obtain rfl := zlen_of (n := 1) hlen rfl (by decide)
    exact ⟨rfl, fun H locs lsA a1 a2 a3 a4 a5 a6 a7 => lv_idiv hx hb hd hy (hG H locs lsA a1 a2 a3 a4 a5 a6 a7)⟩
  | irem =>
    obtain ⟨x, y, r, rfl, hy, rfl, rfl, rfl, rfl, rfl⟩ := zdi_inv hs
    obtain rfl := zlen_of (n := 1) hlen rfl (by decide)
    exact ⟨rfl, fun H locs lsA a1 a2 a3 a4 a5 a6 a7 => lv_irem hx hb hd hy (hG H locs lsA a1 a2 a3 a4 a5 a6 a7)⟩
  | ladd =>
    obtain ⟨x, y, r, rfl, rfl, rfl, rfl, rfl, rfl⟩ := zbl_inv hs
    obtain rfl := zlen_of (n := 1) hlen rfl (by decide)
    exact ⟨rfl, fun H locs lsA a1 a2 a3 a4 a5 a6 a7 => lv_ladd hx hb hd (hG H locs lsA a1 a2 a3 a4 a5 a6 a7)⟩
  | lsub =>
    obtain ⟨x, y, r, rfl, rfl, rfl, rfl, rfl, rfl⟩ := zbl_inv hs
    obtain rfl := zlen_of (n := 1) hlen rfl (by decide)
    exact ⟨rfl, fun H locs lsA a1 a2 a3 a4 a5 a6 a7 => lv_lsub hx hb hd (hG H locs lsA a1 a2 a3 a4 a5 a6 a7)⟩
  | lmul =>
    obtain ⟨x, y, r, rfl, rfl, rfl, rfl, rfl, rfl⟩ := zbl_inv hs
    obtain rfl := zlen_of (n := 1) hlen rfl (by decide)
    exact ⟨rfl, fun H locs lsA a1 a2 a3 a4 a5 a6 a7 => lv_lmul hx hb hd (hG H locs lsA a1 a2 a3 a4 a5 a6 a7)⟩
  | ldiv =>
    obtain ⟨x, y, r, rfl, hy, rfl, rfl, rfl, rfl, rfl⟩ := zdl_inv hs
    obtain rfl := zlen_of (n := 1) hlen rfl (by decide)
    exact ⟨rfl, fun H locs lsA a1 a2 a3 a4 a5 a6 a7 => lv_ldiv hx hb hd hy (hG H locs lsA a1 a2 a3 a4 a5 a6 a7)⟩
  | lrem =>
    obtain ⟨x, y, r, rfl, hy, rfl, rfl, rfl, rfl, rfl⟩ := zdl_inv hs
    obtain rfl := zlen_of (n := 1) hlen rfl (by decide)
    exact ⟨rfl, fun H locs lsA a1 a2 a3 a4 a5 a6 a7 => lv_lrem hx hb hd hy (hG H locs lsA a1 a2 a3 a4 a5 a6 a7)⟩
  | i2l =>
    obtain ⟨x, r, rfl, rfl, rfl, rfl, rfl, rfl⟩ := zui_inv hs
    obtain rfl := zlen_of (n := 1) hlen rfl (by decide)
    exact ⟨rfl, fun H locs lsA a1 a2 a3 a4 a5 a6 a7 => lv_i2l hx hb hd rfl (hG H locs lsA a1 a2 a3 a4 a5 a6 a7)⟩
  | i2b =>
    obtain ⟨x, r, rfl, rfl, rfl, rfl, rfl, rfl⟩ := zui_inv hs
    obtain rfl := zlen_of (n := 1) hlen rfl (by decide)
    exact ⟨rfl, fun H locs lsA a1 a2 a3 a4 a5 a6 a7 => lv_i2b hx hb hd rfl (hG H locs lsA a1 a2 a3 a4 a5 a6 a7)⟩
  | i2s =>
    obtain ⟨x, r, rfl, rfl, rfl, rfl, rfl, rfl⟩ := zui_inv hs
    obtain rfl := zlen_of (n := 1) hlen rfl (by decide)
    exact ⟨rfl, fun H locs lsA a1 a2 a3 a4 a5 a6 a7 => lv_i2s hx hb hd rfl (hG H locs lsA a1 a2 a3 a4 a5 a6 a7)⟩
  | lcmp =>
    simp only [sti] at hs
    split at hs
    · obtain ⟨rfl, rfl, rfl, rfl, rfl⟩ := zJ_inj hs
      obtain rfl := zlen_of (n := 1) hlen rfl (by decide)
      exact ⟨rfl, fun H locs lsA a1 a2 a3 a4 a5 a6 a7 => W.lcmp hx hb hd (hG H locs lsA a1 a2 a3 a4 a5 a6 a7)⟩
    · cases hs
  | dup =>
    match st, hs with
    | v :: r, hs =>
      by_cases hc : v.category = 1
      · simp only [sti, if_pos hc] at hs
        obtain ⟨rfl, rfl, rfl, rfl, rfl⟩ := zJ_inj hs
        obtain rfl := zlen_of (n := 1) hlen rfl (by decide)
        exact ⟨rfl, fun H locs lsA a1 a2 a3 a4 a5 a6 a7 => lv_dup hx hb hd ((ztr_cat _ _ _).trans hc) (hG H locs lsA a1 a2 a3 a4 a5 a6 a7)⟩
      · simp only [sti, if_neg hc] at hs
        cases hs
    | [], hs => cases hs
  | pop =>
    match st, hs with
    | v :: r, hs =>
      by_cases hc : v.category = 1
      · simp only [sti, if_pos hc] at hs
        obtain ⟨rfl, rfl, rfl, rfl, rfl⟩ := zJ_inj hs
        obtain rfl := zlen_of (n := 1) hlen rfl (by decide)
        exact ⟨rfl, fun H locs lsA a1 a2 a3 a4 a5 a6 a7 => lv_pop hx hb hd ((ztr_cat _ _ _).trans hc) (hG H locs lsA a1 a2 a3 a4 a5 a6 a7)⟩
      · simp only [sti, if_neg hc] at hs
        cases hs
    | [], hs => cases hs
  | dup2 =>
    match st, hs with
    | v :: w :: r, hs =>
      by_cases hc : v.category = 1 ∧ w.category = 1
      · simp only [sti, if_pos hc] at hs
        obtain ⟨rfl, rfl, rfl, rfl, rfl⟩ := zJ_inj hs
        obtain rfl := zlen_of (n := 1) hlen rfl (by decide)
        exact ⟨rfl, fun H locs lsA a1 a2 a3 a4 a5 a6 a7 => lv_dup2_11 hx hb hd ((ztr_cat _ _ _).trans hc.1) ((ztr_cat _ _ _).trans hc.2) (hG H locs lsA a1 a2 a3 a4 a5 a6 a7)⟩
      · simp only [sti, if_neg hc] at hs
        cases hs
    | [_], hs => cases hs
    | [], hs => cases hs
  | goto off =>
    simp only [sti] at hs
    split at hs
    · rename_i t ht
      obtain ⟨rfl, rfl, rfl, rfl, rfl⟩ := zJ_inj hs
      obtain rfl := zlen_of (n := 3) hlen rfl (by decide)
      exact ⟨rfl, fun H locs lsA a1 a2 a3 a4 a5 a6 a7 => lv_goto hx hb hd (ztg_of ht) (hG H locs lsA a1 a2 a3 a4 a5 a6 a7)⟩
    · cases hs
  | ifCond cd off =>
    simp only [sti] at hs
    split at hs
    · rename_i t x r ht
      obtain ⟨rfl, rfl, rfl, rfl, rfl⟩ := zJ_inj hs
      obtain rfl := zlen_of (n := 3) hlen rfl (by decide)
      refine ⟨rfl, fun H locs lsA a1 a2 a3 a4 a5 a6 a7 => ?_⟩
      have k := hG H locs lsA a1 a2 a3 a4 a5 a6 a7
      cases cd <;> simp only [zbr] at k
      · exact lv_if_eq hx hb hd (ztg_of ht) (fun h => by rwa [if_pos h] at k) (fun h => by rwa [if_neg h] at k)
      · exact lv_if_ne hx hb hd (ztg_of ht) (fun h => by rwa [if_neg h] at k) (fun h => by rwa [if_pos h] at k)
      · exact lv_if_lt hx hb hd (ztg_of ht) (fun h => by rwa [if_pos h] at k) (fun h => by rwa [if_neg h] at k)
      · exact lv_if_ge hx hb hd (ztg_of ht) (fun h => by rwa [if_pos h] at k) (fun h => by rwa [if_neg h] at k)
      · exact lv_if_gt hx hb hd (ztg_of ht) (fun h => by rwa [if_pos h] at k) (fun h => by rwa [if_neg h] at k)
      · exact lv_if_le hx hb hd (ztg_of ht) (fun h => by rwa [if_pos h] at k) (fun h => by rwa [if_neg h] at k)
    · cases hs
  | if_icmp cd off =>
    simp only [sti] at hs
    split at hs
    · rename_i t y x r ht
      obtain ⟨rfl, rfl, rfl, rfl, rfl⟩ := zJ_inj hs
      obtain rfl := zlen_of (n := 3) hlen rfl (by decide)
      refine ⟨rfl, fun H locs lsA a1 a2 a3 a4 a5 a6 a7 => ?_⟩
      have k := hG H locs lsA a1 a2 a3 a4 a5 a6 a7
      cases cd <;> simp only [zbr] at k
      · exact lv_icmp_eq hx hb hd (ztg_of ht) (fun h => by rwa [if_pos h] at k) (fun h => by rwa [if_neg h] at k)
      · exact lv_icmp_ne hx hb hd (ztg_of ht) (fun h => by rwa [if_neg h] at k) (fun h => by rwa [if_pos h] at k)
      · exact lv_icmp_lt hx hb hd (ztg_of ht) (fun h => by rwa [if_pos h] at k) (fun h => by rwa [if_neg h] at k)
      · exact lv_icmp_ge hx hb hd (ztg_of ht) (fun h => by rwa [if_pos h] at k) (fun h => by rwa [if_neg h] at k)
      · exact lv_icmp_gt hx hb hd (ztg_of ht) (fun h => by rwa [if_pos h] at k) (fun h => by rwa [if_neg h] at k)
      · exact lv_icmp_le hx hb hd (ztg_of ht) (fun h => by rwa [if_pos h] at k) (fun h => by rwa [if_neg h] at k)
    · cases hs
  | ifnull off =>
    simp only [sti] at hs
    split at hs
    · rename_i t r ht
      obtain ⟨rfl, rfl, rfl, rfl, rfl⟩ := zJ_inj hs
      obtain rfl := zlen_of (n := 3) hlen rfl (by decide)
      exact ⟨rfl, fun H locs lsA a1 a2 a3 a4 a5 a6 a7 => lv_ifnullN hx hb hd (ztg_of ht) (hG H locs lsA a1 a2 a3 a4 a5 a6 a7)⟩
    · rename_i t x r ht
      obtain ⟨rfl, rfl, rfl, rfl, rfl⟩ := zJ_inj hs
      obtain rfl := zlen_of (n := 3) hlen rfl (by decide)
      exact ⟨rfl, fun H locs lsA a1 a2 a3 a4 a5 a6 a7 => lv_ifnull hx hb hd (hG H locs lsA a1 a2 a3 a4 a5 a6 a7)⟩
    · cases hs
  | ifnonnull off =>
    simp only [sti] at hs
    split at hs
    · rename_i t r ht
      obtain ⟨rfl, rfl, rfl, rfl, rfl⟩ := zJ_inj hs
      obtain rfl := zlen_of (n := 3) hlen rfl (by decide)
      exact ⟨rfl, fun H locs lsA a1 a2 a3 a4 a5 a6 a7 => lv_ifnonnullN hx hb hd (hG H locs lsA a1 a2 a3 a4 a5 a6 a7)⟩
    · rename_i t x r ht
      obtain ⟨rfl, rfl, rfl, rfl, rfl⟩ := zJ_inj hs
      obtain rfl := zlen_of (n := 3) hlen rfl (by decide)
      exact ⟨rfl, fun H locs lsA a1 a2 a3 a4 a5 a6 a7 => lv_ifnonnull hx hb hd (ztg_of ht) (hG H locs lsA a1 a2 a3 a4 a5 a6 a7)⟩
    · cases hs
  | tableswitch d lo hi offs =>
    match st, hs with
    | .int x :: r, hs =>
      by_cases ho : x.toInt < lo ∨ hi < x.toInt
      · simp only [sti, if_pos ho] at hs
        split at hs
        · rename_i t ht
          obtain ⟨rfl, rfl, rfl, rfl, rfl⟩ := zJ_inj hs
          exact ⟨rfl, fun H locs lsA a1 a2 a3 a4 a5 a6 a7 => lv_tableOut hx hb hd ho (ztg_of ht) (hG H locs lsA a1 a2 a3 a4 a5 a6 a7)⟩
        · cases hs
      · simp only [sti, if_neg ho] at hs
        split at hs
        · rename_i off hoff
          split at hs
          · rename_i t ht
            obtain ⟨rfl, rfl, rfl, rfl, rfl⟩ := zJ_inj hs
            exact ⟨rfl, fun H locs lsA a1 a2 a3 a4 a5 a6 a7 => lv_tableIn hx hb hd (fun z => ho (Or.inl z)) (fun z => ho (Or.inr z)) hoff (ztg_of ht) (hG H locs lsA a1 a2 a3 a4 a5 a6 a7)⟩
          · cases hs
        · cases hs
    | [], hs => cases hs
    | .long _ :: _, hs => cases hs
    | .float _ :: _, hs => cases hs
    | .double _ :: _, hs => cases hs
    | .null :: _, hs => cases hs
    | .ref _ :: _, hs => cases hs
    | .retAddr _ :: _, hs => cases hs
  | getfield _ | putfield _ | iaload | iastore | arraylength | aaload | aastore | newarray _ | anewarray _ | new _ | invokevirtual _ | invokestatic _ | invokespecial _ => exact absurd hpu Bool.false_ne_true
  | _ =>
    simp only [sti] at hs
    split at hs <;> cases hs
end ZS
