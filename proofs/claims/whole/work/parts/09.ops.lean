/-! One law an instruction, for 'ev' -/
theorem stp_of {mi pc : Nat} {ls : zLS} {st : List Value} {M : zMem} {i : Instr} {len : Nat} (hd : decode (zbyt mi) pc = .ok (i, len)) (hl : zlen i = len ∨ zlen i = 0) : stp (mi, pc, ls, st, M) = sti i mi pc ls st M := by
  unfold stp
  rw [hd]
  exact if_pos hl
theorem ev_go {mi pc : Nat} {ls : zLS} {st : List Value} {M : zMem} {i : Instr} {len : Nat} {mi' pc' : Nat} {ls' : zLS} {st' : List Value} {M' : zMem} (hd : decode (zbyt mi) pc = .ok (i, len)) (hl : zlen i = len ∨ zlen i = 0) (h : sti i mi pc ls st M = zJ mi' pc' ls' st' M') : ev mi pc ls st M = ev mi' pc' ls' st' M' := ev_jump ((stp_of hd hl).trans h)
theorem ev_stuck {mi pc : Nat} {ls : zLS} {st : List Value} {M : zMem} (h : stp (mi, pc, ls, st, M) = none) : ev mi pc ls st M = none := by
  cases he : ev mi pc ls st M with
  | none => rfl
  | some r =>
    obtain ⟨f, hf⟩ := ev_iff.mp he
    cases f with
    | zero => cases hf
    | succ f =>
      rw [zrun, h] at hf
      cases hf
theorem ev_ite {mi t f : Nat} {ls : zLS} {st : List Value} {M : zMem} {c : Prop} {d : Decidable c} : ev mi (@ite _ c d t f) ls st M = @ite _ c d (ev mi t ls st M) (ev mi f ls st M) := by
  by_cases h : c
  · rw [if_pos h, if_pos h]
  · rw [if_neg h, if_neg h]
section OP
variable {mi pc : Nat} {ls : zLS} {st : List Value} {M : zMem}
theorem o_ireturn (hd : decode (zbyt mi) pc = .ok (.ireturn, 1)) (hr : zrt mi = some .int) {x : Int32} : ev mi pc ls [.int x] M = some (some (.int x), M) := ev_ret ((stp_of hd (Or.inl rfl)).trans (by simp only [sti, zretv, hr]))
theorem o_zreturn (hd : decode (zbyt mi) pc = .ok (.ireturn, 1)) (hr : zrt mi = some .boolean) {x : Int32} (hx : x = 0 ∨ x = 1) : ev mi pc ls [.int x] M = some (some (.int x), M) := ev_ret ((stp_of hd (Or.inl rfl)).trans (by simp only [sti, zretv, hr, if_pos hx]))
theorem o_lreturn (hd : decode (zbyt mi) pc = .ok (.lreturn, 1)) (hr : zrt mi = some .long) {x : Int64} : ev mi pc ls [.long x] M = some (some (.long x), M) := ev_ret ((stp_of hd (Or.inl rfl)).trans (by simp only [sti, zretv, hr]))
theorem o_return (hd : decode (zbyt mi) pc = .ok (.return_, 1)) (hr : zrt mi = none) : ev mi pc ls [] M = some (none, M) := ev_ret ((stp_of hd (Or.inl rfl)).trans (by simp only [sti, zretv, hr]))
theorem o_areturn (hd : decode (zbyt mi) pc = .ok (.areturn, 1)) {C : String} (hr : zrt mi = some (.object C)) {a : Nat} : ev mi pc ls [.ref a] M = some (some (.ref a), M) := ev_ret ((stp_of hd (Or.inl rfl)).trans (by simp only [sti, zretv, hr]))
theorem o_areturnN (hd : decode (zbyt mi) pc = .ok (.areturn, 1)) {C : String} (hr : zrt mi = some (.object C)) : ev mi pc ls [.null] M = some (some .null, M) := ev_ret ((stp_of hd (Or.inl rfl)).trans (by simp only [sti, zretv, hr]))
theorem o_getfield {k ci j : Nat} (hd : decode (zbyt mi) pc = .ok (.getfield k, 3)) (hf : zfl (zown mi) k = some (ci, j)) {a : Nat} : ev mi pc ls (.ref a :: st) M = if a = 0 then none else (zfd (mget M a) ci j).bind fun v => ev mi (pc + 3) ls (v :: st) M := by
  have h := stp_of (ls := ls) (st := .ref a :: st) (M := M) hd (Or.inl rfl)
  simp only [sti, hf] at h
  by_cases ha : a = 0
  · rw [if_pos ha] at h ⊢
    exact ev_stuck h
  · rw [if_neg ha] at h ⊢
    cases hv : zfd (mget M a) ci j with
    | none => rw [hv] at h; exact ev_stuck h
    | some v => rw [hv] at h; exact ev_jump h
theorem o_putfield {k ci j : Nat} (hd : decode (zbyt mi) pc = .ok (.putfield k, 3)) (hf : zfl (zown mi) k = some (ci, j)) (hfin : ¬ (((zT ci) j).2.2.2 = true ∧ (zini mi = false ∨ ((zT ci) j).1 ≠ zcn (zown mi)))) {a : Nat} {v : Value} : ev mi pc ls (v :: .ref a :: st) M = if a = 0 then none else (zpf (mget M a) ci j v).bind fun c => ev mi (pc + 3) ls st (mset M a c) := by
  have h := stp_of (ls := ls) (st := v :: .ref a :: st) (M := M) hd (Or.inl rfl)
  simp only [sti, hf] at h
  by_cases ha : a = 0
  · rw [if_pos ha] at h ⊢
    exact ev_stuck h
  · rw [if_neg ha] at h ⊢
    rw [if_neg hfin] at h
    cases hv : zpf (mget M a) ci j v with
    | none => rw [hv] at h; exact ev_stuck h
    | some v => rw [hv] at h; exact ev_jump h
theorem o_iaload (hd : decode (zbyt mi) pc = .ok (.iaload, 1)) {a : Nat} {i : Int32} : ev mi pc ls (.int i :: .ref a :: st) M = (zia (mget M a) i).bind fun x => ev mi (pc + 1) ls (.int x :: st) M := by
  have h := stp_of (ls := ls) (st := .int i :: .ref a :: st) (M := M) hd (Or.inl rfl)
  simp only [sti] at h
  cases hv : zia (mget M a) i with
  | none => rw [hv] at h; exact ev_stuck h
  | some v => rw [hv] at h; exact ev_jump h
theorem o_arraylength (hd : decode (zbyt mi) pc = .ok (.arraylength, 1)) {a : Nat} : ev mi pc ls (.ref a :: st) M = (zal (mget M a)).bind fun x => ev mi (pc + 1) ls (.int x :: st) M := by
  have h := stp_of (ls := ls) (st := .ref a :: st) (M := M) hd (Or.inl rfl)
  simp only [sti] at h
  cases hv : zal (mget M a) with
  | none => rw [hv] at h; exact ev_stuck h
  | some v => rw [hv] at h; exact ev_jump h
theorem o_iastore (hd : decode (zbyt mi) pc = .ok (.iastore, 1)) {a : Nat} {i x : Int32} : ev mi pc ls (.int x :: .int i :: .ref a :: st) M = if a = 0 then none else (zis (mget M a) i x).bind fun c => ev mi (pc + 1) ls st (mset M a c) := by
  have h := stp_of (ls := ls) (st := .int x :: .int i :: .ref a :: st) (M := M) hd (Or.inl rfl)
  simp only [sti] at h
  by_cases ha : a = 0
  · rw [if_pos ha] at h ⊢
    exact ev_stuck h
  · rw [if_neg ha] at h ⊢
    cases hv : zis (mget M a) i x with
    | none => rw [hv] at h; exact ev_stuck h
    | some v => rw [hv] at h; exact ev_jump h
theorem o_aaload (hd : decode (zbyt mi) pc = .ok (.aaload, 1)) {a : Nat} {i : Int32} : ev mi pc ls (.int i :: .ref a :: st) M = if a = 0 then none else (zaa (mget M a) i).bind fun v => ev mi (pc + 1) ls (v :: st) M := by
  have h := stp_of (ls := ls) (st := .int i :: .ref a :: st) (M := M) hd (Or.inl rfl)
  simp only [sti] at h
  by_cases ha : a = 0
  · rw [if_pos ha] at h ⊢
    exact ev_stuck h
  · rw [if_neg ha] at h ⊢
    cases hv : zaa (mget M a) i with
    | none => rw [hv] at h; exact ev_stuck h
    | some v => rw [hv] at h; exact ev_jump h
theorem o_aastore (hd : decode (zbyt mi) pc = .ok (.aastore, 1)) {a v : Nat} {i : Int32} : ev mi pc ls (.ref v :: .int i :: .ref a :: st) M = if a = 0 ∨ v = 0 then none else (zas (mget M a) i v (mget M v)).bind fun c => ev mi (pc + 1) ls st (mset M a c) := by
  have h := stp_of (ls := ls) (st := .ref v :: .int i :: .ref a :: st) (M := M) hd (Or.inl rfl)
  simp only [sti] at h
  by_cases ha : a = 0 ∨ v = 0
  · rw [if_pos ha] at h ⊢
    exact ev_stuck h
  · rw [if_neg ha] at h ⊢
    cases hv : zas (mget M a) i v (mget M v) with
    | none => rw [hv] at h; exact ev_stuck h
    | some v => rw [hv] at h; exact ev_jump h
theorem o_newarray (hd : decode (zbyt mi) pc = .ok (.newarray .int, 2)) {n : Int32} : ev mi pc ls (.int n :: st) M = if n < 0 ∨ 1000 < n.toNatClampNeg then none else ev mi (pc + 2) ls (.ref (M.1 + 1) :: st) (mnew M n.toNatClampNeg (.inl (n.toNatClampNeg, fun _ => 0))) := by
  have h := stp_of (ls := ls) (st := .int n :: st) (M := M) hd (Or.inl rfl)
  simp only [sti] at h
  by_cases ha : n < 0 ∨ 1000 < n.toNatClampNeg
  · rw [if_pos ha] at h ⊢
    exact ev_stuck h
  · rw [if_neg ha] at h ⊢
    exact ev_jump h
theorem o_anewarray {k ci : Nat} (hd : decode (zbyt mi) pc = .ok (.anewarray k, 3)) (hc : znc (zown mi) k = some ci) (h34 : ci = 3 ∨ ci = 4) {n : Int32} : ev mi pc ls (.int n :: st) M = if n < 0 ∨ 1000 < n.toNatClampNeg then none else ev mi (pc + 3) ls (.ref (M.1 + 1) :: st) (mnew M n.toNatClampNeg (.inr (.inl (ci, n.toNatClampNeg, fun _ => none)))) := by
  have h := stp_of (ls := ls) (st := .int n :: st) (M := M) hd (Or.inl rfl)
  simp only [sti, hc] at h
  by_cases ha : n < 0 ∨ 1000 < n.toNatClampNeg
  · rw [if_pos ha]
    rw [if_pos (by rcases ha with z | z; exact Or.inl z; exact Or.inr (Or.inl z))] at h
    exact ev_stuck h
  · rw [if_neg ha]
    rw [if_neg (by rintro (z | z | z); exact ha (Or.inl z); exact ha (Or.inr z); exact z h34)] at h
    exact ev_jump h
theorem o_new {k ci n : Nat} {vs : List Value} (hd : decode (zbyt mi) pc = .ok (.new k, 3)) (hc : znc (zown mi) k = some ci) (hn : zN ci = n) (hv : zdf ci = vs) : ev mi pc ls st M = ev mi (pc + 3) ls (.ref (M.1 + 1) :: st) (mnew M n (.inr (.inr (ci, vs)))) := by
  have h := stp_of (ls := ls) (st := st) (M := M) hd (Or.inl rfl)
  simp only [sti, hc, hn, hv] at h
  exact ev_jump h
theorem o_ldc2 {k : Nat} {v : Int64} (hd : decode (zbyt mi) pc = .ok (.ldc2_w k, 3)) (hc : zcL (zown mi) k = some v) : ev mi pc ls st M = ev mi (pc + 3) ls (.long v :: st) M := by
  have h := stp_of (ls := ls) (st := st) (M := M) hd (Or.inl rfl)
  simp only [sti, hc] at h
  exact ev_jump h
theorem o_ldcw {k : Nat} {v : Int32} (hd : decode (zbyt mi) pc = .ok (.ldc_w k, 3)) (hc : zcI (zown mi) k = some v) : ev mi pc ls st M = ev mi (pc + 3) ls (.int v :: st) M := by
  have h := stp_of (ls := ls) (st := st) (M := M) hd (Or.inl rfl)
  simp only [sti, hc] at h
  exact ev_jump h
theorem o_idiv (hd : decode (zbyt mi) pc = .ok (.idiv, 1)) {x y : Int32} : ev mi pc ls (.int y :: .int x :: st) M = if y = 0 then none else ev mi (pc + 1) ls (.int (x / y) :: st) M := by
  have h := stp_of (ls := ls) (st := .int y :: .int x :: st) (M := M) hd (Or.inl rfl)
  simp only [sti, zdi] at h
  by_cases ha : y = 0
  · rw [if_pos ha] at h ⊢
    exact ev_stuck h
  · rw [if_neg ha] at h ⊢
    exact ev_jump h
theorem o_irem (hd : decode (zbyt mi) pc = .ok (.irem, 1)) {x y : Int32} : ev mi pc ls (.int y :: .int x :: st) M = if y = 0 then none else ev mi (pc + 1) ls (.int (x % y) :: st) M := by
  have h := stp_of (ls := ls) (st := .int y :: .int x :: st) (M := M) hd (Or.inl rfl)
  simp only [sti, zdi] at h
  by_cases ha : y = 0
  · rw [if_pos ha] at h ⊢
    exact ev_stuck h
  · rw [if_neg ha] at h ⊢
    rw [irem_eq_mod] at h
    exact ev_jump h
theorem o_ldiv (hd : decode (zbyt mi) pc = .ok (.ldiv, 1)) {x y : Int64} : ev mi pc ls (.long y :: .long x :: st) M = if y = 0 then none else ev mi (pc + 1) ls (.long (x / y) :: st) M := by
  have h := stp_of (ls := ls) (st := .long y :: .long x :: st) (M := M) hd (Or.inl rfl)
  simp only [sti, zdl] at h
  by_cases ha : y = 0
  · rw [if_pos ha] at h ⊢
    exact ev_stuck h
  · rw [if_neg ha] at h ⊢
    exact ev_jump h
theorem o_lrem (hd : decode (zbyt mi) pc = .ok (.lrem, 1)) {x y : Int64} : ev mi pc ls (.long y :: .long x :: st) M = if y = 0 then none else ev mi (pc + 1) ls (.long (x - x / y * y) :: st) M := by
  have h := stp_of (ls := ls) (st := .long y :: .long x :: st) (M := M) hd (Or.inl rfl)
  simp only [sti, zdl] at h
  by_cases ha : y = 0
  · rw [if_pos ha] at h ⊢
    exact ev_stuck h
  · rw [if_neg ha] at h ⊢
    exact ev_jump h
theorem o_switch {d lo hi : Int} {offs : Array Int} {len : Nat} (hd : decode (zbyt mi) pc = .ok (.tableswitch d lo hi offs, len)) {x : Int32} {t : Nat} (hx : (if x.toInt < lo ∨ hi < x.toInt then ztg pc d else (offs[(x.toInt - lo).toNat]?).bind (ztg pc)) = some t) : ev mi pc ls (.int x :: st) M = ev mi t ls st M := by
  have h := stp_of (ls := ls) (st := .int x :: st) (M := M) hd (Or.inr rfl)
  simp only [sti] at h
  by_cases ho : x.toInt < lo ∨ hi < x.toInt
  · rw [if_pos ho] at h hx
    rw [hx] at h
    exact ev_jump h
  · rw [if_neg ho] at h hx
    cases hf : offs[(x.toInt - lo).toNat]? with
    | none => rw [hf] at hx; cases hx
    | some off =>
      rw [hf] at h hx
      have hx : ztg pc off = some t := hx
      simp only [hx] at h
      exact ev_jump h
-- calls
theorem zent_nil (n : Nat) (As : List Value) : zent n As = zent n As := rfl
theorem o_call {mj : Nat} {As rest : List Value} {ent : zLS} (h : stp (mi, pc, ls, st, M) = zcall mi mj pc ls As rest M) (hr : decide (zfr mj + 1 ≤ zfr mi) && decide (8 + (znL mj + 11) + zlo mj ≤ zlo mi) = true) (hc : zcat rest ≤ 8) (hl : (lg_sl As).length ≤ znL mj) (hh : (zhl mj || As.all fun v => decide (v.category = 1)) = true) (he : zent (znL mj) As = ent) :
    ev mi pc ls st M = (ev mj 0 ent [] M).bind fun r => ev mi (pc + 3) ls (r.1.toList ++ rest) r.2 := by
  subst he
  simp only [Bool.and_eq_true, decide_eq_true_eq] at hr
  have hk : zok mi mj As rest = true := by
    unfold zok
    rw [hh, decide_eq_true hc, decide_eq_true hr.1, decide_eq_true hr.2, decide_eq_true hl]; rfl
  unfold zcall at h
  rw [if_pos hk] at h
  exact ev_call h
theorem o_static {k mj np : Nat} {As rest : List Value} {ent : zLS} (hd : decode (zbyt mi) pc = .ok (.invokestatic k, 3)) (h0 : zac (zown mi) k = false ∧ zmm (zown mi) k = none ∧ zcl (zown mi) k = some mj ∧ zkd (zown mi) k = some 1 ∧ znp mj = np) (ht : st.take np = As.reverse) (hn : As.reverse.length = np) (hdr : st.drop np = rest) (hr : decide (zfr mj + 1 ≤ zfr mi) && decide (8 + (znL mj + 11) + zlo mj ≤ zlo mi) = true) (hc : zcat rest ≤ 8) (hl : (lg_sl As).length ≤ znL mj) (hh : (zhl mj || As.all fun v => decide (v.category = 1)) = true) (he : zent (znL mj) As = ent) :
    ev mi pc ls st M = (ev mj 0 ent [] M).bind fun r => ev mi (pc + 3) ls (r.1.toList ++ rest) r.2 := by
  obtain ⟨h1, h2, h3, h4, h5⟩ := h0
  refine o_call ?_ hr hc hl hh he
  rw [stp_of hd (Or.inl rfl)]
  simp only [sti, zins, h1, h2, h3, h4, h5, ht, hdr, List.reverse_reverse]
  rw [if_neg (by decide), if_pos trivial, if_pos hn]
theorem o_virtual {k mj np cl : Nat} {As rest : List Value} {b : Nat} {ent : zLS} (hd : decode (zbyt mi) pc = .ok (.invokevirtual k, 3)) (h0 : zcl (zown mi) k = some mj ∧ zkd (zown mi) k = some 0 ∧ znp mj = np ∧ zown mj = cl) (ht : st.take np = As.reverse) (hn : As.reverse.length = np) (hdr : st.drop np = .ref b :: rest) (hr : decide (zfr mj + 1 ≤ zfr mi) && decide (8 + (znL mj + 11) + zlo mj ≤ zlo mi) = true) (hc : zcat rest ≤ 8) (hl : (lg_sl (.ref b :: As)).length ≤ znL mj) (hh : (zhl mj || (Value.ref b :: As).all fun v => decide (v.category = 1)) = true) (he : zent (znL mj) (.ref b :: As) = ent) :
    ev mi pc ls st M = if zoc (mget M b) = some cl ∧ b ≠ 0 then (ev mj 0 ent [] M).bind fun r => ev mi (pc + 3) ls (r.1.toList ++ rest) r.2 else none := by
  obtain ⟨h1, h2, h3, h4⟩ := h0
  have h := stp_of (ls := ls) (st := st) (M := M) hd (Or.inl rfl)
  simp only [sti, zinv, h1, h2, h3, h4, ht, hdr, List.reverse_reverse] at h
  rw [if_pos trivial] at h
  by_cases hb : zoc (mget M b) = some cl ∧ b ≠ 0
  · rw [if_pos hb]
    rw [if_pos ⟨hb.1, hn, hb.2⟩] at h
    exact o_call h hr hc hl hh he
  · rw [if_neg hb]
    rw [if_neg (fun z => hb ⟨z.1, z.2.2⟩)] at h
    exact ev_stuck h
theorem o_special {k mj np : Nat} {As rest : List Value} {b : Nat} {ent : zLS} (hd : decode (zbyt mi) pc = .ok (.invokespecial k, 3)) (h0 : zoi (zown mi) k = false ∧ zcl (zown mi) k = some mj ∧ zkd (zown mi) k = some 2 ∧ znp mj = np) (ht : st.take np = As.reverse) (hn : As.reverse.length = np) (hdr : st.drop np = .ref b :: rest) (hr : decide (zfr mj + 1 ≤ zfr mi) && decide (8 + (znL mj + 11) + zlo mj ≤ zlo mi) = true) (hc : zcat rest ≤ 8) (hl : (lg_sl (.ref b :: As)).length ≤ znL mj) (hh : (zhl mj || (Value.ref b :: As).all fun v => decide (v.category = 1)) = true) (he : zent (znL mj) (.ref b :: As) = ent) :
    ev mi pc ls st M = (ev mj 0 ent [] M).bind fun r => ev mi (pc + 3) ls (r.1.toList ++ rest) r.2 := by
  obtain ⟨h1, h2, h3, h4⟩ := h0
  refine o_call ?_ hr hc hl hh he
  rw [stp_of hd (Or.inl rfl)]
  simp only [sti, zinp, h1, h2, h3, h4, ht, hdr, List.reverse_reverse]
  rw [if_neg (by decide), if_pos trivial, if_pos hn]
theorem o_objinit {k : Nat} (hd : decode (zbyt mi) pc = .ok (.invokespecial k, 3)) (h0 : (zoi (zown mi) k && decide (20 ≤ zlo mi) && decide (1 ≤ zfr mi)) = true) {a : Nat} (hc : zcat st ≤ 8) : ev mi pc ls (.ref a :: st) M = ev mi (pc + 3) ls st M := by
  simp only [Bool.and_eq_true, decide_eq_true_eq] at h0
  refine ev_jump ?_
  rw [stp_of hd (Or.inl rfl)]
  simp only [sti, zinp]
  rw [if_pos h0.1.1, if_neg (by omega)]
theorem o_mm {k w : Nat} (hd : decode (zbyt mi) pc = .ok (.invokestatic k, 3)) (h0 : (!zac (zown mi) k && decide (zmm (zown mi) k = some w) && decide (60 ≤ zlo mi) && decide (1 ≤ zfr mi)) = true) {x y : Int32} (hc : zcat st ≤ 8) : ev mi pc ls (.int y :: .int x :: st) M = ev mi (pc + 3) ls (.int (if w = 0 then (if x < y then y else x) else (if y < x then y else x)) :: st) M := by
  simp only [Bool.and_eq_true, decide_eq_true_eq, Bool.not_eq_true'] at h0
  refine ev_jump ?_
  rw [stp_of hd (Or.inl rfl)]
  simp only [sti, zins, h0.1.1.1, h0.1.1.2]
  rw [if_neg (by decide), if_neg (by omega)]
theorem o_arraycopy {k : Nat} (hd : decode (zbyt mi) pc = .ok (.invokestatic k, 3)) (h0 : (zac (zown mi) k && decide (60 ≤ zlo mi) && decide (1 ≤ zfr mi)) = true) {n dp sp : Int32} {a a0 : Nat} (hc : zcat st ≤ 8) : ev mi pc ls (.int n :: .int dp :: .ref a :: .int sp :: .ref a0 :: st) M = if a0 = 0 ∨ a = 0 then none else (zcp (mget M a0) (mget M a) sp dp n).bind fun c => ev mi (pc + 3) ls st (mset M a c) := by
  simp only [Bool.and_eq_true, decide_eq_true_eq] at h0
  have h := stp_of (ls := ls) (st := .int n :: .int dp :: .ref a :: .int sp :: .ref a0 :: st) (M := M) hd (Or.inl rfl)
  simp only [sti, zins] at h
  rw [if_pos h0.1.1] at h
  by_cases ha : a0 = 0 ∨ a = 0
  · rw [if_pos ha]
    rw [if_pos (show a0 = 0 ∨ a = 0 ∨ 8 < zcat st ∨ zlo mi < 60 ∨ zfr mi < 1 by omega)] at h
    exact ev_stuck h
  · rw [if_neg ha]
    rw [if_neg (show ¬ (a0 = 0 ∨ a = 0 ∨ 8 < zcat st ∨ zlo mi < 60 ∨ zfr mi < 1) by omega)] at h
    cases hv : zcp (mget M a0) (mget M a) sp dp n with
    | none => rw [hv] at h; exact ev_stuck h
    | some v => rw [hv] at h; exact ev_jump h
end OP
