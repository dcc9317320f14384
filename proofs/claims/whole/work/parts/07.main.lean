/-! A run of the picture that ends is a run of the machine that ends so -/
theorem zcl_of {o k mj : Nat} (h : zcl o k = some mj) {kd : Nat} (hk : zkd o k = some kd) : ∃ e ∈ zclT, e.1 = o ∧ e.2.1 = k ∧ e.2.2.1 = mj ∧ e.2.2.2.1 = kd := by
  unfold zcl at h
  unfold zkd at hk
  obtain ⟨e, he, hx⟩ := Option.map_eq_some_iff.mp h
  rw [he] at hk
  have hm := List.mem_of_find?_eq_some he
  have hq := List.find?_some he
  simp only [Bool.and_eq_true, beq_iff_eq] at hq
  exact ⟨e, hm, hq.1, hq.2, hx, Option.some.inj hk⟩
theorem zcall_inv {mi mj pc : Nat} {ls : zLS} {As rest : List Value} {M : zMem} {c1 : zC} {k : zR → zC} (h : zcall mi mj pc ls As rest M = some (.inr (.inr (c1, k)))) : zok mi mj As rest = true ∧ c1 = (mj, 0, zent (znL mj) As, [], M) ∧ k = fun r => (mi, pc + 3, ls, r.1.toList ++ rest, r.2) := by
  unfold zcall at h
  split at h
  · rename_i hk
    cases h
    exact ⟨hk, rfl, rfl⟩
  · cases h
theorem zok_of {mi mj : Nat} {As rest : List Value} (h : zok mi mj As rest = true) : zcat rest ≤ 8 ∧ zfr mj + 1 ≤ zfr mi ∧ 8 + (znL mj + 11) + zlo mj ≤ zlo mi ∧ (lg_sl As).length ≤ znL mj ∧ (zhl mj = false → ∀ v ∈ As, v.category = 1) := by
  unfold zok at h
  simp only [Bool.and_eq_true, decide_eq_true_eq, Bool.or_eq_true, List.all_eq_true] at h
  obtain ⟨⟨⟨⟨h1, h2⟩, h3⟩, h4⟩, h5⟩ := h
  exact ⟨h1, h2, h3, h4, fun hh => by
    rcases h5 with h5 | h5
    · rw [hh] at h5; cases h5
    · exact h5⟩
-- the entry's locals
theorem zsl_len (b S0 : Nat) : ∀ As : List Value, (lg_sl (As.map (ztr b S0))).length = (As.flatMap fun v => if v.category = 2 then [some v, none] else [some v]).length
  | [] => rfl
  | v :: As => by
    have ih := zsl_len b S0 As
    unfold lg_sl at ih ⊢
    rw [List.map_cons, List.flatMap_cons, List.flatMap_cons, List.length_append, List.length_append, ih, ztr_cat]
    split <;> rfl
theorem zsl_at (b S0 : Nat) : ∀ (As : List Value) (k i : Nat) (v : Value), (As.flatMap fun v => if v.category = 2 then [some v, none] else [some v])[i]? = some (some v) → (k + i, ztr b S0 v) ∈ lv_args k (As.map (ztr b S0)) ∧ v ∈ As
  | [], k, i, v, h => by simp at h
  | w :: As, k, i, v, h => by
    rw [List.flatMap_cons] at h
    rw [List.map_cons, lv_args]
    by_cases hc : w.category = 2
    · rw [if_pos hc] at h
      rw [if_pos (by rw [ztr_cat]; exact hc)]
      match i, h with
      | 0, h => cases h; exact ⟨List.mem_cons_self, List.mem_cons_self⟩
      | 1, h => cases h
      | i + 2, h =>
        have ih := zsl_at b S0 As (k + 2) i v h
        rw [show k + (i + 2) = k + 2 + i by omega]
        exact ⟨List.mem_cons_of_mem _ ih.1, List.mem_cons_of_mem _ ih.2⟩
    · rw [if_neg hc] at h
      rw [if_neg (by rw [ztr_cat]; exact hc)]
      match i, h with
      | 0, h => cases h; exact ⟨List.mem_cons_self, List.mem_cons_self⟩
      | i + 1, h =>
        have ih := zsl_at b S0 As (k + 1) i v h
        rw [show k + (i + 1) = k + 1 + i by omega]
        exact ⟨List.mem_cons_of_mem _ ih.1, List.mem_cons_of_mem _ ih.2⟩
theorem zent_at {n : Nat} {As : List Value} {i : Nat} {v : Value} (h : (zent n As)[i]? = some (some v)) : (As.flatMap fun v => if v.category = 2 then [some v, none] else [some v])[i]? = some (some v) := by
  unfold zent at h
  rw [List.getElem?_append] at h
  split at h
  · exact h
  · rw [List.getElem?_replicate] at h
    split at h <;> cases h
theorem zLR_entry {b S0 mj : Nat} {As : List Value} (hl : (lg_sl As).length ≤ znL mj) (hc : zhl mj = false → ∀ v ∈ As, v.category = 1) : zLR b S0 mj ((lg_sl (As.map (ztr b S0)) ++ List.replicate (znL mj - (lg_sl (As.map (ztr b S0))).length) Slot.unset).toArray) (zent (znL mj) As) := by
  have e0 : (lg_sl As).length = (As.flatMap fun v => if v.category = 2 then [some v, none] else [some v]).length := by
    have h1 := zsl_len 0 0 As
    rw [← h1]
    have : ∀ l : List Value, (lg_sl (l.map (ztr 0 0))).length = (lg_sl l).length := by
      intro l
      induction l with
      | nil => rfl
      | cons v l ih =>
        unfold lg_sl at ih ⊢
        rw [List.map_cons, List.flatMap_cons, List.flatMap_cons, List.length_append, List.length_append, ih, ztr_cat]
        split <;> rfl
    exact (this As).symm
  have h1 : (lg_sl (As.map (ztr b S0))).length ≤ znL mj := by rw [zsl_len, ← e0]; exact hl
  have h2 := lv_entry (As.map (ztr b S0)) h1
  refine ⟨by unfold zent; rw [List.length_append, List.length_replicate]; omega, ⟨h2.1, h2.2.1, fun q hq => by cases hq⟩, fun i v hv => ?_, fun hh i v hv => ?_⟩
  · have h3 := (zsl_at b S0 As 0 i v (zent_at hv)).1
    rw [Nat.zero_add] at h3
    exact h2.2.2 _ h3
  · exact hc hh v (zsl_at b S0 As 0 i v (zent_at hv)).2
-- a run makes no cell fewer
/-- where a call comes from -/
def zci (mi : Nat) (i : Instr) (st : List Value) (M : zMem) (mj : Nat) (As rest : List Value) : Prop :=
  (st.take (znp mj)).length = znp mj ∧
  ((∃ k b, i = .invokevirtual k ∧ zcl (zown mi) k = some mj ∧ zkd (zown mi) k = some 0 ∧ st.drop (znp mj) = .ref b :: rest ∧ As = .ref b :: (st.take (znp mj)).reverse ∧ zoc (mget M b) = some (zown mj) ∧ b ≠ 0) ∨
   (∃ k, i = .invokestatic k ∧ zcl (zown mi) k = some mj ∧ zkd (zown mi) k = some 1 ∧ st.drop (znp mj) = rest ∧ As = (st.take (znp mj)).reverse) ∨
   (∃ k b, i = .invokespecial k ∧ zcl (zown mi) k = some mj ∧ zkd (zown mi) k = some 2 ∧ st.drop (znp mj) = .ref b :: rest ∧ As = .ref b :: (st.take (znp mj)).reverse))
def zgood (mi pc : Nat) (i : Instr) (ls : zLS) (st : List Value) (M : zMem) : zA → Prop
  | none => True
  | some (.inl r) => zretv mi i st = some r.1 ∧ r.2 = M
  | some (.inr (.inl c')) => c'.1 = mi ∧ M.1 ≤ c'.2.2.2.2.1 ∧ M.2.1 ≤ c'.2.2.2.2.2.1 ∧ mget c'.2.2.2.2 0 = mget M 0
  | some (.inr (.inr (c1, k))) => ∃ mj As rest, zok mi mj As rest = true ∧ c1 = (mj, 0, zent (znL mj) As, [], M) ∧ (k = fun r => (mi, pc + 3, ls, r.1.toList ++ rest, r.2)) ∧ zci mi i st M mj As rest
section ZG
variable {mi pc : Nat} {i : Instr} {ls : zLS} {st : List Value} {M : zMem}
theorem zgN : zgood mi pc i ls st M none := trivial
theorem zgJ {pc' : Nat} {ls' : zLS} {st' : List Value} : zgood mi pc i ls st M (zJ mi pc' ls' st' M) := ⟨rfl, Nat.le_refl _, Nat.le_refl _, rfl⟩
theorem zgS {pc' a : Nat} {c : zPC} {ls' : zLS} {st' : List Value} (ha : a ≠ 0) : zgood mi pc i ls st M (zJ mi pc' ls' st' (mset M a c)) := ⟨rfl, Nat.le_refl _, Nat.le_refl _, by show mget (mset M a c) 0 = _; rw [mget_set, if_neg (fun z => ha z.symm)]⟩
theorem zgW {pc' z : Nat} {c : zPC} {ls' : zLS} {st' : List Value} : zgood mi pc i ls st M (zJ mi pc' ls' st' (mnew M z c)) := ⟨rfl, Nat.le_succ _, Nat.le_add_right _ _, by show mget (mnew M z c) 0 = _; rw [mget_new, if_neg (by omega)]⟩
theorem zgC {mj : Nat} {As rest : List Value} (hci : zci mi i st M mj As rest) : zgood mi pc i ls st M (zcall mi mj pc ls As rest M) := by
  unfold zcall
  split
  · rename_i h
    exact ⟨mj, As, rest, h, rfl, rfl, hci⟩
  · exact trivial
theorem zg1 {q : Value → Bool} {k n : Nat} : zgood mi pc i ls st M (zld q k n mi pc ls st M) := by
  unfold zld
  repeat' first | exact zgJ | exact zgN | split
theorem zg2 {q : Value → Bool} {k n : Nat} : zgood mi pc i ls st M (zst1 q k n mi pc ls st M) := by
  unfold zst1
  repeat' first | exact zgJ | exact zgN | split
theorem zg3 {k n : Nat} : zgood mi pc i ls st M (zst2 k n mi pc ls st M) := by
  unfold zst2
  repeat' first | exact zgJ | exact zgN | split
theorem zg4 {f : Int32 → Int32 → Int32} : zgood mi pc i ls st M (zbi f mi pc ls st M) := by
  unfold zbi
  repeat' first | exact zgJ | exact zgN | split
theorem zg5 {f : Int32 → Int32 → Int32} : zgood mi pc i ls st M (zdi f mi pc ls st M) := by
  unfold zdi
  repeat' first | exact zgJ | exact zgN | split
theorem zg6 {f : Int64 → Int64 → Int64} : zgood mi pc i ls st M (zbl f mi pc ls st M) := by
  unfold zbl
  repeat' first | exact zgJ | exact zgN | split
theorem zg7 {f : Int64 → Int64 → Int64} : zgood mi pc i ls st M (zdl f mi pc ls st M) := by
  unfold zdl
  repeat' first | exact zgJ | exact zgN | split
theorem zg8 {f : Int32 → Value} : zgood mi pc i ls st M (zui f mi pc ls st M) := by
  unfold zui
  repeat' first | exact zgJ | exact zgN | split
theorem zg9 {k : Nat} : zgood mi pc (.invokevirtual k) ls st M (zinv mi pc k ls st M) := by
  unfold zinv
  split
  · rename_i mj h1
    split
    · rename_i h2
      split
      · rename_i b rest h3
        split
        · rename_i h4
          exact zgC ⟨h4.2.1, Or.inl ⟨k, b, rfl, h1, h2, h3, rfl, h4.1, h4.2.2⟩⟩
        · exact trivial
      · exact trivial
    · exact trivial
  · exact trivial
theorem zg10 {k : Nat} : zgood mi pc (.invokestatic k) ls st M (zins mi pc k ls st M) := by
  unfold zins
  split
  · repeat' first | exact zgJ | exact zgN | exact zgS (by intro z; simp_all) | split
  · split
    · repeat' first | exact zgJ | exact zgN | exact zgS (by intro z; simp_all) | split
    · split
      · rename_i mj h1
        split
        · rename_i h2
          split
          · rename_i h4
            exact zgC ⟨h4, Or.inr (Or.inl ⟨k, rfl, h1, h2, rfl, rfl⟩)⟩
          · exact trivial
        · exact trivial
      · exact trivial
theorem zg11 {k : Nat} : zgood mi pc (.invokespecial k) ls st M (zinp mi pc k ls st M) := by
  unfold zinp
  split
  · repeat' first | exact zgJ | exact zgN | exact zgS (by intro z; simp_all) | split
  · split
    · rename_i mj h1
      split
      · rename_i h2
        split
        · rename_i b rest h3
          split
          · rename_i h4
            exact zgC ⟨h4, Or.inr (Or.inr ⟨k, b, rfl, h1, h2, h3, rfl⟩)⟩
          · exact trivial
        · exact trivial
      · exact trivial
    · exact trivial
set_option maxHeartbeats 4000000 in
theorem zgood_sti : zgood mi pc i ls st M (sti i mi pc ls st M) := by
  cases i with
  | newarray a => cases a <;> simp only [sti] <;> (repeat' first | exact zgJ | exact zgN | exact zgS (by intro z; simp_all) | exact zgW | exact ⟨by assumption, rfl⟩ | split)
  | _ =>
   simp only [sti]
   first
    | exact zgJ | exact zg1 | exact zg2 | exact zg3 | exact zg4 | exact zg5 | exact zg6 | exact zg7 | exact zg8 | exact zg9 | exact zg10 | exact zg11
    | (repeat' first | exact zgJ | exact zgN | exact zgS (by intro z; simp_all) | exact zgW | exact ⟨by assumption, rfl⟩ | split)
end ZG
theorem zstp_good {c : zC} {a : zR ⊕ (zC ⊕ (zC × (zR → zC)))} (h : stp c = some a) : ∃ i len, decode (zbyt c.1) c.2.1 = .ok (i, len) ∧ (zlen i = len ∨ zlen i = 0) ∧ sti i c.1 c.2.1 c.2.2.1 c.2.2.2.1 c.2.2.2.2 = some a := by
  unfold stp at h
  split at h
  · rename_i i len hd
    split at h
    · rename_i hl
      exact ⟨i, len, hd, hl, h⟩
    · cases h
  · cases h
theorem zstp_le {c : zC} {c' : zC} (h : stp c = some (.inr (.inl c'))) : c.2.2.2.2.1 ≤ c'.2.2.2.2.1 ∧ c.2.2.2.2.2.1 ≤ c'.2.2.2.2.2.1 ∧ mget c'.2.2.2.2 0 = mget c.2.2.2.2 0 := by
  obtain ⟨i, len, h1, h2, h3⟩ := zstp_good h
  have g := zgood_sti (mi := c.1) (pc := c.2.1) (i := i) (ls := c.2.2.1) (st := c.2.2.2.1) (M := c.2.2.2.2)
  rw [h3] at g
  exact g.2
theorem zstp_call {c c1 : zC} {k : zR → zC} (h : stp c = some (.inr (.inr (c1, k)))) : ∃ mj As rest i, zok c.1 mj As rest = true ∧ c1 = (mj, 0, zent (znL mj) As, [], c.2.2.2.2) ∧ (k = fun r => (c.1, c.2.1 + 3, c.2.2.1, r.1.toList ++ rest, r.2)) ∧ zci c.1 i c.2.2.2.1 c.2.2.2.2 mj As rest ∧ decode (zbyt c.1) c.2.1 = .ok (i, 3) := by
  obtain ⟨i, len, h1, h2, h3⟩ := zstp_good h
  have g := zgood_sti (mi := c.1) (pc := c.2.1) (i := i) (ls := c.2.2.1) (st := c.2.2.2.1) (M := c.2.2.2.2)
  rw [h3] at g
  obtain ⟨mj, As, rest, g1, g2, g3, g4⟩ := g
  refine ⟨mj, As, rest, i, g1, g2, g3, g4, ?_⟩
  have hl : zlen i = 3 := by
    rcases g4.2 with ⟨k, b, rfl, -⟩ | ⟨k, rfl, -⟩ | ⟨k, b, rfl, -⟩ <;> rfl
  have : len = 3 := by omega
  rw [← this]
  exact h1
theorem zret_len {mi : Nat} {i : Instr} {st : List Value} {v : Option Value} (h : zretv mi i st = some v) : zlen i = 1 := by
  unfold zretv at h
  split at h <;> first | rfl | cases h
theorem zstp_ret {c : zC} {r : zR} (h : stp c = some (.inl r)) : ∃ i, decode (zbyt c.1) c.2.1 = .ok (i, 1) ∧ zretv c.1 i c.2.2.2.1 = some r.1 ∧ r.2 = c.2.2.2.2 := by
  obtain ⟨i, len, h1, h2, h3⟩ := zstp_good h
  have g := zgood_sti (mi := c.1) (pc := c.2.1) (i := i) (ls := c.2.2.1) (st := c.2.2.2.1) (M := c.2.2.2.2)
  rw [h3] at g
  have g : zretv c.1 i c.2.2.2.1 = some r.1 ∧ r.2 = c.2.2.2.2 := g
  have hl := zret_len g.1
  have : len = 1 := by omega
  subst this
  exact ⟨i, h1, g.1, g.2⟩
theorem zrun_sz : ∀ (f : Nat) (c : zC) (r : zR), zrun f c = some r → c.2.2.2.2.1 ≤ r.2.1 ∧ c.2.2.2.2.2.1 ≤ r.2.2.1 := by
  intro f
  induction f with
  | zero => intro c r h; cases h
  | succ f ih =>
    intro c r h
    rw [zrun] at h
    match hs : stp c with
    | none => rw [hs] at h; cases h
    | some (.inl r') =>
      rw [hs] at h
      cases h
      obtain ⟨i, -, -, h3⟩ := zstp_ret hs
      rw [h3]
      exact ⟨Nat.le_refl _, Nat.le_refl _⟩
    | some (.inr (.inl c')) =>
      rw [hs] at h
      have h1 := zstp_le hs
      have h2 := ih c' r h
      omega
    | some (.inr (.inr (c1, k))) =>
      rw [hs] at h
      obtain ⟨r1, h1, h2⟩ := Option.bind_eq_some_iff.mp h
      obtain ⟨mj, As, rest, i, -, rfl, rfl, -, -⟩ := zstp_call hs
      have h3 := ih _ _ h1
      have h4 := ih _ _ h2
      simp only at h3 h4
      omega
theorem zrun_0 : ∀ (f : Nat) (c : zC) (r : zR), zrun f c = some r → mget r.2 0 = mget c.2.2.2.2 0 := by
  intro f
  induction f with
  | zero => intro c r h; cases h
  | succ f ih =>
    intro c r h
    rw [zrun] at h
    match hs : stp c with
    | none => rw [hs] at h; cases h
    | some (.inl r') =>
      rw [hs] at h
      cases h
      obtain ⟨i, -, -, h3⟩ := zstp_ret hs
      rw [h3]
    | some (.inr (.inl c')) =>
      rw [hs] at h
      exact (ih c' r h).trans (zstp_le hs).2.2
    | some (.inr (.inr (c1, k))) =>
      rw [hs] at h
      obtain ⟨r1, h1, h2⟩ := Option.bind_eq_some_iff.mp h
      obtain ⟨mj, As, rest, i, -, rfl, rfl, -, -⟩ := zstp_call hs
      have h3 := ih _ _ h1
      have h4 := ih _ _ h2
      exact h4.trans h3
def zPc (b S0 : Nat) (D : va_G) (cI c3 c4 : ClassId) (As : List Value) (M : zMem) : Array Value → State → Prop := va_Pc (As.map (ztr b S0)) (fun U => zwf M ∧ va_P D vwCl (zW b S0 cI c3 c4 M) U.heap ∧ zK D cI c3 c4 U ∧ U.heap.size ≤ S0 + M.1 ∧ S0 ≤ U.heap.size ∧ ∃ (L : Nat) (xs : Nat → Int32), mget M 0 = some (.inl (L, xs)) ∧ va_X b L xs U U.heap)
def zQc (b S0 : Nat) (D : va_G) (cI c3 c4 : ClassId) (v : Option Value) (M' : zMem) : Array Value → State → Outcome → State → Prop := fun _ st o t => (o = .returned (v.map (ztr b S0)) ∧ zwf M' ∧ va_P D vwCl (zW b S0 cI c3 c4 M') t.heap) ∧ va_F (fun q : Nat => S0 ≤ q) st t
theorem zK_warm {D : va_G} {cI c3 c4 : ClassId} {s U : State} (hW : s.WarmedH U.vm) (h : zK D cI c3 c4 s) : zK D cI c3 c4 U := by
  refine ⟨h.1.moved hW.alike, h.2.1.moved hW.alike, h.2.2.1.moved hW.alike, fun w hw => ?_⟩
  have h1 := h.2.2.2 w hw
  have h2 : ∃ a i x q, w = .methodLinkNest a i x q := by
    unfold znest at hw
    simp only [List.mem_cons, List.not_mem_nil, or_false] at hw
    rcases hw with rfl | rfl | rfl | rfl | rfl | rfl <;> exact ⟨_, _, _, _, rfl⟩
  obtain ⟨a, i, x, q, rfl⟩ := h2
  exact va_Nw.warmM hW h1
theorem zK_same {D : va_G} {cI c3 c4 : ClassId} {s U : State} (hvm : s.vm = U.vm) (h : zK D cI c3 c4 s) : zK D cI c3 c4 U := by
  have hal : s.vm.Alike U.vm := by rw [hvm]; exact Vm.Alike.refl _
  refine ⟨h.1.moved hal, h.2.1.moved hal, h.2.2.1.moved hal, fun w hw => ?_⟩
  have h1 := h.2.2.2 w hw
  have h2 : ∃ a i x q, w = .methodLinkNest a i x q := by
    unfold znest at hw
    simp only [List.mem_cons, List.not_mem_nil, or_false] at hw
    rcases hw with rfl | rfl | rfl | rfl | rfl | rfl <;> exact ⟨_, _, _, _, rfl⟩
  obtain ⟨a, i, x, q, rfl⟩ := h2
  exact va_Nw.same rfl hvm h1
theorem zPc_blind {b S0 : Nat} {D : va_G} {cI c3 c4 : ClassId} {As : List Value} {M : zMem} : FrameBlind (zPc b S0 D cI c3 c4 As M) := by
  rintro a U g mk ⟨h1, h2, h3, h4, h5, h6, L, xs, h7, h8⟩
  exact ⟨h1, h2, h3, zK_same (s := U) (U := U.calling g mk a) rfl h4, h5, h6, L, xs, h7, va_X.moved (u := U) (U := U.calling g mk a) (Vm.Alike.refl U.vm) h8⟩
def zMet (l : Launch) (b S0 : Nat) (D : va_G) (cI c3 c4 : ClassId) (mj : Nat) (As : List Value) (M : zMem) (v : Option Value) (M' : zMem) : Prop :=
  Met l (zynm mj) (.code (zynm mj) (zbyt mj) (znL mj) (zrt mj) :: zTB) { frames := zfr mj, cells := M'.1 - M.1, slots := M'.2.1 - M.2.1, locals := zlo mj } (zPc b S0 D cI c3 c4 As M) (zQc b S0 D cI c3 c4 v M') (M'.1 - M.1) (M'.2.1 - M.2.1) (fun q : Nat => S0 ≤ q)
/-- what a run of f steps' depth says, at any frame of its method -/
def zP (l : Launch) (b S0 : Nat) (D : va_G) (cI c3 c4 : ClassId) (f : Nat) : Prop :=
  ∀ (mi pc : Nat) (ls : zLS) (st : List Value) (M : zMem) (v : Option Value) (M' : zMem), zrun f (mi, pc, ls, st, M) = some (v, M') →
    ∀ {p : Program} {e : Env} {R : Room} {s : State} {m : MethodId} {args : Array Value} {below : List Frame} {meth : Method} {c : Code} {M0 : zMem} {Q : State → Prop}, zCx b S0 D cI c3 c4 mi p R s m args meth c → (∃ (L : Nat) (xs : Nat → Int32), mget M0 0 = some (.inl (L, xs)) ∧ va_X b L xs s s.heap) → s.heap.size ≤ S0 + M0.1 → M'.1 ≤ M0.1 + R.cells → M'.2.1 ≤ M0.2.1 + R.slots →
      (∀ (i : Instr) (H : Heap) (locs : List Loc) (lsA : Array Slot) (pc : Nat) (st : List Value), decode (zbyt mi) pc = .ok (i, 1) → zretv mi i st = some v → zwf M' → va_P D vwCl (zW b S0 cI c3 c4 M') H → va_S (fun q : Nat => S0 ≤ q) s.heap H locs → W p l e R s m args below meth c H locs (M'.1 - M0.1) (M'.2.1 - M0.2.1) Q (F0 m pc lsA (st.map (ztr b S0)))) →
      zGo l b S0 D cI c3 c4 mi p e R s m args below meth c M0 Q pc ls st M
set_option maxHeartbeats 4000000 in
theorem z_call {l : Launch} {b S0 : Nat} {D : va_G} {cI c3 c4 : ClassId} {p : Program} {e : Env} {R : Room} {s : State} {m : MethodId} {args : Array Value} {below : List Frame} {meth : Method} {c : Code} {H : Heap} {locs : List Loc} {cells slots mc ms pc : Nat} {Q : State → Prop} {lsA : Array Slot} {st0 rest : List Value} {a : Array Value} {v1 : Option Value} {M1 : zMem}
    (hr : va_Run p l e R s m args below meth c H locs cells slots mc ms (F0 m pc lsA st0) rest (zQc b S0 D cI c3 c4 v1 M1 a) (fun q : Nat => S0 ≤ q)) (hS : va_S (fun q : Nat => S0 ≤ q) s.heap H locs)
    (kk : ∀ (H1 : Heap) (locs1 : List Loc), zwf M1 → va_P D vwCl (zW b S0 cI c3 c4 M1) H1 → va_S (fun q : Nat => S0 ≤ q) s.heap H1 locs1 → W p l e R s m args below meth c H1 locs1 (cells + mc) (slots + ms) Q (F0 m (pc + 3) lsA ((v1.map (ztr b S0)).toList ++ rest))) : W p l e R s m args below meth c H locs cells slots Q (F0 m pc lsA st0) := by
  intro T hT X
  obtain ⟨v, st₀, t, T', L, h0, X', hL, e1, e2, ⟨⟨hv, hw, hP⟩, hz, hk⟩, st⟩ := hr T hT X
  cases hv
  rw [h0] at hz hk
  obtain ⟨t2, a1, b1⟩ := kk T'.heap (locs ++ L) hw (by rw [e1]; exact hP)
    ⟨Nat.le_trans hS.1 (by rw [e1]; exact hz), fun q h1 h2 => by rw [e1, hk q (Nat.lt_of_lt_of_le h1 hS.1) h2]; exact hS.2.1 q h1 h2, fun q hq => by
      rcases List.mem_append.mp hq with h | h
      · exact hS.2.2 q h
      · exact hL q h⟩ T' rfl X'
  exact ⟨t2, st t2 a1, b1⟩
theorem zini_ok : ∀ mi, mi < 186 → zini mi = true → (zynm mi).name = "<init>" := by decide +kernel
set_option maxHeartbeats 4000000 in
theorem zP_met {l : Launch} {b S0 : Nat} {D : va_G} {cI c3 c4 : ClassId} {f : Nat} (hP : zP l b S0 D cI c3 c4 f) {mj : Nat} {As : List Value} {M : zMem} {v : Option Value} {M' : zMem} (hr : zrun f (mj, 0, zent (znL mj) As, [], M) = some (v, M')) (hbS : b < S0) (hmj : mj < 186) (hcls : (zynm mj).cls = zcn (zown mj)) (hpl : plainName (zynm mj).cls = true) (hl : (lg_sl As).length ≤ znL mj) (hc : zhl mj = false → ∀ v ∈ As, v.category = 1) : zMet l b S0 D cI c3 c4 mj As M v M' := by
  refine Met.ofW (cc := zbyt mj) (maxL := znL mj) (ret := zrt mj) hpl rfl ?_
  intro p e s m args below meth c s₁ B hml hv
  obtain ⟨rfl, hwf, hPP, hKK, hsz, hS0, L, xs, hX0, hXX⟩ := hv
  have hx := B.exec
  have hb := B.bytes
  have hret := B.returns
  have hts := atoms_spec (ws := .code (zynm mj) (zbyt mj) (znL mj) (zrt mj) :: zTB) B.pre
  have hown : s.vm.findClass (zcn (zown mj)) = some m.cls := by rw [← hcls]; exact findClass_of_methodNamed B.named
  have hlocks := B.notSynchronized
  have hle := zrun_sz _ _ _ hr
  simp only at hle
  rw [lg_entry_eq]
  have hgo := hP mj 0 (zent (znL mj) As) [] M v M' hr (p := p) (e := e) (R := { frames := zfr mj, cells := M'.1 - M.1, slots := M'.2.1 - M.2.1, locals := zlo mj }) (s := s) (m := m) (args := (As.map (ztr b S0)).toArray) (below := below) (meth := meth) (c := c) (M0 := M) (Q := MQ below (zQc b S0 D cI c3 c4 v M') (As.map (ztr b S0)).toArray s (M'.1 - M.1) (M'.2.1 - M.2.1) (fun q : Nat => S0 ≤ q))
    ⟨hx, hb, hml, hown, fun w hw => hts w (List.mem_cons_of_mem _ hw), hKK, hbS, hS0, Nat.le_refl _, Nat.le_refl _, fun h => (name_of_methodNamed B.named B.method).1.trans (zini_ok mj hmj h)⟩ ⟨L, xs, hX0, hXX⟩ hsz (by show M'.1 ≤ M.1 + (M'.1 - M.1); omega) (by show M'.2.1 ≤ M.2.1 + (M'.2.1 - M.2.1); omega) ?_
  · have k := hgo s.heap [] _ (zLR_entry hl hc) hwf hPP va_S.rf (Nat.le_refl _) (Nat.le_refl _) rfl
    rw [Nat.sub_self, Nat.sub_self] at k
    exact k
  · intro i H locs lsA pc st hd hz hw' hP' hS'
    have fin : ∀ t : State, t.heap = H → s.WarmedH t.vm → zQc b S0 D cI c3 c4 v M' (As.map (ztr b S0)).toArray s (.returned (v.map (ztr b S0))) t := fun t ht _ => ⟨⟨rfl, hw', by rw [ht]; exact hP'⟩, hS'.F ht⟩
    unfold zretv at hz
    split at hz
    · rename_i x hrt
      cases hz
      exact W.iret hx hb (hret.trans hrt) fin hS'.2.2 hd
    · rename_i x hrt
      split at hz
      · rename_i h01
        cases hz
        exact W.zret hx hb (hret.trans hrt) (by rcases h01 with rfl | rfl <;> rfl) fin hS'.2.2 hd
      · cases hz
    · rename_i x hrt
      cases hz
      exact W.lret hx hb (hret.trans hrt) fin hS'.2.2 hd
    · rename_i C x hrt
      cases hz
      exact W.aret hx hb (hret.trans hrt) (Or.inl ⟨_, rfl⟩) (Or.inr ⟨_, rfl⟩) fin hS'.2.2 hd
    · rename_i C hrt
      cases hz
      exact W.aret hx hb (hret.trans hrt) (Or.inl ⟨_, rfl⟩) (Or.inl rfl) fin hS'.2.2 hd
    · rename_i hrt
      cases hz
      exact W.vret hx hb (hret.trans hrt) fin hS'.2.2 hd
    · cases hz

theorem zclV9_ok : ∀ e ∈ zclT, e.2.2.2.1 = 0 → zown e.2.2.1 < 9 := by decide +kernel
theorem zwsV_in {own C : String} {k : Nat} {y : MethodName} {ws : List Jvm.Cond} (h1 : Cond.methodLink own k y ∈ zTB) (h2 : Cond.instanceMethod y ∈ zTB) (h3 : Cond.selects C y y ∈ zTB) (h4 : Cond.initialized C ∈ zTB) (h5 : GoodIn zTB ws) : GoodIn zTB (wsV own k C y ws) := by
  intro w hw
  unfold wsV at hw
  rcases List.mem_append.mp hw with hw | hw
  · simp only [List.mem_cons, List.not_mem_nil, or_false] at hw
    rcases hw with rfl | rfl | rfl | rfl
    · exact ⟨h1, Or.inl rfl⟩
    · exact ⟨h2, Or.inl rfl⟩
    · exact ⟨h3, Or.inl rfl⟩
    · exact ⟨h4, Or.inl rfl⟩
  · exact h5 w hw
theorem zcl_good {o k mj kd : Nat} {e : Nat × Nat × Nat × Nat × Nat × Nat × Nat × Nat × Nat × Nat} (hm : e ∈ zclT) (h3 : e.2.2.1 = mj) : mj < 186 ∧ (zynm mj).cls = zcn (zown mj) ∧ plainName (zynm mj).cls = true ∧ Cond.initialized (zynm mj).cls ∈ zTB ∧ ((zynm mj).cls ≠ "java/lang/invoke/MethodHandle" ∧ (zynm mj).cls ≠ "java/lang/invoke/VarHandle" ∧ (parseMethodDescriptor (zynm mj).desc).map (fun d => d.parameters.length) = some (znp mj)) ∧ GoodIn zTB (.code (zynm mj) (zbyt mj) (znL mj) (zrt mj) :: zTB) := by
  subst h3
  obtain ⟨-, a1, a2, a3⟩ := zclA_ok e hm
  obtain ⟨b1, b2, b3, b4⟩ := zclD_ok e hm
  refine ⟨a3, a2, b4, zTB_in (zw_mem a1) rfl, ⟨b1, b2, b3⟩, fun w hw => ?_⟩
  rcases List.mem_cons.mp hw with rfl | hw
  · exact ⟨zTB_in (zcw_ok _ a3) rfl, Or.inl rfl⟩
  · exact ⟨hw, good_of_word (List.mem_filter.mp hw).2⟩
theorem ztk {mj : Nat} {st : List Value} (h : (st.take (znp mj)).length = znp mj) (b S0 : Nat) : st.map (ztr b S0) = ((st.take (znp mj)).reverse.map (ztr b S0)).reverse ++ (st.drop (znp mj)).map (ztr b S0) := by
  rw [← List.map_reverse, List.reverse_reverse, ← List.map_append, List.take_append_drop]
set_option maxHeartbeats 4000000 in
theorem zP_all (l : Launch) {b S0 : Nat} (D : va_G) (cI c3 c4 : ClassId) (hbS : b < S0) : ∀ f, zP l b S0 D cI c3 c4 f := by
  intro f
  induction f with
  | zero => intro mi pc ls st M v M' h; cases h
  | succ f ih =>
    intro mi pc ls st M v M' h p e R s m args below meth c M0 Q hC hX hsz hr1 hr2 hret
    rw [zrun] at h
    match hs : stp (mi, pc, ls, st, M) with
    | none => rw [hs] at h; cases h
    | some (.inl r') =>
      rw [hs] at h
      cases h
      obtain ⟨i, h1, h2, h3⟩ := zstp_ret hs
      intro H locs lsA a1 a2 a3 a4 a5 a6 a7
      cases h3
      exact hret i H locs lsA pc st h1 h2 a2 a3 a4
    | some (.inr (.inl (mi', pc', ls', st', M1))) =>
      rw [hs] at h
      obtain ⟨i, len, h1, h2, h3⟩ := zstp_good hs
      have hz := zrun_sz f _ _ h
      simp only at hz
      have hmi : mi' = mi := by
        have g := zgood_sti (mi := mi) (pc := pc) (i := i) (ls := ls) (st := st) (M := M)
        rw [h3] at g
        exact g.1
      subst hmi
      exact (zstep hC hX hsz h1 h2 h3 (by omega) (by omega) (ih mi' pc' ls' st' M1 v M' h hC hX hsz hr1 hr2 hret)).2
    | some (.inr (.inr (c1, k))) =>
      rw [hs] at h
      obtain ⟨⟨v1, M1⟩, h1, h2⟩ := Option.bind_eq_some_iff.mp h
      obtain ⟨mj, As, rest, i, hok, rfl, rfl, ⟨htake, hci⟩, hd⟩ := zstp_call hs
      simp only at h1 h2 hok htake hci hd
      obtain ⟨o1, o2, o3, o4, o5⟩ := zok_of hok
      have hz1 := zrun_sz f _ _ h1
      have hz2 := zrun_sz f _ _ h2
      simp only at hz1 hz2
      intro H locs lsA a1 a2 a3 a4 a5 a6 a7
      obtain ⟨hx, hb, hml, hown, hts, hK, -, hS0, hfr, hlo, hin⟩ := id hC
      refine z_sz fun hHs => ?_
      -- behind the call
      have kk : ∀ (H1 : Heap) (locs1 : List Loc), zwf M1 → va_P D vwCl (zW b S0 cI c3 c4 M1) H1 → va_S (fun q : Nat => S0 ≤ q) s.heap H1 locs1 → W p l e R s m args below meth c H1 locs1 (M.1 - M0.1 + (M1.1 - M.1)) (M.2.1 - M0.2.1 + (M1.2.1 - M.2.1)) Q (F0 m (pc + 3) lsA ((v1.map (ztr b S0)).toList ++ rest.map (ztr b S0))) := by
        intro H1 locs1 b1 b2 b3
        have g := ih mi (pc + 3) ls (v1.toList ++ rest) M1 v M' h2 hC hX hsz hr1 hr2 hret H1 locs1 lsA a1 b1 b2 b3 (by omega) (by omega) (by rw [← a7]; exact zrun_0 f _ _ h1)
        rw [List.map_append] at g
        have e1 : (v1.toList).map (ztr b S0) = (v1.map (ztr b S0)).toList := by cases v1 <;> rfl
        rw [e1] at g
        exact W.cs (by omega) (by omega) g
      have hpc : ∀ U : State, U.heap = H → s.WarmedH U.vm → zPc b S0 D cI c3 c4 As M (As.map (ztr b S0)).toArray U := by
        intro U hU hW
        obtain ⟨L, xs, hX1, hX2⟩ := hX
        refine ⟨rfl, a2, by rw [hU]; exact a3, zK_warm hW hK, by rw [hU]; omega, by rw [hU]; exact Nat.le_trans hS0 a4.1, L, xs, by rw [a7]; exact hX1, ?_⟩
        rw [hU]
        exact (hX2.moved hW.alike).kept (a4.2.1 b (by omega) (by show ¬ S0 ≤ b; omega))
      rcases hci with ⟨k, b0, rfl, q1, q2, q3, rfl, q5, q6⟩ | ⟨k, rfl, q1, q2, rfl, rfl⟩ | ⟨k, b0, rfl, q1, q2, q3, rfl⟩
      · obtain ⟨x, hm, e1, e2, e3, e4⟩ := zcl_of q1 q2
        obtain ⟨hmj, hcls, hpl, hini, hdd, hgood⟩ := zcl_good (o := 0) (k := 0) (kd := 0) hm e3
        obtain ⟨-, w1, w2, w3⟩ := zclV_ok x hm e4
        rw [e1, e2, e3] at w1
        rw [e3] at w2 w3
        have hMet := zP_met ih h1 hbS hmj hcls hpl o4 o5
        obtain ⟨vs, hvs⟩ := zoc_inv q5
        have hown9 : zown mj < 9 := by
          have := zclV9_ok x hm e4
          rwa [e3] at this
        rw [ztk htake b S0, q3, List.map_cons]
        refine z_call (va_runV (As := ((st.take (znp mj)).reverse).map (ztr b S0)) (n := znp mj) (C := zcn (zown mj)) ⟨hx, hb, hml, hown, hts⟩ hMet (cwV (n := znp mj) hts (zwsV_in (zTB_in (zw_mem w1) rfl) (zTB_in (zw_mem w2) rfl) (by rw [← hcls]; exact zTB_in (zw_mem w3) rfl) (by rw [← hcls]; exact hini) hgood) rfl rfl rfl ⟨hcls, hdd⟩ ⟨by show zfr mj + 1 ≤ R.frames; omega, by show 8 + (znL mj + 11) + zlo mj ≤ R.locals; omega⟩) ⟨zPc_blind, ?_, hpc⟩ rfl (by rw [List.length_map, List.length_reverse]; exact htake) (a1.2.1.1) rfl (lv_room (by rw [zcat_tr]; exact o1)) hd ⟨by omega, by omega⟩) a4 kk
        · exact va_recv hK.1 a3 (zvw _ hown9) (zW_get a2 hvs q6)
      · obtain ⟨x, hm, e1, e2, e3, e4⟩ := zcl_of q1 q2
        obtain ⟨hmj, hcls, hpl, hini, hdd, hgood⟩ := zcl_good (o := 0) (k := 0) (kd := 0) hm e3
        obtain ⟨w1, w2⟩ := zclS_ok x hm e4
        rw [e1, e2, e3] at w1
        rw [e3] at w2
        have hMet := zP_met ih h1 hbS hmj hcls hpl o4 o5
        rw [ztk htake b S0]
        rcases w1 with ⟨-, w1⟩ | ⟨-, w1⟩
        · refine z_call (va_runS (As := ((st.take (znp mj)).reverse).map (ztr b S0)) (n := znp mj) ⟨hx, hb, hml, hown, hts⟩ hMet ⟨callB_of (znp mj) hts hgood rfl rfl rfl (hts _ hini) (hts _ (zTB_in (zw_mem w1) rfl)) hdd ⟨by show zfr mj + 1 ≤ R.frames; omega, by show 8 + (znL mj + 11) + zlo mj ≤ R.locals; omega⟩, hts _ (zTB_in (zw_mem w2) rfl)⟩ ⟨zPc_blind, hpc⟩ rfl (by rw [List.length_map, List.length_reverse]; exact htake) (a1.2.1.1) rfl (lv_room (by rw [zcat_tr]; exact o1)) hd ⟨by omega, by omega⟩) a4 kk
        · refine z_call (va_runSN (As := ((st.take (znp mj)).reverse).map (ztr b S0)) (n := znp mj) ⟨hx, hb, hml, hown, hts⟩ hMet ⟨va_cnB (znp mj) hts hgood rfl rfl rfl (hK.2.2.2 _ w1) (hts _ hini) hdd ⟨by show zfr mj + 1 ≤ R.frames; omega, by show 8 + (znL mj + 11) + zlo mj ≤ R.locals; omega⟩, hts _ (zTB_in (zw_mem w2) rfl), trivial⟩ ⟨zPc_blind, hpc⟩ rfl (by rw [List.length_map, List.length_reverse]; exact htake) (a1.2.1.1) rfl (lv_room (by rw [zcat_tr]; exact o1)) hd ⟨by omega, by omega⟩) a4 kk
      · obtain ⟨x, hm, e1, e2, e3, e4⟩ := zcl_of q1 q2
        obtain ⟨hmj, hcls, hpl, hini, hdd, hgood⟩ := zcl_good (o := 0) (k := 0) (kd := 0) hm e3
        obtain ⟨w1, w2, w3, w4⟩ := zclI_ok x hm e4
        rw [e1, e2, e3] at w1
        rw [e3] at w2 w3 w4
        have hMet := zP_met ih h1 hbS hmj hcls hpl o4 o5
        unfold zMet at hMet
        rw [w4] at hMet hgood
        rw [ztk htake b S0, q3, List.map_cons]
        rcases w1 with ⟨-, w1⟩ | ⟨-, w1⟩
        · refine z_call (va_runI (As := ((st.take (znp mj)).reverse).map (ztr b S0)) (n := znp mj) ⟨hx, hb, hml, hown, hts⟩ hMet (cwI (znp mj) hts hgood rfl rfl rfl (hts _ hini) (hts _ (zTB_in (zw_mem w1) rfl)) (hts _ (zTB_in (zw_mem w2) rfl)) w3 hdd ⟨by show zfr mj + 1 ≤ R.frames; omega, by show 8 + (znL mj + 11) + zlo mj ≤ R.locals; omega⟩) ⟨zPc_blind, hpc⟩ rfl (by rw [List.length_map, List.length_reverse]; exact htake) (a1.2.1.1) rfl (lv_room (by rw [zcat_tr]; exact o1)) hd ⟨by omega, by omega⟩) a4 kk
        · refine z_call (va_runIN (As := ((st.take (znp mj)).reverse).map (ztr b S0)) (n := znp mj) ⟨hx, hb, hml, hown, hts⟩ hMet ⟨va_cnB (znp mj) hts hgood rfl rfl rfl (hK.2.2.2 _ w1) (hts _ hini) hdd ⟨by show zfr mj + 1 ≤ R.frames; omega, by show 8 + (znL mj + 11) + zlo mj ≤ R.locals; omega⟩, w3, hts _ (zTB_in (zw_mem w2) rfl)⟩ ⟨zPc_blind, hpc⟩ rfl (by rw [List.length_map, List.length_reverse]; exact htake) (a1.2.1.1) rfl (lv_room (by rw [zcat_tr]; exact o1)) hd ⟨by omega, by omega⟩) a4 kk
