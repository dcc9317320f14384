/-! THE CLAIM OUT OF ONE WALK OF THE LAW'S BODY. Your part is whole_start (and what it stands on); all else here is the same for every law, but numbers. -/
def R_law : String := "RockingRidersLaw"
def lw_P (b : Addr) (xs : List Int32) (args : Array Value) (s : State) : Prop := args = #[.ref b] ∧ s.IntsAt b xs ∧ xs.length ≤ 384 ∧ (Jvm.Cond.and given_1 narrow_1).before args s = true
def lw_Q (_ : Array Value) (s : State) (o : Outcome) (t : State) : Prop := o = .returned (some (.int 1)) ∧ Framed s o t [] 600000 7302250
def lw_Z (below : List Frame) (a : Array Value) (s : State) : State → Prop := fun t => ∃ o, t.status = .running ∧ Ended t below o ∧ lw_Q a s o t
/-- the law's own end, with 1 on the stack, nothing written that was there before, its room as the claim has it -/
theorem lw_ret {p : Program} {l : Launch} {e : Env} {s : State} {m : MethodId} {below : List Frame} {meth : Method} {c : Code} {b : Nat} (hx : p.tables.exec = Jvm.exec) (hb : c.code = code) (hr : meth.sig.returnType = ret) (hlocks : meth.locks = false) {pc : Nat} {H : Heap} {ls : Array Slot} (hdg : decode code pc = .ok (.ireturn, 1)) : W p l e room_1 s m #[Value.ref b] below meth c H [] 600000 7302250 (lw_Z below #[Value.ref b] s) (F0 m pc ls [.int 1]) := by
  intro T hT X
  obtain ⟨fs, hret, hrun, hended, hW, hframe⟩ := X.leave (v := some (.int 1)) (hlocks := hlocks) (fun h => by rw [hr] at h; cases h)
  have hmeth' : T.vm.method? m = some meth := X.method'
  refine ⟨T.setFrames fs, ?_, .returned (some (.int 1)), hrun, hended, rfl, ⟨_, rfl⟩, hW, hframe⟩
  jvm_step X.here [X.here.top, hx, hb, hdg, hmeth', hr, ret, narrow_b1]
  (try refine ⟨rfl, ?_⟩); (try refine ⟨rfl, ?_⟩)
  first | (intro acts; rw [hret _ acts rfl rfl rfl]) | rw [hret _ _ rfl rfl rfl]
  exact Steps.refl _
/-- what holds at the law's entry: the machine, the code, the tables' words (any of lw_tbl by 'hts w (by decide +kernel)'), the script of L ints xs at the cell b, what the Statement gives of the start (any of its parts by flat_of_before) -/
def lw_At (p : Program) (s : State) (m : MethodId) (meth : Method) (c : Code) (b L : Nat) (xs : Nat → Int32) : Prop :=
  p.tables.exec = Jvm.exec ∧ c.code = code ∧ meth.sig.returnType = ret ∧ c.maxLocals = 4 ∧ s.vm.findClass R_law = some m.cls ∧ (∀ w ∈ lw_tbl, w.before #[Value.ref b] s = true) ∧ va_X b L xs s s.heap ∧ b < s.heap.size ∧ meth.locks = false ∧ (Jvm.Cond.and given_1 narrow_1).before #[Value.ref b] s = true
/-- the picture at the law's start: the script alone, at place 0 -/
def zM0 (L : Nat) (xs : Nat → Int32) : zMem := (0, 0, fun a => if a = 0 then some (.inl (L, xs)) else none)
/-- what is to be shown of the picture -/
def zTrue : Prop := ∀ (L : Nat) (xs : Nat → Int32), L ≤ 384 → ∃ M' : zMem, ev 186 0 [some (.ref 0), none, none, none] [] (zM0 L xs) = some (some (.int 1), M') ∧ M'.1 ≤ 600000 ∧ M'.2.1 ≤ 7302250
theorem zl1 : zbyt 186 = code := rfl
theorem zl2 : znL 186 = 4 := rfl
theorem zl3 : zcn (zown 186) = R_law := rfl
theorem zl4 : zfr 186 ≤ room_1.frames := by decide +kernel
theorem zl5 : zlo 186 ≤ room_1.locals := by decide +kernel
theorem zl6 : zini 186 = false := rfl
theorem zl7 : (lg_sl [Value.ref 0]).length ≤ znL 186 := by decide +kernel
theorem zl9 (M : zMem) (L : Nat) (xs : Nat → Int32) (h : M.1 ≤ 600000) : M.1 ≤ (zM0 L xs).1 + room_1.cells := by
  have e1 : (zM0 L xs).1 = 0 := rfl
  have e2 : room_1.cells = 600000 := rfl
  omega
theorem zl10 (M : zMem) (L : Nat) (xs : Nat → Int32) (h : M.2.1 ≤ 7302250) : M.2.1 ≤ (zM0 L xs).2.1 + room_1.slots := by
  have e1 : (zM0 L xs).2.1 = 0 := rfl
  have e2 : room_1.slots = 7302250 := rfl
  omega
set_option maxRecDepth 100000 in
set_option maxHeartbeats 4000000 in
theorem zwhole (hT : zTrue) {p : Program} {e : Env} {s : State} {m : MethodId} {below : List Frame} {meth : Method} {c : Code} (l : Launch) {b L : Nat} {xs : Nat → Int32} (hL : L ≤ 384) (C0 : lw_At p s m meth c b L xs) : W p l e room_1 s m #[Value.ref b] below meth c s.heap [] 0 0 (lw_Z below #[Value.ref b] s) (entryFrame m ([Value.ref b] : List Value).toArray 4) := by
  obtain ⟨hx, hb, hr, hml, hown, hts, hX, hbl, hlocks, hgv⟩ := id C0
  obtain ⟨M', he, hc1, hc2⟩ := hT L xs hL
  obtain ⟨f, hf⟩ := ev_iff.mp he
  have h : ∀ k : Nat, ∃ (c : ClassId) (i : Nat → Nat), k < 9 → u_Kn s (zcn k) (zT k) (zN k) c i := by
    intro k
    by_cases hk : k < 9
    · obtain ⟨c0, i0, h0⟩ := u_known (C := zcn k) (T := zT k) (N := zN k) (n := zN k) hts (zwin k hk) (hts _ (zw_mem (zins_ok k hk)))
      exact ⟨c0, i0, fun _ => h0⟩
    · exact ⟨0, fun _ => 0, fun z => absurd z hk⟩
  obtain ⟨dC, dI, hKc⟩ : ∃ (dC : Nat → ClassId) (dI : Nat → Nat → Nat), ∀ (k : Nat) (q : vw_C), vwCl[k]? = some q → u_Kn s q.1 q.2.1 q.2.2 (dC k) (dI k) := by
    refine ⟨fun k => (h k).choose, fun k => (h k).choose_spec.choose, fun k q hq => ?_⟩
    have hk : k < 9 := (List.getElem?_eq_some_iff.mp hq).1
    rw [zvw k hk] at hq
    cases hq
    exact (h k).choose_spec.choose_spec hk
  obtain ⟨cI, kI, qI, i1, i2, i3⟩ := Cond.arrayClass_spec (hts _ (zw_mem zarr_ok))
  have ao3 := hts _ zao_3
  have ao4 := hts _ zao_4
  obtain ⟨q3, c3, k3, j1, -, j2, j3, j4⟩ := Cond.arrayOver_spec ao3
  obtain ⟨q4, c4, k4, l1, -, l2, l3, l4⟩ := Cond.arrayOver_spec ao4
  have hK : zK (dC, dI) cI c3 c4 s := by
    refine ⟨⟨hKc, fun k q hq => ?_⟩, va_AO.of ao3, va_AO.of ao4, fun w hw => ?_⟩
    · match k, hq with
      | 0, hq => cases hq; exact ⟨fun n z => ⟨fun k h => (by cases h), kI, i2, qI, i3⟩, i1⟩
      | 1, hq => cases hq; exact ⟨fun n z => ⟨fun k h => (by cases h), k3, j2, q3, j3⟩, k3, q3, j2, j3, j1, j4⟩
      | 2, hq => cases hq; exact ⟨fun n z => ⟨fun k h => (by cases h), k4, l2, q4, l3⟩, k4, q4, l2, l3, l1, l4⟩
      | k + 3, hq => cases hq
    · have h1 := hts w (znest_ok w hw)
      have h2 : w.onTables = true := by
        unfold znest at hw
        simp only [List.mem_cons, List.not_mem_nil, or_false] at hw
        rcases hw with rfl | rfl | rfl | rfl | rfl | rfl <;> rfl
      exact va_Nw.of h2 h1
  have hgo := zP_all l (dC, dI) cI c3 c4 hbl f 186 0 [some (.ref 0), none, none, none] [] (zM0 L xs) (some (.int 1)) M' hf (p := p) (e := e) (R := room_1) (s := s) (m := m) (args := #[Value.ref b]) (below := below) (meth := meth) (c := c) (M0 := zM0 L xs) (Q := lw_Z below #[Value.ref b] s)
    ⟨hx, hb.trans zl1.symm, hml.trans zl2.symm, by rw [zl3]; exact hown, fun w hw => hts w (List.mem_filter.mp hw).1, hK, hbl, Nat.le_refl _, zl4, zl5, fun h => by rw [zl6] at h; cases h⟩ ⟨L, xs, rfl, hX⟩ (Nat.le_refl _) (zl9 M' L xs hc1) (zl10 M' L xs hc2) ?_
  · have k := hgo s.heap [] _ (zLR_entry (mj := 186) (As := [.ref 0]) zl7 (fun _ v hv => by rw [List.mem_singleton.mp hv]; rfl)) (fun a ha => by
      show (if a = 0 then some (Sum.inl (L, xs)) else none : Option zPC).isSome = true ↔ a ≤ 0
      rw [if_neg (by omega)]
      exact ⟨fun z => (by cases z), fun z => (by omega)⟩) (fun k q hq => by cases hq) va_S.rf (Nat.le_refl _) (Nat.le_refl _) rfl
    rw [lg_entry_eq]
    exact k
  · intro i H locs lsA pc st hd hz hw' hP' hS'
    have hst : i = .ireturn ∧ st = [.int 1] := by
      unfold zretv at hz
      split at hz
      · cases hz; exact ⟨rfl, rfl⟩
      · split at hz
        · cases hz; exact ⟨rfl, rfl⟩
        · cases hz
      · cases hz
      · cases hz
      · cases hz
      · cases hz
      · cases hz
    obtain ⟨rfl, rfl⟩ := hst
    refine va_forget hS'.2.2 ?_
    refine W.widen (k := 600000) (n := 7302250) (Nat.le_trans (Nat.sub_le _ _) hc1) (Nat.le_trans (Nat.sub_le _ _) hc2) ?_
    exact lw_ret hx hb hr hlocks hd
