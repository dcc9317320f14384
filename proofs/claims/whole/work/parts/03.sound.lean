/-! What a run of the picture says of the machine -/
def zph (b S0 a : Nat) : Nat := if a = 0 then b else S0 + (a - 1)
def ztr (b S0 : Nat) : Value → Value
  | .ref a => .ref (zph b S0 a)
  | v => v
def zcv (b S0 : Nat) (cI c3 c4 : ClassId) : Option zPC → va_E
  | some (.inl (n, f)) => .inl (cI, n, .inl f)
  | some (.inr (.inl (k, n, f))) => .inl (if k = 3 then c3 else c4, n, .inr (.inr (.inr (.inr (fun j => (f j).map (zph b S0))))))
  | some (.inr (.inr (ci, vs))) => .inr (ci, vs.map (ztr b S0))
  | none => .inr (0, [])
def zW (b S0 : Nat) (cI c3 c4 : ClassId) (M : zMem) : va_W := (List.range M.1).map fun i => (S0 + i, zcv b S0 cI c3 c4 (mget M (i + 1)))
def zwf (M : zMem) : Prop := ∀ a, 0 < a → ((mget M a).isSome = true ↔ a ≤ M.1)
def ztys (cI c3 c4 : ClassId) : List (ClassId × FieldType) := [(cI, .int), (c3, .object RX3), (c4, .object RX4)]
def zK (D : va_G) (cI c3 c4 : ClassId) (U : State) : Prop := va_K D vwCl (ztys cI c3 c4) U ∧ va_AO RX3 U ∧ va_AO RX4 U ∧ ∀ w ∈ znest, va_Nw w U
def zTB : List Jvm.Cond := lw_tbl.filter goodWord
theorem zTB_in {w : Jvm.Cond} (h : w ∈ lw_tbl) (hg : goodWord w = true) : w ∈ zTB := List.mem_filter.mpr ⟨h, hg⟩
def zCx (b S0 : Nat) (D : va_G) (cI c3 c4 : ClassId) (mi : Nat) (p : Program) (R : Room) (s : State) (m : MethodId) (args : Array Value) (meth : Method) (c : Code) : Prop :=
  p.tables.exec = Jvm.exec ∧ c.code = zbyt mi ∧ c.maxLocals = znL mi ∧ s.vm.findClass (zcn (zown mi)) = some m.cls ∧ (∀ w ∈ zTB, w.before args s = true) ∧ zK D cI c3 c4 s ∧ b < S0 ∧ S0 ≤ s.heap.size ∧ zfr mi ≤ R.frames ∧ zlo mi ≤ R.locals ∧ (zini mi = true → meth.name = "<init>")
def zLR (b S0 mi : Nat) (lsA : Array Slot) (ls : zLS) : Prop := ls.length = znL mi ∧ lv_has lsA (znL mi) [] ∧ (∀ (i : Nat) (v : Value), ls[i]? = some (some v) → lsA[i]? = some (.val (ztr b S0 v))) ∧ (zhl mi = false → ∀ (i : Nat) (v : Value), ls[i]? = some (some v) → v.category = 1)
theorem ztr_cat (b S0 : Nat) (v : Value) : (ztr b S0 v).category = v.category := by cases v <;> rfl
theorem zcat_tr (b S0 : Nat) (st : List Value) : ((st.map (ztr b S0)).map fun v => v.category).sum = zcat st := by
  unfold zcat
  rw [List.map_map]
  congr 1
  apply List.map_congr_left
  intro v _
  exact ztr_cat b S0 v
-- the world
theorem zW_get {b S0 : Nat} {cI c3 c4 : ClassId} {M : zMem} {a : Nat} {c : zPC} (hw : zwf M) (h : mget M a = some c) (ha : a ≠ 0) : (zW b S0 cI c3 c4 M)[a - 1]? = some (zph b S0 a, zcv b S0 cI c3 c4 (some c)) := by
  have h1 : a ≤ M.1 := (hw a (by omega)).mp (by rw [h]; rfl)
  unfold zW
  rw [List.getElem?_map, List.getElem?_range (by omega)]
  show some (S0 + (a - 1), zcv b S0 cI c3 c4 (mget M (a - 1 + 1))) = _
  rw [show a - 1 + 1 = a by omega, h, zph, if_neg ha]
theorem zW_len {b S0 : Nat} {cI c3 c4 : ClassId} {M : zMem} : (zW b S0 cI c3 c4 M).length = M.1 := by simp [zW]
theorem zW_set {b S0 : Nat} {cI c3 c4 : ClassId} {M : zMem} {a : Nat} (c : zPC) (ha : a ≠ 0) : (zW b S0 cI c3 c4 M).set (a - 1) (zph b S0 a, zcv b S0 cI c3 c4 (some c)) = zW b S0 cI c3 c4 (mset M a c) := by
  apply List.ext_getElem?
  intro i
  rw [List.getElem?_set, zW_len]
  unfold zW
  rw [List.getElem?_map, List.getElem?_map]
  by_cases hi : i < M.1
  · rw [List.getElem?_range hi, List.getElem?_range (by exact hi)]
    simp only [Option.map_some, mget_set]
    by_cases e : a - 1 = i
    · rw [if_pos e, if_pos (by omega), if_pos (by omega), zph, if_neg ha, e]
    · rw [if_neg e, if_neg (by omega)]
  · rw [show (List.range M.1)[i]? = none from List.getElem?_eq_none (by simp; omega), show (List.range (mset M a c).1)[i]? = none from List.getElem?_eq_none (by rw [mset_1]; simp; omega)]
    by_cases e : a - 1 = i
    · rw [if_pos e, if_neg (by omega)]; rfl
    · rw [if_neg e]; rfl
theorem zW_new {b S0 : Nat} {cI c3 c4 : ClassId} {M : zMem} (z : Nat) (c : zPC) : zW b S0 cI c3 c4 M ++ [(S0 + M.1, zcv b S0 cI c3 c4 (some c))] = zW b S0 cI c3 c4 (mnew M z c) := by
  apply List.ext_getElem?
  intro i
  unfold zW
  rw [List.getElem?_append, List.getElem?_map, List.length_map, List.length_range, List.getElem?_map, mnew_1]
  by_cases hi : i < M.1
  · rw [if_pos hi, List.getElem?_range hi, List.getElem?_range (by omega)]
    simp only [Option.map_some, mget_new]
    rw [if_neg (by omega)]
  · rw [if_neg hi]
    by_cases e : i = M.1
    · subst e
      rw [Nat.sub_self, List.getElem?_range (by omega)]
      simp only [Option.map_some, mget_new]
      rw [if_pos trivial]; rfl
    · rw [show (List.range (M.1 + 1))[i]? = none from List.getElem?_eq_none (by simp; omega), show [(S0 + M.1, zcv b S0 cI c3 c4 (some c))][i - M.1]? = none from List.getElem?_eq_none (by simp; omega)]
      rfl
theorem zW_D {b S0 : Nat} {cI c3 c4 : ClassId} {M : zMem} : va_D (fun q : Nat => S0 ≤ q) (zW b S0 cI c3 c4 M) := by
  have key : ∀ (k : Nat) (q : Nat × va_E), (zW b S0 cI c3 c4 M)[k]? = some q → q.1 = S0 + k := by
    intro k q h
    unfold zW at h
    rw [List.getElem?_map] at h
    obtain ⟨i, hi, rfl⟩ := Option.map_eq_some_iff.mp h
    obtain ⟨h1, h2⟩ := List.getElem?_eq_some_iff.mp hi
    rw [List.getElem_range] at h2
    rw [h2]
  exact ⟨fun i j x y h1 h2 h3 => by have a := key i x h1; have b := key j y h2; omega, fun k q h => by rw [key k q h]; exact Nat.le_add_right _ _⟩
theorem zwf_set {M : zMem} {a : Nat} {c d : zPC} (hw : zwf M) (h : mget M a = some d) : zwf (mset M a c) := by
  intro q hq
  rw [mget_set, mset_1]
  by_cases e : q = a
  · subst e
    rw [if_pos rfl]
    have := (hw q hq).mp (by rw [h]; rfl)
    exact ⟨fun _ => this, fun _ => rfl⟩
  · rw [if_neg e]; exact hw q hq
theorem zwf_new {M : zMem} {z : Nat} {c : zPC} (hw : zwf M) : zwf (mnew M z c) := by
  intro q hq
  rw [mget_new, mnew_1]
  by_cases e : q = M.1 + 1
  · subst e
    rw [if_pos rfl]
    exact ⟨fun _ => Nat.le_refl _, fun _ => rfl⟩
  · rw [if_neg e, hw q hq]; omega
-- locals
def zLl (b S0 : Nat) (ls : zLS) : List (Nat × Value) := (List.range ls.length).filterMap fun i => match ls[i]? with
  | some (some v) => some (i, ztr b S0 v)
  | _ => none
theorem zLl_mem {b S0 : Nat} {ls : zLS} {i : Nat} {v : Value} (h : ls[i]? = some (some v)) : (i, ztr b S0 v) ∈ zLl b S0 ls := by
  refine List.mem_filterMap.mpr ⟨i, List.mem_range.mpr (List.getElem?_eq_some_iff.mp h).1, ?_⟩
  rw [h]
theorem zLl_of {b S0 : Nat} {ls : zLS} {q : Nat × Value} (h : q ∈ zLl b S0 ls) : ∃ v, ls[q.1]? = some (some v) ∧ q.2 = ztr b S0 v := by
  obtain ⟨i, -, hi⟩ := List.mem_filterMap.mp h
  match hl : ls[i]? with
  | some (some v) =>
    rw [hl] at hi
    cases hi
    exact ⟨v, hl, rfl⟩
  | some none => rw [hl] at hi; cases hi
  | none => rw [hl] at hi; cases hi
theorem zLR.has {b S0 mi : Nat} {lsA : Array Slot} {ls : zLS} (h : zLR b S0 mi lsA ls) : lv_has lsA (znL mi) (zLl b S0 ls) := by
  refine ⟨h.2.1.1, h.2.1.2.1, fun q hq => ?_⟩
  obtain ⟨v, h1, h2⟩ := zLl_of hq
  rw [h2]
  exact h.2.2.1 _ _ h1
theorem zclr_len (ls : zLS) (k : Nat) : (zclr ls k).length = ls.length := by
  unfold zclr
  split
  · rfl
  · split
    · split
      · simp
      · rfl
    · rfl
theorem zclr_at {ls : zLS} {k j : Nat} {w : Value} (h : (zclr ls k)[j]? = some (some w)) : ls[j]? = some (some w) ∧ ¬ (j + 1 = k ∧ w.category = 2) := by
  unfold zclr at h
  split at h
  · exact ⟨h, by omega⟩
  · rename_i i
    split at h
    · rename_i v hv
      split at h
      · rename_i hc
        rw [List.getElem?_set] at h
        by_cases e : i = j
        · rw [if_pos e] at h
          split at h
          · cases h
          · cases h
        · rw [if_neg e] at h
          exact ⟨h, by omega⟩
      · rename_i hc
        refine ⟨h, ?_⟩
        rintro ⟨e1, e2⟩
        have : j = i := by omega
        subst this
        rw [hv] at h
        cases h
        exact hc e2
    · rename_i hv
      refine ⟨h, ?_⟩
      rintro ⟨e1, e2⟩
      have : j = i := by omega
      subst this
      exact hv _ h
theorem zLR.st1 {b S0 mi : Nat} {lsA ls' : Array Slot} {ls : zLS} {k : Nat} {v : Value} (h : zLR b S0 mi lsA ls) (hc : v.category = 1) (hk : k < ls.length)
    (h' : lv_has ls' (znL mi) ((k, ztr b S0 v) :: (zLl b S0 ls).filter (fun q => !(q.1 == k) && !(q.1 + 1 == k && q.2.category == 2)))) : zLR b S0 mi ls' (zs1 mi ls k v) := by
  have hlen : (if zhl mi = true then zclr ls k else ls).length = ls.length := by
    split
    · exact zclr_len ls k
    · rfl
  have key : ∀ (j : Nat) (w : Value), (zs1 mi ls k v)[j]? = some (some w) → (j = k ∧ w = v) ∨ (j ≠ k ∧ ls[j]? = some (some w) ∧ ¬ (j + 1 = k ∧ w.category = 2)) := by
    intro j w hj
    unfold zs1 at hj
    rw [List.getElem?_set, hlen] at hj
    by_cases e : k = j
    · rw [if_pos e, if_pos (by omega)] at hj
      cases hj
      exact Or.inl ⟨e.symm, rfl⟩
    · rw [if_neg e] at hj
      split at hj
      · exact Or.inr ⟨fun z => e z.symm, zclr_at hj⟩
      · rename_i hh
        refine Or.inr ⟨fun z => e z.symm, hj, fun z => ?_⟩
        have := h.2.2.2 (by simpa using hh) j w hj
        omega
  refine ⟨by unfold zs1; rw [List.length_set, hlen]; exact h.1, ⟨h'.1, h'.2.1, fun q hq => by cases hq⟩, fun j w hj => ?_, fun hh j w hj => ?_⟩
  · rcases key j w hj with ⟨rfl, rfl⟩ | ⟨e, h1, h2⟩
    · exact h'.2.2 _ List.mem_cons_self
    · refine h'.2.2 (j, ztr b S0 w) (List.mem_cons_of_mem _ (List.mem_filter.mpr ⟨zLl_mem h1, ?_⟩))
      simp only [Bool.and_eq_true, Bool.not_eq_true', beq_eq_false_iff_ne, ne_eq, Bool.and_eq_false_iff]
      refine ⟨e, ?_⟩
      by_cases e2 : j + 1 = k
      · right
        rw [ztr_cat]
        exact fun z => h2 ⟨e2, z⟩
      · left; exact e2
  · rcases key j w hj with ⟨rfl, rfl⟩ | ⟨e, h1, h2⟩
    · exact hc
    · exact h.2.2.2 hh j w h1
theorem zLR.st2 {b S0 mi : Nat} {lsA ls' : Array Slot} {ls : zLS} {k : Nat} {v : Value} (h : zLR b S0 mi lsA ls) (hl : zhl mi = true) (hk : k + 1 < ls.length)
    (h' : lv_has ls' (znL mi) ((k, ztr b S0 v) :: (zLl b S0 ls).filter (fun q => !(q.1 == k) && (!(q.1 == k + 1) && !(q.1 + 1 == k && q.2.category == 2))))) : zLR b S0 mi ls' (zs2 ls k v) := by
  have key : ∀ (j : Nat) (w : Value), (zs2 ls k v)[j]? = some (some w) → (j = k ∧ w = v) ∨ (j ≠ k ∧ j ≠ k + 1 ∧ ls[j]? = some (some w) ∧ ¬ (j + 1 = k ∧ w.category = 2)) := by
    intro j w hj
    unfold zs2 at hj
    rw [List.getElem?_set, List.length_set, zclr_len] at hj
    by_cases e1 : k + 1 = j
    · rw [if_pos e1, if_pos (by omega)] at hj
      cases hj
    · rw [if_neg e1, List.getElem?_set, zclr_len] at hj
      by_cases e : k = j
      · rw [if_pos e, if_pos (by omega)] at hj
        cases hj
        exact Or.inl ⟨e.symm, rfl⟩
      · rw [if_neg e] at hj
        exact Or.inr ⟨fun z => e z.symm, fun z => e1 z.symm, zclr_at hj⟩
  refine ⟨by unfold zs2; rw [List.length_set, List.length_set, zclr_len]; exact h.1, ⟨h'.1, h'.2.1, fun q hq => by cases hq⟩, fun j w hj => ?_, fun hh j w hj => by rw [hl] at hh; cases hh⟩
  rcases key j w hj with ⟨rfl, rfl⟩ | ⟨e, e1, h1, h2⟩
  · exact h'.2.2 _ List.mem_cons_self
  · refine h'.2.2 (j, ztr b S0 w) (List.mem_cons_of_mem _ (List.mem_filter.mpr ⟨zLl_mem h1, ?_⟩))
    simp only [Bool.and_eq_true, Bool.not_eq_true', beq_eq_false_iff_ne, ne_eq, Bool.and_eq_false_iff]
    refine ⟨e, e1, ?_⟩
    by_cases e2 : j + 1 = k
    · right
      rw [ztr_cat]
      exact fun z => h2 ⟨e2, z⟩
    · left; exact e2
-- tables
theorem zfl_of {o k ci j : Nat} (h : zfl o k = some (ci, j)) : j < zN ci ∧ ci < 9 ∧ Cond.fieldLink (zcn o) k ((zT ci) j).1 ((zT ci) j).2.1 ((zT ci) j).2.2.1 ∈ zTB := by
  unfold zfl at h
  obtain ⟨e, he, hx⟩ := Option.map_eq_some_iff.mp h
  have hm := List.mem_of_find?_eq_some he
  have hq := List.find?_some he
  simp only [Bool.and_eq_true, beq_iff_eq] at hq
  obtain ⟨h1, h2, h3⟩ := zflT_ok e hm
  cases hx
  rw [hq.1, hq.2] at h1
  exact ⟨h2, h3, zTB_in (zw_mem h1) rfl⟩
def zty (ci j : Nat) : FieldType := (parseFieldDescriptor ((zT ci) j).2.2.1).getD .int
theorem zty_ok : ∀ ci, ci < 9 → ∀ k, k < zN ci → parseFieldDescriptor ((zT ci) k).2.2.1 = some (zty ci k) := by decide +kernel
theorem zin_good {ci : Nat} (h : ci < 9) : ∀ w ∈ u_ws (zcn ci) (zT ci) (zN ci), w ∈ zTB := by
  intro w hw
  refine zTB_in (zwin ci h w hw) ?_
  unfold u_ws at hw
  obtain ⟨k, -, rfl⟩ := List.mem_map.mp hw
  unfold u_lay
  split <;> rfl
theorem zfit_ok {ci j : Nat} {v : Value} (h : zfit ci j v = true) (hp : parseFieldDescriptor ((zT ci) j).2.2.1 = some (zty ci j)) (b S0 : Nat) : narrow (zty ci j) (ztr b S0 v) = ztr b S0 v ∧ fits (zty ci j) (ztr b S0 v) = true := by
  unfold zfit at h
  rw [hp] at h
  generalize zty ci j = t at h
  cases t <;> cases v <;> first
    | exact absurd h Bool.false_ne_true
    | exact ⟨rfl, rfl⟩
    | skip
  all_goals
    rename_i x
    simp only [Bool.or_eq_true, beq_iff_eq] at h
    rcases h with rfl | rfl <;> exact ⟨rfl, rfl⟩
theorem znc_of {o k ci : Nat} (h : znc o k = some ci) : ci < 9 ∧ Cond.classLink (zcn o) k (zcn ci) ∈ zTB := by
  unfold znc at h
  obtain ⟨e, he, hx⟩ := Option.map_eq_some_iff.mp h
  have hm := List.mem_of_find?_eq_some he
  have hq := List.find?_some he
  simp only [Bool.and_eq_true, beq_iff_eq] at hq
  obtain ⟨h1, h2⟩ := zncT_ok e hm
  subst hx
  rw [hq.1, hq.2] at h1
  exact ⟨h2, zTB_in (zw_mem h1) rfl⟩
theorem zcL_of {o k : Nat} {v : Int64} (h : zcL o k = some v) : Cond.constantLong (zcn o) k v ∈ zTB := by
  unfold zcL at h
  obtain ⟨e, he, hx⟩ := Option.map_eq_some_iff.mp h
  have hm := List.mem_of_find?_eq_some he
  have hq := List.find?_some he
  simp only [Bool.and_eq_true, beq_iff_eq] at hq
  have h1 := zclcT_ok e hm
  subst hx
  rw [hq.1, hq.2] at h1
  exact zTB_in (zw_mem h1) rfl
theorem zcI_of {o k : Nat} {v : Int32} (h : zcI o k = some v) : Cond.constant (zcn o) k v ∈ zTB := by
  unfold zcI at h
  obtain ⟨e, he, hx⟩ := Option.map_eq_some_iff.mp h
  have hm := List.mem_of_find?_eq_some he
  have hq := List.find?_some he
  simp only [Bool.and_eq_true, beq_iff_eq] at hq
  have h1 := zcicT_ok e hm
  subst hx
  rw [hq.1, hq.2] at h1
  exact zTB_in (zw_mem h1) rfl
theorem zoi_of {o k : Nat} (h : zoi o k = true) : Cond.methodLink (zcn o) k objectInit ∈ zTB := by
  unfold zoi at h
  obtain ⟨e, he, hx⟩ := List.any_eq_true.mp h
  simp only [Bool.and_eq_true, beq_iff_eq] at hx
  have h1 := ziT_ok e he
  rw [hx.1, hx.2] at h1
  exact zTB_in (zw_mem h1) rfl
theorem zac_of {o k : Nat} (h : zac o k = true) : Cond.methodLink (zcn o) k arraycopyName ∈ zTB ∧ Cond.static arraycopyName ∈ zTB ∧ Cond.initialized "java/lang/System" ∈ zTB := by
  unfold zac at h
  obtain ⟨e, he, hx⟩ := List.any_eq_true.mp h
  simp only [Bool.and_eq_true, beq_iff_eq] at hx
  obtain ⟨h1, h2, h3⟩ := zacT_ok e he
  rw [hx.1, hx.2] at h1
  exact ⟨zTB_in (zw_mem h1) rfl, zTB_in (zw_mem h2) rfl, zTB_in (zw_mem h3) rfl⟩
theorem zmm_of {o k w : Nat} (h : zmm o k = some w) : (w = 0 → Cond.methodLink (zcn o) k Lib.Math.max.name ∈ zTB ∧ Cond.static Lib.Math.max.name ∈ zTB) ∧ (w = 1 → Cond.methodLink (zcn o) k Lib.Math.min.name ∈ zTB ∧ Cond.static Lib.Math.min.name ∈ zTB) ∧ Cond.initialized "java/lang/Math" ∈ zTB ∧ w < 2 := by
  unfold zmm at h
  obtain ⟨e, he, hx⟩ := Option.map_eq_some_iff.mp h
  have hm := List.mem_of_find?_eq_some he
  have hq := List.find?_some he
  simp only [Bool.and_eq_true, beq_iff_eq] at hq
  obtain ⟨h1, h2, h3, h4⟩ := zmmT_ok e hm
  subst hx
  rw [hq.1, hq.2] at h1 h2
  exact ⟨fun z => ⟨zTB_in (zw_mem (h1 z).1) rfl, zTB_in (zw_mem (h1 z).2) rfl⟩, fun z => ⟨zTB_in (zw_mem (h2 z).1) rfl, zTB_in (zw_mem (h2 z).2) rfl⟩, zTB_in (zw_mem h3) rfl, h4⟩
