/-! Call by call, six: sheet, copy -/
theorem nI_tI {n : Nat} (h : n ≤ 300) : (nI n).toInt = n := by
  have z : ∀ n, n ≤ 300 → (nI n).toInt = (n : Int) := by decide +kernel
  exact z n h
theorem t64add (a b : Int32) : (a.toInt64 + b.toInt64).toInt = a.toInt + b.toInt := by
  rw [Int64.toInt_add, Int32.toInt_toInt64, Int32.toInt_toInt64]
  have h1 := Int32.toInt_lt a
  have h2 := Int32.toInt_lt b
  have h3 := Int32.le_toInt a
  have h4 := Int32.le_toInt b
  unfold Int.bmod
  dsimp only
  split <;> omega
abbrev zBey (i : Int32) (n : Int64) (all : Int32) : Prop := i < 0 ∨ n < 0 ∨ all.toInt64 < i.toInt64 + n
theorem m_isBeyond {M : zMem} {i all : Int32} {n : Int64} : ev 176 0 [some (.int i), some (.long n), none, some (.int all)] [] M = some (some (.int (if zBey i n all then 1 else 0)), M) := by
  simp only [e176_0, e176_1, e176_4, e176_5, e176_6, e176_7, e176_10, e176_11, e176_12, e176_13, e176_14, e176_15, e176_16, e176_17, e176_20, e176_21, e176_24, e176_25, ↓reduceIte, zth_v, zth_n, zthv_s, zthi_s, zthm_s, true_or, or_true, eq_self, ne_eq, not_false_eq_true, not_true_eq_false, and_self, and_true, true_and, false_and, and_false, lc_lt, lc_le]
  unfold zBey
  by_cases q1 : i < 0
  · rw [if_pos q1, if_pos (Or.inl q1)]
  · rw [if_neg q1]
    by_cases q2 : n < 0
    · rw [if_pos q2, if_pos (Or.inr (Or.inl q2))]
    · rw [if_neg q2]
      by_cases q3 : i.toInt64 + n ≤ all.toInt64
      · rw [if_pos q3, if_neg]
        rintro (z | z | z)
        · exact q1 z
        · exact q2 z
        · exact Int64.not_lt.mpr q3 z
      · rw [if_neg q3, if_pos (Or.inr (Or.inr (Int64.not_le.mp q3)))]
def zNoRun (i n : Int32) (len : Nat) : Prop := n < 0 ∨ i < 0 ∨ nI len < i ∨ nI len - i < n
theorem run_or (i n : Int32) {len : Nat} (hl : len ≤ 60) : (zNoRun i n len ∧ zBey i n.toInt64 (nI len)) ∨ ∃ a b, a + b ≤ len ∧ i = nI a ∧ n = nI b ∧ ¬ zNoRun i n len ∧ ¬ zBey i n.toInt64 (nI len) := by
  unfold zNoRun zBey
  have el := nI_tI (n := len) (by omega)
  have z0 : (0 : Int32).toInt = 0 := by decide
  have z1 : (0 : Int64).toInt = 0 := by decide
  have eb : ((nI len).toInt64 < i.toInt64 + n.toInt64) ↔ (len : Int) < i.toInt + n.toInt := by
    rw [Int64.lt_iff_toInt_lt, t64add, Int32.toInt_toInt64, el]
  have en : (n.toInt64 < 0) ↔ n < 0 := by
    rw [Int64.lt_iff_toInt_lt, Int32.lt_iff_toInt_lt, Int32.toInt_toInt64, z0, z1]
  rw [eb, en]
  rcases kr60 i (n := len + 1) (by omega) with h | ⟨a, ha, rfl⟩
  · left
    rcases h with h | h
    · exact ⟨Or.inr (Or.inl h), Or.inl h⟩
    · have e1 := nI_tI (n := len + 1) (by omega)
      have h2 : (len : Int) + 1 ≤ i.toInt := by
        rw [Int32.le_iff_toInt_le, e1] at h; omega
      refine ⟨Or.inr (Or.inr (Or.inl ?_)), ?_⟩
      · rw [Int32.lt_iff_toInt_lt, el]; omega
      · by_cases q : n < 0
        · exact Or.inr (Or.inl q)
        · rw [Int32.lt_iff_toInt_lt, z0] at q
          exact Or.inr (Or.inr (by omega))
  · have ea := nI_tI (n := a) (by omega)
    have es : nI len - nI a = nI (len - a) := pk_sub (by omega)
    have ed := nI_tI (n := len - a) (by omega)
    rw [es]
    have hx : (nI len < nI a) ↔ False := ⟨fun z => nI_nlt (by omega) (by omega) z, fun z => z.elim⟩
    have hi : (nI a < 0) ↔ False := ⟨fun z => nI_pos (by omega) z, fun z => z.elim⟩
    rcases kr60 n (n := len + 1) (by omega) with h | ⟨b, hb, rfl⟩
    · left
      rcases h with h | h
      · exact ⟨Or.inl h, Or.inr (Or.inl h)⟩
      · have e1 := nI_tI (n := len + 1) (by omega)
        have h2 : (len : Int) + 1 ≤ n.toInt := by
          rw [Int32.le_iff_toInt_le, e1] at h; omega
        exact ⟨Or.inr (Or.inr (Or.inr (by rw [Int32.lt_iff_toInt_lt, ed]; omega))), Or.inr (Or.inr (by omega))⟩
    · have ebb := nI_tI (n := b) (by omega)
      have hn : (nI b < 0) ↔ False := ⟨fun z => nI_pos (by omega) z, fun z => z.elim⟩
      by_cases q : a + b ≤ len
      · right
        refine ⟨a, b, q, rfl, rfl, ?_, ?_⟩
        · rintro (z | z | z | z)
          · exact hn.mp z
          · exact hi.mp z
          · exact hx.mp z
          · rw [Int32.lt_iff_toInt_lt, ed, ebb] at z; omega
        · rintro (z | z | z)
          · exact hi.mp z
          · exact hn.mp z
          · omega
      · left
        exact ⟨Or.inr (Or.inr (Or.inr (by rw [Int32.lt_iff_toInt_lt, ed, ebb]; omega))), Or.inr (Or.inr (by omega))⟩
theorem s_hasRun_in {M : zMem} {a n : Nat} {l : Int32} {g : Nat → Int32} (h : zSh M a l n g) {i m : Int32} (hr : ¬ zNoRun i m n) : ev 49 0 [some (.ref a), some (.int i), some (.int m)] [] M = some (some (.int 1), M) := by
  have z := s_hasRun h.2.2.1 h.2.2.2 h.2.1 h.1 (i := i) (m := m)
  unfold zNoRun at hr
  rw [if_neg hr] at z
  exact z
theorem s_hasRun_out {M : zMem} {a n : Nat} {l : Int32} {g : Nat → Int32} (h : zSh M a l n g) {i m : Int32} (hr : zNoRun i m n) : ev 49 0 [some (.ref a), some (.int i), some (.int m)] [] M = some (some (.int 0), M) := by
  have z := s_hasRun h.2.2.1 h.2.2.2 h.2.1 h.1 (i := i) (m := m)
  unfold zNoRun at hr
  rw [if_pos hr] at z
  exact z
theorem m_zero_loop {x : Nat → Int32} {k n : Nat} (hk : k < 4) (hn : n ≤ 60) {y : Option Value} : ∀ q j M A, j + q = n → zMdl M x A → (∀ i, i < j → A 64 (60 * k + i) = 0) → ∃ M' A', ev 171 65 [some (.ref 44), some (.int (nI k)), y, some (.int (nI n)), some (.int (nI j))] [] M = ev 171 90 [some (.ref 44), some (.int (nI k)), y, some (.int (nI n)), some (.int (nI n))] [] M' ∧ zMdl M' x A' ∧ (∀ a, a ≠ 64 → A' a = A a) ∧ (∀ i, i < n → A' 64 (60 * k + i) = 0) ∧ (∀ i, (i < 60 * k ∨ 60 * k + 60 ≤ i) → A' 64 i = A 64 i) ∧ zFr M M' 44 65 := by
  intro q
  induction q with
  | zero =>
    intro j M A hj h hz
    obtain rfl : j = n := by omega
    refine ⟨M, A, ?_, h, fun _ _ => rfl, hz, fun _ _ => rfl, zFr.rf⟩
    have g1 : nI j ≤ nI j := ni_ge (Nat.le_refl _) (by omega)
    simp only [e171_0, e171_1, e171_4, e171_7, e171_7n, e171_8, e171_9, e171_12, e171_13, e171_14, e171_15, e171_16, e171_19, e171_22, e171_25, e171_26, e171_28, e171_31, e171_31n, e171_32, e171_34, e171_37, e171_38, e171_39, e171_42, e171_42n, e171_43, e171_44, e171_47, e171_48, e171_48n, e171_49, e171_52, e171_53, e171_54, e171_55, e171_55n, e171_56, e171_59, e171_60, e171_61, e171_62, e171_63, e171_65, e171_67, e171_68, e171_71, e171_71n, e171_72, e171_75, e171_77, e171_78, e171_79, e171_81, e171_82, e171_83, e171_84, e171_87, e171_91, e171_92, e171_95, ↓reduceIte, zth_v, zth_n, zthv_s, zthi_s, zthm_s, true_or, or_true, eq_self, ne_eq, not_false_eq_true, not_true_eq_false, and_self, and_true, true_and, false_and, and_false, g1]
  | succ q ih =>
    intro j M A hj h hz
    have g1 : ¬ nI n ≤ nI j := ni_nle (by omega) (by omega)
    obtain ⟨M', A', i1, i2, i3, i4, i5, i6⟩ := ih (j + 1) _ _ (by omega) (h.setA 64 (by omega) (by omega) (upd (A 64) (60 * k + j) 0)) (fun i hi => by
      rw [va_up_self]
      by_cases e : i = j
      · subst e; exact pk_us
      · rw [pk_un (by omega)]; exact hz i (by omega))
    refine ⟨M', A', ?_, i2, fun a ha => by rw [i3 a ha, va_up_ne _ _ ha], i4, fun i hi => by rw [i5 i hi, va_up_self, pk_un (by omega)], zFr.tr (zFr.rf.set (by omega) (by omega)) i6⟩
    have o44 := h.1
    have o64 := h.2 64 (by omega) (by omega)
    have s64 := zis_in (n := zsz 64) (f := A 64) (x := 0) (j := 60 * k + j) (show 60 * k + j < 240 by omega) (show 240 < 2 ^ 31 by omega)
    rw [e171_65]
    simp only [e171_0, e171_1, e171_4, e171_7, e171_7n, e171_8, e171_9, e171_12, e171_13, e171_14, e171_15, e171_16, e171_19, e171_22, e171_25, e171_26, e171_28, e171_31, e171_31n, e171_32, e171_34, e171_37, e171_38, e171_39, e171_42, e171_42n, e171_43, e171_44, e171_47, e171_48, e171_48n, e171_49, e171_52, e171_53, e171_54, e171_55, e171_55n, e171_56, e171_59, e171_60, e171_61, e171_62, e171_63, e171_67, e171_68, e171_71, e171_71n, e171_72, e171_75, e171_77, e171_78, e171_79, e171_81, e171_82, e171_83, e171_84, e171_87, e171_91, e171_92, e171_95, ↓reduceIte, zth_v, zth_n, zthv_s, zthi_s, zthm_s, true_or, or_true, eq_self, ne_eq, not_false_eq_true, not_true_eq_false, and_self, and_true, true_and, false_and, and_false, foMod_0, foMod_1, foMod_2, foMod_3, foMod_4, foMod_5, foMod_6, foMod_7, foMod_8, foMod_9, foMod_10, foMod_11, foMod_12, foMod_13, foMod_14, foMod_15, foMod_16, foMod_17, foMod_18, foMod_19, foMod_20, foMod_21, foMod_22, foMod_23, foMod_24, foMod_25, foMod_26, foMod_27, foMod_28, foMod_29, foMod_30, foMod_31, foMod_32, foMod_33, foMod_34, foMod_35, foMod_36, foMod_37, foMod_38, poMod_0, poMod_1, poMod_2, poMod_3, poMod_4, poMod_5, poMod_12, poMod_13, poMod_14, poMod_15, poMod_20, poMod_21, poMod_22, poMod_23, poMod_28, poMod_29, poMod_30, poMod_38, coMod, o44, o64, s64, n60, g1, nI_1, Nat.reduceEqDiff]
    exact i1
theorem pk2 (v : Int32) : (v < 0 ∨ 2 < v) ∨ v = 0 ∨ v = 1 ∨ v = 2 := by
  rcases kr60 v (n := 3) (by omega) with h | ⟨j, hj, rfl⟩
  · left
    rcases h with h | h
    · exact Or.inl h
    · right
      have z := nI_m1_lt (n := 3) (by omega) v
      have e : nI 3 - 1 = 2 := by decide
      rw [e] at z
      rw [z]; exact h
  · right
    have : j = 0 ∨ j = 1 ∨ j = 2 := by omega
    rcases this with rfl | rfl | rfl
    · exact Or.inl rfl
    · exact Or.inr (Or.inl rfl)
    · exact Or.inr (Or.inr rfl)
section CF
variable {M : zMem}
theorem p_sheet (g : zGood M) {k l v : Int32} : zPI 94 171 [some (.int k), some (.int l), some (.int v), none] [some (.int k), some (.int l), some (.int v), none] M := by
  have g0 := g
  obtain ⟨h65, c, nl, nr, m, F, r, n, o, mm, w, ln, sn, f, tr, ft, hC, ⟨x, A, hx, hX, hN, hR, hS⟩, hI, hJ, hK⟩ := g
  have hC0 := hC
  have hX0 := hX
  obtain ⟨k0, kN, kR, kS, kP⟩ := hC
  have hz2 : zoc (mget M 2) = some 1 := by rw [kN.2.2.2.1]; exact coNur
  have hz1 : zoc (mget M 1) = some 7 := by rw [k0]; exact coRR
  have hz44 : zoc (mget M 44) = some 8 := by rw [hx.1]; exact coMod
  have hl5 := kN.2.1
  have hr5 := kN.2.2.1
  have hn8 := kR.2.1
  obtain ⟨x0, x1, x2, x3, x4, x5, x16, x17⟩ := hX
  have o44 := hx.1
  have C1 := hC0.setT (tr' := tr) (ft' := 0)
  have k0' := C1.1
  have kS' := C1.2.2.2.1
  have hz1' : zoc (mget (mset M 1 (oRR 2 10 18 27 31 35 tr 0)) 1) = some 7 := by rw [k0']; exact coRR
  have fr1 : ∀ c, zFr M (mset M 1 c) 1 43 := fun c => zFr.rf.set (by omega) (by omega)
  have hx1 : ∀ c, zMdl (mset M 1 c) x A := fun c => hx.fr fun a g1 g2 => mget_ne (by omega)
  have hz44' : ∀ c, zoc (mget (mset M 1 c) 44) = some 8 := fun c => z44 hz44 (fr1 c)
  have fin0 := fun (y : Int32) => (zFin (M1 := mset M 1 (oRR 2 10 18 27 31 35 tr y)) h65 (hz44' _) (fr1 _) (zFr.rf.set (a := 44) (c := oM (upd x 0 y)) (by omega) (by omega)) (hC0.setT (tr' := tr) (ft' := y)) ⟨_, _, (hx1 _).setX _, ⟨rfl, x1, x2, x3, x4, x5, x16, x17⟩, hN, hR, hS⟩ hI hJ hK)
  rcases kr_or k (n := 4) (by omega) with q | ⟨j, hj, rfl⟩
  · have h9 := t_sheetAt_out k0' kS' q
    have h8 := fun M => m_noSheet_out (M := M) q
    have h7 := m_refused (hx1 (oRR 2 10 18 27 31 35 tr 0)) (v := -1)
    refine ⟨-1, _, _, ?_, ?_, fin0 0⟩
    · simp only [e94_0, e94_0n, e94_1, e94_2, e94_5, e94_5n, e94_6, e94_7, e94_10, e94_10n, e94_12, e94_12n, e94_14, e94_14n, e94_17, e94_18, e94_19, e94_20, e94_23, e94_26, e94_27, e94_29, e94_32, e94_34, e94_35, e94_36, e94_39, e94_39n, e94_40, e94_41, e94_44, e94_45, e94_45n, e94_47, e94_48, e94_49, e94_52, e94_53, ↓reduceIte, zth_v, zth_n, zthv_s, zthi_s, zthm_s, true_or, or_true, eq_self, ne_eq, not_false_eq_true, not_true_eq_false, and_self, and_true, true_and, false_and, and_false, foRR_0, foRR_1, foRR_2, foRR_3, foRR_4, foRR_5, foRR_6, foRR_7, poRR_6, poRR_7, coRR, k0, hz1', h9, Nat.reduceEqDiff]
    · simp only [e171_0, e171_1, e171_4, e171_7, e171_7n, e171_8, e171_9, e171_12, e171_13, e171_14, e171_15, e171_16, e171_19, e171_22, e171_25, e171_26, e171_28, e171_31, e171_31n, e171_32, e171_34, e171_37, e171_38, e171_39, e171_42, e171_42n, e171_43, e171_44, e171_47, e171_48, e171_48n, e171_49, e171_52, e171_53, e171_54, e171_55, e171_55n, e171_56, e171_59, e171_60, e171_61, e171_62, e171_63, e171_65, e171_67, e171_68, e171_71, e171_71n, e171_72, e171_75, e171_77, e171_78, e171_79, e171_81, e171_82, e171_83, e171_84, e171_87, e171_90, e171_90n, e171_91, e171_92, e171_95, ↓reduceIte, zth_v, zth_n, zthv_s, zthi_s, zthm_s, true_or, or_true, eq_self, ne_eq, not_false_eq_true, not_true_eq_false, and_self, and_true, true_and, false_and, and_false, hz44', h8, h7, i10, Nat.reduceEqDiff]
  have h9 := t_sheetAt_in k0' kS' hj
  have h8 := fun M => m_noSheet_in (M := M) hj
  have kj := kS'.2 j hj
  have n3 : 36 + 2 * j ≠ 0 := by omega
  have hzj : zoc (mget (mset M 1 (oRR 2 10 18 27 31 35 tr 0)) (36 + 2 * j)) = some 4 := by rw [kj.2.2.1]; exact coSheet
  rcases pk2 l with ql | ql
  · have h7 := m_refused (hx1 (oRR 2 10 18 27 31 35 tr 0)) (v := -2)
    refine ⟨-2, _, _, ?_, ?_, fin0 0⟩
    · simp only [e94_0, e94_0n, e94_1, e94_2, e94_5, e94_5n, e94_6, e94_7, e94_10, e94_10n, e94_12, e94_12n, e94_14, e94_14n, e94_17, e94_18, e94_19, e94_20, e94_23, e94_26, e94_27, e94_29, e94_32, e94_34, e94_35, e94_36, e94_39, e94_39n, e94_40, e94_41, e94_44, e94_45, e94_45n, e94_47, e94_48, e94_49, e94_52, e94_53, ↓reduceIte, zth_v, zth_n, zthv_s, zthi_s, zthm_s, true_or, or_true, eq_self, ne_eq, not_false_eq_true, not_true_eq_false, and_self, and_true, true_and, false_and, and_false, foRR_0, foRR_1, foRR_2, foRR_3, foRR_4, foRR_5, foRR_6, foRR_7, poRR_6, poRR_7, coRR, k0, hz1', h9, t_isLane, ql, Nat.reduceEqDiff]
    · simp only [e171_0, e171_1, e171_4, e171_7, e171_7n, e171_8, e171_9, e171_12, e171_13, e171_14, e171_15, e171_16, e171_19, e171_22, e171_25, e171_26, e171_28, e171_31, e171_31n, e171_32, e171_34, e171_37, e171_38, e171_39, e171_42, e171_42n, e171_43, e171_44, e171_47, e171_48, e171_48n, e171_49, e171_52, e171_53, e171_54, e171_55, e171_55n, e171_56, e171_59, e171_60, e171_61, e171_62, e171_63, e171_65, e171_67, e171_68, e171_71, e171_71n, e171_72, e171_75, e171_77, e171_78, e171_79, e171_81, e171_82, e171_83, e171_84, e171_87, e171_90, e171_90n, e171_91, e171_92, e171_95, ↓reduceIte, zth_v, zth_n, zthv_s, zthi_s, zthm_s, true_or, or_true, eq_self, ne_eq, not_false_eq_true, not_true_eq_false, and_self, and_true, true_and, false_and, and_false, hz44', h8, h7, m_in_0_2, ql, Nat.reduceEqDiff]
  have ql2 : ¬ (l < 0 ∨ 2 < l) := by rcases ql with rfl | rfl | rfl <;> decide
  by_cases q60 : 60 < v
  · have q61 : ¬ v ≤ 60 := Int32.not_le.mpr q60
    have h7 := m_refused (hx1 (oRR 2 10 18 27 31 35 tr 0)) (v := -2)
    refine ⟨-2, _, _, ?_, ?_, fin0 0⟩
    · simp only [e94_0, e94_0n, e94_1, e94_2, e94_5, e94_5n, e94_6, e94_7, e94_10, e94_10n, e94_12, e94_12n, e94_14, e94_14n, e94_17, e94_18, e94_19, e94_20, e94_23, e94_26, e94_27, e94_29, e94_32, e94_34, e94_35, e94_36, e94_39, e94_39n, e94_40, e94_41, e94_44, e94_45, e94_45n, e94_47, e94_48, e94_49, e94_52, e94_53, ↓reduceIte, zth_v, zth_n, zthv_s, zthi_s, zthm_s, true_or, or_true, eq_self, ne_eq, not_false_eq_true, not_true_eq_false, and_self, and_true, true_and, false_and, and_false, foRR_0, foRR_1, foRR_2, foRR_3, foRR_4, foRR_5, foRR_6, foRR_7, poRR_6, poRR_7, coRR, k0, hz1', h9, t_isLane, ql2, q60, q61, i10, Nat.reduceEqDiff]
    · simp only [e171_0, e171_1, e171_4, e171_7, e171_7n, e171_8, e171_9, e171_12, e171_13, e171_14, e171_15, e171_16, e171_19, e171_22, e171_25, e171_26, e171_28, e171_31, e171_31n, e171_32, e171_34, e171_37, e171_38, e171_39, e171_42, e171_42n, e171_43, e171_44, e171_47, e171_48, e171_48n, e171_49, e171_52, e171_53, e171_54, e171_55, e171_55n, e171_56, e171_59, e171_60, e171_61, e171_62, e171_63, e171_65, e171_67, e171_68, e171_71, e171_71n, e171_72, e171_75, e171_77, e171_78, e171_79, e171_81, e171_82, e171_83, e171_84, e171_87, e171_90, e171_90n, e171_91, e171_92, e171_95, ↓reduceIte, zth_v, zth_n, zthv_s, zthi_s, zthm_s, true_or, or_true, eq_self, ne_eq, not_false_eq_true, not_true_eq_false, and_self, and_true, true_and, false_and, and_false, hz44', h8, h7, m_in_0_2, ql2, q60, q61, i10, Nat.reduceEqDiff]
  have q61 : v ≤ 60 := Int32.not_lt.mp q60
  rcases kr60 v (n := 61) (by omega) with q | ⟨n2, hn2, rfl⟩
  · have qn : v < 0 := by
      rcases q with q | q
      · exact q
      · exfalso
        have e1 := nI_tI (n := 61) (by omega)
        rw [Int32.le_iff_toInt_le, e1] at q
        rw [Int32.le_iff_toInt_le, show (60 : Int32).toInt = 60 from by decide] at q61
        omega
    have qn2 : ¬ 0 ≤ v := Int32.not_le.mpr qn
    have h7 := fun c => m_failed (hx1 c) (v := 4)
    have h6 := t_faulted k0' (v := 4)
    rw [mset_mset] at h6
    refine ⟨-10 - 4, _, _, ?_, ?_, fin0 4⟩
    · simp only [e94_0, e94_0n, e94_1, e94_2, e94_5, e94_5n, e94_6, e94_7, e94_10, e94_10n, e94_12, e94_12n, e94_14, e94_14n, e94_17, e94_18, e94_19, e94_20, e94_23, e94_26, e94_27, e94_29, e94_32, e94_34, e94_35, e94_36, e94_39, e94_39n, e94_40, e94_41, e94_44, e94_45, e94_45n, e94_47, e94_48, e94_49, e94_52, e94_53, ↓reduceIte, zth_v, zth_n, zthv_s, zthi_s, zthm_s, true_or, or_true, eq_self, ne_eq, not_false_eq_true, not_true_eq_false, and_self, and_true, true_and, false_and, and_false, foRR_0, foRR_1, foRR_2, foRR_3, foRR_4, foRR_5, foRR_6, foRR_7, poRR_6, poRR_7, coRR, k0, hz1', h9, t_isLane, ql2, q60, q61, qn, qn2, h6, i10, Nat.reduceEqDiff]
    · simp only [e171_0, e171_1, e171_4, e171_7, e171_7n, e171_8, e171_9, e171_12, e171_13, e171_14, e171_15, e171_16, e171_19, e171_22, e171_25, e171_26, e171_28, e171_31, e171_31n, e171_32, e171_34, e171_37, e171_38, e171_39, e171_42, e171_42n, e171_43, e171_44, e171_47, e171_48, e171_48n, e171_49, e171_52, e171_53, e171_54, e171_55, e171_55n, e171_56, e171_59, e171_60, e171_61, e171_62, e171_63, e171_65, e171_67, e171_68, e171_71, e171_71n, e171_72, e171_75, e171_77, e171_78, e171_79, e171_81, e171_82, e171_83, e171_84, e171_87, e171_90, e171_90n, e171_91, e171_92, e171_95, ↓reduceIte, zth_v, zth_n, zthv_s, zthi_s, zthm_s, true_or, or_true, eq_self, ne_eq, not_false_eq_true, not_true_eq_false, and_self, and_true, true_and, false_and, and_false, hz44', h8, h7, m_in_0_2, ql2, q60, q61, qn, qn2, i10, Nat.reduceEqDiff]
  have qn : ¬ nI n2 < 0 := nI_pos (by omega)
  have qn2 : 0 ≤ nI n2 := Int32.not_lt.mp qn
  obtain ⟨M1, f1, a1, a2, a3, a4⟩ := s_becomesRow kj (ln' := l) (n' := n2) (by omega)
  have fr3 := zFr.tr (fr1 (oRR 2 10 18 27 31 35 tr 0)) (a4.mono (lo' := 1) (hi' := 43) (by omega) (by omega))
  have C2 := C1.setS hj (a4.mono (by omega) (by omega)) a2
  have hx2 : zMdl M1 x A := hx.fr fun a g1 g2 => fr3.2.2 _ (by omega)
  have hx3 := (hx2.setA 62 (by omega) (by omega) (upd (A 62) j (nI n2))).setA 63 (by omega) (by omega) (upd (A 63) j l)
  obtain ⟨M2, A2, b1, b2, b3, b4, b5, b6⟩ := m_zero_loop (y := some (.int l)) (k := j) (n := n2) hj (by omega) n2 0 _ _ (by omega) hx3 (fun i hi => by omega)
  have h7 := m_refused b2 (v := 1)
  have hzM2 : zoc (mget M2 44) = some 8 := by rw [b2.1]; exact coMod
  rw [nI_0] at b1
  refine ⟨1, M1, mset M2 44 (oM (upd x 0 0)), ?_, ?_, zFin h65 (z44 hz44 fr3) fr3 ((zFr.tr ((zFr.rf.set (by omega) (by omega)).set (by omega) (by omega)) b6).set (by omega) (by omega)) C2 ⟨_, _, b2.setX _, ⟨rfl, x1, x2, x3, x4, x5, x16, x17⟩, ?_, ?_, ⟨fun i hi => ?_, fun i hi h => ?_, fun i i2 hi h => ?_⟩⟩ hI hJ (fun i hi => ?_)⟩
  · simp only [e94_0, e94_0n, e94_1, e94_2, e94_5, e94_5n, e94_6, e94_7, e94_10, e94_10n, e94_12, e94_12n, e94_14, e94_14n, e94_17, e94_18, e94_19, e94_20, e94_23, e94_26, e94_27, e94_29, e94_32, e94_34, e94_35, e94_36, e94_39, e94_39n, e94_40, e94_41, e94_44, e94_45, e94_45n, e94_47, e94_48, e94_49, e94_52, e94_53, ↓reduceIte, zth_v, zth_n, zthv_s, zthi_s, zthm_s, true_or, or_true, eq_self, ne_eq, not_false_eq_true, not_true_eq_false, and_self, and_true, true_and, false_and, and_false, foRR_0, foRR_1, foRR_2, foRR_3, foRR_4, foRR_5, foRR_6, foRR_7, poRR_6, poRR_7, coRR, k0, hz1', hzj, n3, h9, t_isLane, ql2, q60, q61, qn, qn2, a1, i10, Nat.reduceEqDiff]
  · have o44' := hx2.1
    have o62 := hx2.2 62 (by omega) (by omega)
    have o63 := hx2.2 63 (by omega) (by omega)
    have s62 := zis_in (n := zsz 62) (f := A 62) (x := nI n2) (j := j) (show j < 4 from hj) (show 4 < 2 ^ 31 by omega)
    have s63 := zis_in (n := zsz 63) (f := A 63) (x := l) (j := j) (show j < 4 from hj) (show 4 < 2 ^ 31 by omega)
    have st : ev 171 0 [some (.ref 44), some (.int (nI j)), some (.int l), some (.int (nI n2)), none] [] M1 = ev 171 65 [some (.ref 44), some (.int (nI j)), some (.int l), some (.int (nI n2)), some (.int 0)] [] (mset (mset M1 62 (.inl (zsz 62, upd (A 62) j (nI n2)))) 63 (.inl (zsz 63, upd (A 63) j l))) := by
      simp only [e171_0, e171_1, e171_4, e171_7, e171_7n, e171_8, e171_9, e171_12, e171_13, e171_14, e171_15, e171_16, e171_19, e171_22, e171_25, e171_26, e171_28, e171_31, e171_31n, e171_32, e171_34, e171_37, e171_38, e171_39, e171_42, e171_42n, e171_43, e171_44, e171_47, e171_48, e171_48n, e171_49, e171_52, e171_53, e171_54, e171_55, e171_55n, e171_56, e171_59, e171_60, e171_61, e171_62, e171_63, e171_67, e171_68, e171_71, e171_71n, e171_72, e171_75, e171_77, e171_78, e171_79, e171_81, e171_82, e171_83, e171_84, e171_87, e171_90, e171_90n, e171_91, e171_92, e171_95, ↓reduceIte, zth_v, zth_n, zthv_s, zthi_s, zthm_s, true_or, or_true, eq_self, ne_eq, not_false_eq_true, not_true_eq_false, and_self, and_true, true_and, false_and, and_false, foMod_0, foMod_1, foMod_2, foMod_3, foMod_4, foMod_5, foMod_6, foMod_7, foMod_8, foMod_9, foMod_10, foMod_11, foMod_12, foMod_13, foMod_14, foMod_15, foMod_16, foMod_17, foMod_18, foMod_19, foMod_20, foMod_21, foMod_22, foMod_23, foMod_24, foMod_25, foMod_26, foMod_27, foMod_28, foMod_29, foMod_30, foMod_31, foMod_32, foMod_33, foMod_34, foMod_35, foMod_36, foMod_37, foMod_38, poMod_0, poMod_1, poMod_2, poMod_3, poMod_4, poMod_5, poMod_12, poMod_13, poMod_14, poMod_15, poMod_20, poMod_21, poMod_22, poMod_23, poMod_28, poMod_29, poMod_30, poMod_38, coMod, h8, m_in_0_2, ql2, q60, q61, qn, qn2, i10, o44', o62, o63, s62, s63, mget_set, Nat.reduceEqDiff]
    rw [st, b1]
    simp only [e171_0, e171_1, e171_4, e171_7, e171_7n, e171_8, e171_9, e171_12, e171_13, e171_14, e171_15, e171_16, e171_19, e171_22, e171_25, e171_26, e171_28, e171_31, e171_31n, e171_32, e171_34, e171_37, e171_38, e171_39, e171_42, e171_42n, e171_43, e171_44, e171_47, e171_48, e171_48n, e171_49, e171_52, e171_53, e171_54, e171_55, e171_55n, e171_56, e171_59, e171_60, e171_61, e171_62, e171_63, e171_67, e171_68, e171_71, e171_71n, e171_72, e171_75, e171_77, e171_78, e171_79, e171_81, e171_82, e171_83, e171_84, e171_87, e171_90, e171_90n, e171_91, e171_92, e171_95, ↓reduceIte, zth_v, zth_n, zthv_s, zthi_s, zthm_s, true_or, or_true, eq_self, ne_eq, not_false_eq_true, not_true_eq_false, and_self, and_true, true_and, false_and, and_false, hzM2, h7, Nat.reduceEqDiff]
  · refine ⟨fun i hi => ?_, fun i hi => ?_⟩
    · rw [b3 45 (by omega)]; exact hN.1 i hi
    · rw [b3 46 (by omega), b3 47 (by omega), b3 48 (by omega), b3 49 (by omega), b3 50 (by omega)]; exact hN.2 i hi
  · exact ⟨(b3 59 (by omega)).trans hR.1, (b3 60 (by omega)).trans hR.2.1, (b3 61 (by omega)).trans hR.2.2⟩
  · rw [b3 62 (by omega), va_up_ne _ _ (by omega), va_up_self]
    by_cases e2 : i = j
    · subst e2; rw [pk_us, pk_us, va_up_self, if_neg (by rcases ql with rfl | rfl | rfl <;> decide)]
    · rw [pk_un e2, pk_un e2, va_up_ne _ _ e2]; exact hS.1 i hi
  · rw [b3 63 (by omega), va_up_self]
    by_cases e2 : i = j
    · subst e2; rw [pk_us, pk_us]
    · rw [pk_un e2] at h; rw [pk_un e2, pk_un e2]; exact hS.2.1 i hi h
  · by_cases e2 : i = j
    · subst e2
      rw [va_up_self] at h
      rw [va_up_self, b4 i2 h, a3 i2 (by omega)]
    · rw [va_up_ne _ _ e2] at h
      have hsk := (kS'.2 i hi).2.1
      rw [va_up_ne _ _ e2, b5 _ (by omega), va_up_ne _ _ (by omega), va_up_ne _ _ (by omega)]
      exact hS.2.2 i i2 hi h
  · by_cases e2 : i = j
    · subst e2; rw [pk_us]; exact Or.inr ql
    · rw [pk_un e2, va_up_ne _ _ e2]; exact hK i hi
end CF
