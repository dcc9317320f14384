/-! The model reads a text -/
theorem dig_eq {c lo : Int32} (hlo : lo = 0 ∨ lo = 1) : (c - 48 < lo ∨ 9 < c - 48) ↔ (c < 48 + lo ∨ ¬ c ≤ 57) := by
  have e9 : (9 : Int32).toInt = 9 := by decide
  have e57 : (57 : Int32).toInt = 57 := by decide
  have e48 : (48 : Int32).toInt = 48 := by decide
  have e0 : (0 : Int32).toInt = 0 := by decide
  have e1 : (1 : Int32).toInt = 1 := by decide
  have f0 : ((48 : Int32) + 0).toInt = 48 := by decide
  have f1 : ((48 : Int32) + 1).toInt = 49 := by decide
  have l1 := Int32.toInt_lt c
  have l2 := Int32.le_toInt c
  have es : (c - 48).toInt = (c.toInt - 48).bmod (2 ^ 32) := by rw [Int32.toInt_sub, e48]
  rw [Int.bmod_def] at es
  rcases hlo with rfl | rfl
  · rw [Int32.lt_iff_toInt_lt, Int32.lt_iff_toInt_lt, Int32.lt_iff_toInt_lt, Int32.le_iff_toInt_le, e9, e57, e0, f0, es]
    split <;> omega
  · rw [Int32.lt_iff_toInt_lt, Int32.lt_iff_toInt_lt, Int32.lt_iff_toInt_lt, Int32.le_iff_toInt_le, e9, e57, e1, f1, es]
    split <;> omega
theorem m_in_lo {M : zMem} {v lo : Int32} : ev 119 0 [some (.long v.toInt64), none, some (.long lo.toInt64), none, some (.long 9), none] [] M = some (some (.int (if v < lo ∨ 9 < v then 0 else 1)), M) := m_in32 (a := lo) (b := 9)
section RD
variable {M : zMem} {x : Nat → Int32} {A : Nat → Nat → Int32} {b n p : Nat} {g : Nat → Int32}
theorem m_codeAt (h : zMdl M x A) (hp : x 6 = nI p) (p60 : p ≤ 100) (hb : b + n ≤ 240) (hs : ∀ q, q < n → A 64 (b + q) = g q) : ev 129 0 [some (.ref 44), some (.int (nI b)), some (.int (nI n))] [] M = some (some (.int (znx g n p)), M) := by
  have o44 := h.1
  have o64 := h.2 64 (by omega) (by omega)
  unfold znx
  by_cases c : p < n
  · have g1 : ¬ nI n ≤ nI p := ni_nle c (by omega)
    have z := zia_in (n := zsz 64) (f := A 64) (j := b + p) (show b + p < 240 by omega) (show 240 < 2 ^ 31 by omega)
    rw [hs p c] at z
    rw [if_pos c]
    simp only [e129_0, e129_0n, e129_1, e129_4, e129_5, e129_8, e129_8n, e129_9, e129_12, e129_13, e129_13n, e129_14, e129_17, e129_18, e129_19, e129_22, e129_24, ↓reduceIte, zth_v, zth_n, zthv_s, zthi_s, zthm_s, true_or, or_true, eq_self, ne_eq, not_false_eq_true, not_true_eq_false, and_self, and_true, true_and, false_and, and_false, foMod_0, foMod_1, foMod_2, foMod_3, foMod_4, foMod_5, foMod_6, foMod_7, foMod_8, foMod_9, foMod_10, foMod_11, foMod_12, foMod_13, foMod_14, foMod_15, foMod_16, foMod_17, foMod_18, foMod_19, foMod_20, foMod_21, foMod_22, foMod_23, foMod_24, foMod_25, foMod_26, foMod_27, foMod_28, foMod_29, foMod_30, foMod_31, foMod_32, foMod_33, foMod_34, foMod_35, foMod_36, foMod_37, foMod_38, poMod_0, poMod_1, poMod_2, poMod_3, poMod_4, poMod_5, poMod_12, poMod_13, poMod_14, poMod_15, poMod_20, poMod_21, poMod_22, poMod_23, poMod_28, poMod_29, poMod_30, poMod_38, coMod, o44, o64, hp, g1, nI_add, z, Nat.reduceEqDiff]
  · have g1 : nI n ≤ nI p := ni_ge (by omega) (by omega)
    rw [if_neg c]
    simp only [e129_0, e129_0n, e129_1, e129_4, e129_5, e129_8, e129_8n, e129_9, e129_12, e129_13, e129_13n, e129_14, e129_17, e129_18, e129_19, e129_22, e129_24, ↓reduceIte, zth_v, zth_n, zthv_s, zthi_s, zthm_s, true_or, or_true, eq_self, ne_eq, not_false_eq_true, not_true_eq_false, and_self, and_true, true_and, false_and, and_false, foMod_0, foMod_1, foMod_2, foMod_3, foMod_4, foMod_5, foMod_6, foMod_7, foMod_8, foMod_9, foMod_10, foMod_11, foMod_12, foMod_13, foMod_14, foMod_15, foMod_16, foMod_17, foMod_18, foMod_19, foMod_20, foMod_21, foMod_22, foMod_23, foMod_24, foMod_25, foMod_26, foMod_27, foMod_28, foMod_29, foMod_30, foMod_31, foMod_32, foMod_33, foMod_34, foMod_35, foMod_36, foMod_37, foMod_38, poMod_0, poMod_1, poMod_2, poMod_3, poMod_4, poMod_5, poMod_12, poMod_13, poMod_14, poMod_15, poMod_20, poMod_21, poMod_22, poMod_23, poMod_28, poMod_29, poMod_30, poMod_38, coMod, o44, hp, g1, Nat.reduceEqDiff]
theorem m_figure (h : zMdl M x A) (hp : x 6 = nI p) (p60 : p ≤ 100) (hb : b + n ≤ 240) (hs : ∀ q, q < n → A 64 (b + q) = g q) {bf lo : Int32} (h0 : ¬ bf < 0) (hlo : lo = 0 ∨ lo = 1) : match zdig g n p lo with
    | some v => ev 130 0 [some (.ref 44), some (.int (nI b)), some (.int (nI n)), some (.int bf), some (.int lo), none, none] [] M = some (some (.int v), mset M 44 (oM (upd x 6 (nI (p + 1)))))
    | none => ev 130 0 [some (.ref 44), some (.int (nI b)), some (.int (nI n)), some (.int bf), some (.int lo), none, none] [] M = some (some (.int (-9)), mset M 44 (oM (upd x 6 (nI p)))) := by
  have c1 := m_codeAt h hp p60 hb hs
  have o44 := h.1
  have hz44 : zoc (mget M 44) = some 8 := by rw [h.1]; exact coMod
  have h1 : 0 ≤ bf := Int32.not_lt.mp h0
  have de := dig_eq (c := znx g n p) hlo
  unfold zdig
  by_cases q1 : znx g n p < 48 + lo
  · have q2 := de.mpr (Or.inl q1)
    rw [if_pos q1]
    simp only [e130_0, e130_1, e130_4, e130_6, e130_9, e130_9n, e130_10, e130_11, e130_12, e130_15, e130_17, e130_18, e130_20, e130_22, e130_23, e130_25, e130_26, e130_29, e130_32, e130_34, e130_34n, e130_35, e130_36, e130_39, e130_41, e130_44, e130_45, e130_48, e130_49, e130_50, e130_53, e130_55, e130_58, e130_60, e130_63, e130_65, ↓reduceIte, zth_v, zth_n, zthv_s, zthi_s, zthm_s, true_or, or_true, eq_self, ne_eq, not_false_eq_true, not_true_eq_false, and_self, and_true, true_and, false_and, and_false, foMod_0, foMod_1, foMod_2, foMod_3, foMod_4, foMod_5, foMod_6, foMod_7, foMod_8, foMod_9, foMod_10, foMod_11, foMod_12, foMod_13, foMod_14, foMod_15, foMod_16, foMod_17, foMod_18, foMod_19, foMod_20, foMod_21, foMod_22, foMod_23, foMod_24, foMod_25, foMod_26, foMod_27, foMod_28, foMod_29, foMod_30, foMod_31, foMod_32, foMod_33, foMod_34, foMod_35, foMod_36, foMod_37, foMod_38, poMod_0, poMod_1, poMod_2, poMod_3, poMod_4, poMod_5, poMod_12, poMod_13, poMod_14, poMod_15, poMod_20, poMod_21, poMod_22, poMod_23, poMod_28, poMod_29, poMod_30, poMod_38, coMod, o44, hz44, hp, h0, h1, c1, m_in_lo, if_pos q2, Int32.add_zero, Nat.reduceEqDiff]
    rfl
  · rw [if_neg q1]
    by_cases q3 : znx g n p ≤ 57
    · have q2 : ¬ (znx g n p - 48 < lo ∨ 9 < znx g n p - 48) := fun z => by
        rcases de.mp z with z | z
        · exact q1 z
        · exact z q3
      rw [if_pos q3]
      simp only [e130_0, e130_1, e130_4, e130_6, e130_9, e130_9n, e130_10, e130_11, e130_12, e130_15, e130_17, e130_18, e130_20, e130_22, e130_23, e130_25, e130_26, e130_29, e130_32, e130_34, e130_34n, e130_35, e130_36, e130_39, e130_41, e130_44, e130_45, e130_48, e130_49, e130_50, e130_53, e130_55, e130_58, e130_60, e130_63, e130_65, ↓reduceIte, zth_v, zth_n, zthv_s, zthi_s, zthm_s, true_or, or_true, eq_self, ne_eq, not_false_eq_true, not_true_eq_false, and_self, and_true, true_and, false_and, and_false, foMod_0, foMod_1, foMod_2, foMod_3, foMod_4, foMod_5, foMod_6, foMod_7, foMod_8, foMod_9, foMod_10, foMod_11, foMod_12, foMod_13, foMod_14, foMod_15, foMod_16, foMod_17, foMod_18, foMod_19, foMod_20, foMod_21, foMod_22, foMod_23, foMod_24, foMod_25, foMod_26, foMod_27, foMod_28, foMod_29, foMod_30, foMod_31, foMod_32, foMod_33, foMod_34, foMod_35, foMod_36, foMod_37, foMod_38, poMod_0, poMod_1, poMod_2, poMod_3, poMod_4, poMod_5, poMod_12, poMod_13, poMod_14, poMod_15, poMod_20, poMod_21, poMod_22, poMod_23, poMod_28, poMod_29, poMod_30, poMod_38, coMod, o44, hz44, hp, h0, h1, c1, m_in_lo, if_neg q2, i10, nI_1, Nat.reduceEqDiff]
      rfl
    · have q2 := de.mpr (Or.inr q3)
      rw [if_neg q3]
      simp only [e130_0, e130_1, e130_4, e130_6, e130_9, e130_9n, e130_10, e130_11, e130_12, e130_15, e130_17, e130_18, e130_20, e130_22, e130_23, e130_25, e130_26, e130_29, e130_32, e130_34, e130_34n, e130_35, e130_36, e130_39, e130_41, e130_44, e130_45, e130_48, e130_49, e130_50, e130_53, e130_55, e130_58, e130_60, e130_63, e130_65, ↓reduceIte, zth_v, zth_n, zthv_s, zthi_s, zthm_s, true_or, or_true, eq_self, ne_eq, not_false_eq_true, not_true_eq_false, and_self, and_true, true_and, false_and, and_false, foMod_0, foMod_1, foMod_2, foMod_3, foMod_4, foMod_5, foMod_6, foMod_7, foMod_8, foMod_9, foMod_10, foMod_11, foMod_12, foMod_13, foMod_14, foMod_15, foMod_16, foMod_17, foMod_18, foMod_19, foMod_20, foMod_21, foMod_22, foMod_23, foMod_24, foMod_25, foMod_26, foMod_27, foMod_28, foMod_29, foMod_30, foMod_31, foMod_32, foMod_33, foMod_34, foMod_35, foMod_36, foMod_37, foMod_38, poMod_0, poMod_1, poMod_2, poMod_3, poMod_4, poMod_5, poMod_12, poMod_13, poMod_14, poMod_15, poMod_20, poMod_21, poMod_22, poMod_23, poMod_28, poMod_29, poMod_30, poMod_38, coMod, o44, hz44, hp, h0, h1, c1, m_in_lo, if_pos q2, Int32.add_zero, Nat.reduceEqDiff]
      rfl
theorem m_figure_no (h : zMdl M x A) (hp : x 6 = nI p) {bf lo : Int32} (h0 : bf < 0) (hlo : lo = 0 ∨ lo = 1) : ev 130 0 [some (.ref 44), some (.int (nI b)), some (.int (nI n)), some (.int bf), some (.int lo), none, none] [] M = some (some (.int (-9)), mset M 44 (oM (upd x 6 (nI p)))) := by
  have h1 : ¬ 0 ≤ bf := Int32.not_le.mpr h0
  have o44 := h.1
  have q2 : (-9 : Int32) < lo ∨ (9 : Int32) < -9 := by rcases hlo with rfl | rfl <;> decide
  have q3 := m_in_lo (M := M) (v := -9) (lo := lo)
  rw [if_pos q2] at q3
  simp only [e130_0, e130_1, e130_4, e130_6, e130_9, e130_9n, e130_10, e130_11, e130_12, e130_15, e130_17, e130_18, e130_20, e130_22, e130_23, e130_25, e130_26, e130_29, e130_32, e130_34, e130_34n, e130_35, e130_36, e130_39, e130_41, e130_44, e130_45, e130_48, e130_49, e130_50, e130_53, e130_55, e130_58, e130_60, e130_63, e130_65, ↓reduceIte, zth_v, zth_n, zthv_s, zthi_s, zthm_s, true_or, or_true, eq_self, ne_eq, not_false_eq_true, not_true_eq_false, and_self, and_true, true_and, false_and, and_false, foMod_0, foMod_1, foMod_2, foMod_3, foMod_4, foMod_5, foMod_6, foMod_7, foMod_8, foMod_9, foMod_10, foMod_11, foMod_12, foMod_13, foMod_14, foMod_15, foMod_16, foMod_17, foMod_18, foMod_19, foMod_20, foMod_21, foMod_22, foMod_23, foMod_24, foMod_25, foMod_26, foMod_27, foMod_28, foMod_29, foMod_30, foMod_31, foMod_32, foMod_33, foMod_34, foMod_35, foMod_36, foMod_37, foMod_38, poMod_0, poMod_1, poMod_2, poMod_3, poMod_4, poMod_5, poMod_12, poMod_13, poMod_14, poMod_15, poMod_20, poMod_21, poMod_22, poMod_23, poMod_28, poMod_29, poMod_30, poMod_38, coMod, o44, hp, h0, h1, q3, Int32.add_zero, Nat.reduceEqDiff]
  rfl
theorem m_lands_loop {n : Nat} (hn : n ≤ 60) (hb : b + n ≤ 240) : ∀ k j M x A p F d4 d5, j + k = 5 → p ≤ n → zMdl M x A → x 6 = nI p → x 8 = nI j → (∀ i, i < j → A 51 i = F i) → (∀ q, q < n → A 64 (b + q) = g q) → (j = 0 → znx g n p = 44) →
    match zpLs g n k j p F with
    | (true, p', j', F') => ∃ M' y B, ev 131 17 [some (.ref 44), some (.int (nI b)), some (.int (nI n)), some (.int 1), d4, d5] [] M = some (some (.int 1), M') ∧ zMdl M' y B ∧ y 6 = nI p' ∧ y 8 = nI j' ∧ (∀ i, i < j' → B 51 i = F' i) ∧ p' ≤ n ∧ (∀ i, i ≠ 6 → i ≠ 8 → y i = x i) ∧ (∀ a, a ≠ 51 → B a = A a) ∧ zFr M M' 44 65
    | (false, p', _, _) => ∃ M' y B, ev 131 17 [some (.ref 44), some (.int (nI b)), some (.int (nI n)), some (.int 1), d4, d5] [] M = some (some (.int 0), M') ∧ zMdl M' y B ∧ y 6 = nI p' ∧ (∀ i, i ≠ 6 → i ≠ 8 → y i = x i) ∧ (∀ a, a ≠ 51 → B a = A a) ∧ zFr M M' 44 65 := by
  intro k
  induction k with
  | zero =>
    intro j M x A p F d4 d5 hj hp h x6 x8 hF hs h0
    obtain rfl : j = 5 := by omega
    refine ⟨M, x, A, ?_, h, x6, x8, hF, hp, fun _ _ _ => rfl, fun _ _ => rfl, zFr.rf⟩
    have o44 := h.1
    have g1 : (5 : Int32) ≤ nI 5 := by decide
    simp only [e131_0, e131_0n, e131_1, e131_2, e131_3, e131_6, e131_8, e131_11, e131_12, e131_15, e131_16, e131_17, e131_18, e131_21, e131_21n, e131_22, e131_25, e131_26, e131_29, e131_29n, e131_30, e131_31, e131_32, e131_35, e131_37, e131_40, e131_40n, e131_41, e131_42, e131_45, e131_46, e131_47, e131_50, e131_50n, e131_51, e131_52, e131_53, e131_54, e131_55, e131_58, e131_60, e131_60n, e131_61, e131_62, e131_63, e131_65, e131_67, e131_70, e131_71, e131_74, e131_75, e131_78, e131_80, e131_80n, e131_81, e131_84, e131_84n, e131_85, e131_88, e131_90, e131_92, e131_93, e131_95, e131_96, e131_97, e131_97n, e131_98, e131_99, e131_102, e131_103, e131_104, e131_107, e131_109, e131_112, e131_113, e131_116, e131_117, e131_118, e131_121, e131_122, ↓reduceIte, zth_v, zth_n, zthv_s, zthi_s, zthm_s, true_or, or_true, eq_self, ne_eq, not_false_eq_true, not_true_eq_false, and_self, and_true, true_and, false_and, and_false, foMod_0, foMod_1, foMod_2, foMod_3, foMod_4, foMod_5, foMod_6, foMod_7, foMod_8, foMod_9, foMod_10, foMod_11, foMod_12, foMod_13, foMod_14, foMod_15, foMod_16, foMod_17, foMod_18, foMod_19, foMod_20, foMod_21, foMod_22, foMod_23, foMod_24, foMod_25, foMod_26, foMod_27, foMod_28, foMod_29, foMod_30, foMod_31, foMod_32, foMod_33, foMod_34, foMod_35, foMod_36, foMod_37, foMod_38, poMod_0, poMod_1, poMod_2, poMod_3, poMod_4, poMod_5, poMod_12, poMod_13, poMod_14, poMod_15, poMod_20, poMod_21, poMod_22, poMod_23, poMod_28, poMod_29, poMod_30, poMod_38, coMod, o44, x8, i10, g1, Nat.reduceEqDiff]
  | succ k ih =>
    intro j M x A p F d4 d5 hj hp h x6 x8 hF hs h0
    have o44 := h.1
    have hz44 : zoc (mget M 44) = some 8 := by rw [h.1]; exact coMod
    have g1 : ¬ (5 : Int32) ≤ nI j := ni_nle (b := 5) (by omega) (by omega)
    have c1 := m_codeAt h x6 (by omega) hb hs
    rw [zpLs]
    by_cases q : znx g n p = 44
    · rw [if_pos (Or.inr q)]
      have h1 := h.setX (upd x 6 (nI (p + 1)))
      have f1 := m_figure h1 (p := p + 1) rfl (by omega) hb hs (bf := 0) (lo := 0) (by decide) (Or.inl rfl)
      have hz1 : zoc (mget (mset M 44 (oM (upd x 6 (nI (p + 1))))) 44) = some 8 := by rw [h1.1]; exact coMod
      have st : ∀ {e : Option (Option Value × zMem)}, ev 131 40 [some (.ref 44), some (.int (nI b)), some (.int (nI n)), some (.int 1), d4, d5] [] M = e → ev 131 17 [some (.ref 44), some (.int (nI b)), some (.int (nI n)), some (.int 1), d4, d5] [] M = e := fun he => by
        rw [← he, e131_17]
        simp only [e131_0, e131_0n, e131_1, e131_2, e131_3, e131_6, e131_8, e131_11, e131_12, e131_15, e131_16, e131_18, e131_21, e131_21n, e131_22, e131_25, e131_26, e131_29, e131_29n, e131_30, e131_31, e131_32, e131_35, e131_37, e131_41, e131_42, e131_45, e131_46, e131_47, e131_50, e131_50n, e131_51, e131_52, e131_53, e131_54, e131_55, e131_58, e131_60, e131_60n, e131_61, e131_62, e131_63, e131_65, e131_67, e131_70, e131_71, e131_74, e131_75, e131_78, e131_80, e131_80n, e131_81, e131_84, e131_84n, e131_85, e131_88, e131_90, e131_92, e131_93, e131_95, e131_96, e131_97, e131_97n, e131_98, e131_99, e131_102, e131_103, e131_104, e131_107, e131_109, e131_112, e131_113, e131_116, e131_117, e131_118, e131_121, e131_122, ↓reduceIte, zth_v, zth_n, zthv_s, zthi_s, zthm_s, true_or, or_true, eq_self, ne_eq, not_false_eq_true, not_true_eq_false, and_self, and_true, true_and, false_and, and_false, foMod_0, foMod_1, foMod_2, foMod_3, foMod_4, foMod_5, foMod_6, foMod_7, foMod_8, foMod_9, foMod_10, foMod_11, foMod_12, foMod_13, foMod_14, foMod_15, foMod_16, foMod_17, foMod_18, foMod_19, foMod_20, foMod_21, foMod_22, foMod_23, foMod_24, foMod_25, foMod_26, foMod_27, foMod_28, foMod_29, foMod_30, foMod_31, foMod_32, foMod_33, foMod_34, foMod_35, foMod_36, foMod_37, foMod_38, poMod_0, poMod_1, poMod_2, poMod_3, poMod_4, poMod_5, poMod_12, poMod_13, poMod_14, poMod_15, poMod_20, poMod_21, poMod_22, poMod_23, poMod_28, poMod_29, poMod_30, poMod_38, coMod, o44, hz44, x8, i10, g1, c1, q, Nat.reduceEqDiff]
      have st2 : ∀ {e : Option (Option Value × zMem)}, ev 131 50 [some (.ref 44), some (.int (nI b)), some (.int (nI n)), some (.int 1), d4, d5] [] (mset M 44 (oM (upd x 6 (nI (p + 1))))) = e → ev 131 17 [some (.ref 44), some (.int (nI b)), some (.int (nI n)), some (.int 1), d4, d5] [] M = e := fun he => by
        apply st
        rw [← he]
        simp only [e131_0, e131_0n, e131_1, e131_2, e131_3, e131_6, e131_8, e131_11, e131_12, e131_15, e131_16, e131_18, e131_21, e131_21n, e131_22, e131_25, e131_26, e131_29, e131_29n, e131_30, e131_31, e131_32, e131_35, e131_37, e131_40, e131_40n, e131_41, e131_42, e131_45, e131_46, e131_47, e131_51, e131_52, e131_53, e131_54, e131_55, e131_58, e131_60, e131_60n, e131_61, e131_62, e131_63, e131_65, e131_67, e131_70, e131_71, e131_74, e131_75, e131_78, e131_80, e131_80n, e131_81, e131_84, e131_84n, e131_85, e131_88, e131_90, e131_92, e131_93, e131_95, e131_96, e131_97, e131_97n, e131_98, e131_99, e131_102, e131_103, e131_104, e131_107, e131_109, e131_112, e131_113, e131_116, e131_117, e131_118, e131_121, e131_122, ↓reduceIte, zth_v, zth_n, zthv_s, zthi_s, zthm_s, true_or, or_true, eq_self, ne_eq, not_false_eq_true, not_true_eq_false, and_self, and_true, true_and, false_and, and_false, foMod_0, foMod_1, foMod_2, foMod_3, foMod_4, foMod_5, foMod_6, foMod_7, foMod_8, foMod_9, foMod_10, foMod_11, foMod_12, foMod_13, foMod_14, foMod_15, foMod_16, foMod_17, foMod_18, foMod_19, foMod_20, foMod_21, foMod_22, foMod_23, foMod_24, foMod_25, foMod_26, foMod_27, foMod_28, foMod_29, foMod_30, foMod_31, foMod_32, foMod_33, foMod_34, foMod_35, foMod_36, foMod_37, foMod_38, poMod_0, poMod_1, poMod_2, poMod_3, poMod_4, poMod_5, poMod_12, poMod_13, poMod_14, poMod_15, poMod_20, poMod_21, poMod_22, poMod_23, poMod_28, poMod_29, poMod_30, poMod_38, coMod, o44, x6, nI_1, Nat.reduceEqDiff]
        rfl
      unfold zpL
      rw [if_pos q]
      revert f1
      match hd : zdig g n (p + 1) 0 with
      | none =>
        intro f1
        simp only [mset_mset] at f1
        have h2 := h.setX (upd (upd x 6 (nI (p + 1))) 6 (nI (p + 1)))
        have f2 := m_figure_no h2 (p := p + 1) rfl (b := b) (n := n) (bf := -9) (lo := 0) (by decide) (Or.inl rfl)
        simp only [mset_mset] at f2
        have hz2 : zoc (mget (mset M 44 (oM (upd (upd x 6 (nI (p + 1))) 6 (nI (p + 1))))) 44) = some 8 := by rw [h2.1]; exact coMod
        have h5 := h.setX (upd (upd (upd x 6 (nI (p + 1))) 6 (nI (p + 1))) 6 (nI (p + 1)))
        have h3 := h5.setA 51 (by omega) (by omega) (upd (A 51) j (10 * (-9) + (-9)))
        have h4 := h3.setX (upd (upd (upd (upd x 6 (nI (p + 1))) 6 (nI (p + 1))) 6 (nI (p + 1))) 8 (nI (j + 1)))
        refine ⟨_, _, _, st2 ?_, h4, rfl, fun i hi1 hi2 => by rw [pk_un hi2, pk_un hi1, pk_un hi1, pk_un hi1], fun a ha => va_up_ne _ _ ha, ((zFr.rf.set (by omega) (by omega)).set (by omega) (by omega)).set (by omega) (by omega)⟩
        have o2 := h5.1
        have o3 := h3.1
        have o51 := h5.2 51 (by omega) (by omega)
        have s51 := zis_in (n := zsz 51) (f := A 51) (x := 10 * (-9) + (-9)) (j := j) (show j < 5 by omega) (show 5 < 2 ^ 31 by omega)
        have x8' : (upd (upd (upd x 6 (nI (p + 1))) 6 (nI (p + 1))) 6 (nI (p + 1))) 8 = nI j := x8
        simp only [e131_0, e131_0n, e131_1, e131_2, e131_3, e131_6, e131_8, e131_11, e131_12, e131_15, e131_16, e131_18, e131_21, e131_21n, e131_22, e131_25, e131_26, e131_29, e131_29n, e131_30, e131_31, e131_32, e131_35, e131_37, e131_40, e131_40n, e131_41, e131_42, e131_45, e131_46, e131_47, e131_50, e131_50n, e131_51, e131_52, e131_53, e131_54, e131_55, e131_58, e131_60, e131_60n, e131_61, e131_62, e131_63, e131_65, e131_67, e131_70, e131_71, e131_74, e131_75, e131_78, e131_80, e131_80n, e131_81, e131_84, e131_84n, e131_85, e131_88, e131_90, e131_92, e131_93, e131_95, e131_96, e131_97, e131_97n, e131_98, e131_99, e131_102, e131_103, e131_104, e131_107, e131_109, e131_112, e131_113, e131_116, e131_117, e131_118, e131_121, e131_122, ↓reduceIte, zth_v, zth_n, zthv_s, zthi_s, zthm_s, true_or, or_true, eq_self, ne_eq, not_false_eq_true, not_true_eq_false, and_self, and_true, true_and, false_and, and_false, foMod_0, foMod_1, foMod_2, foMod_3, foMod_4, foMod_5, foMod_6, foMod_7, foMod_8, foMod_9, foMod_10, foMod_11, foMod_12, foMod_13, foMod_14, foMod_15, foMod_16, foMod_17, foMod_18, foMod_19, foMod_20, foMod_21, foMod_22, foMod_23, foMod_24, foMod_25, foMod_26, foMod_27, foMod_28, foMod_29, foMod_30, foMod_31, foMod_32, foMod_33, foMod_34, foMod_35, foMod_36, foMod_37, foMod_38, poMod_0, poMod_1, poMod_2, poMod_3, poMod_4, poMod_5, poMod_12, poMod_13, poMod_14, poMod_15, poMod_20, poMod_21, poMod_22, poMod_23, poMod_28, poMod_29, poMod_30, poMod_38, coMod, hz1, hz2, f1, f2, o2, o3, o51, x8', s51, show ¬ (-9 : Int32) = 0 from by decide, show ¬ (0 : Int32) ≤ -9 from by decide, show (-9 : Int32) < 0 from by decide, nI_1, Nat.reduceEqDiff]
        rw [e131_17]
        simp only [e131_0, e131_0n, e131_1, e131_2, e131_3, e131_6, e131_8, e131_11, e131_12, e131_15, e131_16, e131_18, e131_21, e131_21n, e131_22, e131_25, e131_26, e131_29, e131_29n, e131_30, e131_31, e131_32, e131_35, e131_37, e131_40, e131_40n, e131_41, e131_42, e131_45, e131_46, e131_47, e131_50, e131_50n, e131_51, e131_52, e131_53, e131_54, e131_55, e131_58, e131_60, e131_60n, e131_61, e131_62, e131_63, e131_65, e131_67, e131_70, e131_71, e131_74, e131_75, e131_78, e131_80, e131_80n, e131_81, e131_84, e131_84n, e131_85, e131_88, e131_90, e131_92, e131_93, e131_95, e131_96, e131_97, e131_97n, e131_98, e131_99, e131_102, e131_103, e131_104, e131_107, e131_109, e131_112, e131_113, e131_116, e131_117, e131_118, e131_121, e131_122, ↓reduceIte, zth_v, zth_n, zthv_s, zthi_s, zthm_s, true_or, or_true, eq_self, ne_eq, not_false_eq_true, not_true_eq_false, and_self, and_true, true_and, false_and, and_false]
        rfl
      | some v =>
        intro f1
        simp only [mset_mset] at f1
        obtain ⟨dx, dx1, rfl, -, -⟩ := zdig_of (Or.inl rfl) hd
        have h2 := h.setX (upd (upd x 6 (nI (p + 1))) 6 (nI (p + 1 + 1)))
        obtain ⟨lo, hld⟩ : ∃ lo : Int32, lo = if nI dx = 0 then 1 else 0 := ⟨_, rfl⟩
        have hlo : lo = 0 ∨ lo = 1 := by rw [hld]; split <;> simp
        have n0 : ¬ nI dx < 0 := nI_pos (by omega)
        have f2 := m_figure h2 (p := p + 1 + 1) rfl (by omega) hb hs (bf := nI dx) (lo := lo) n0 hlo
        have hz2 : zoc (mget (mset M 44 (oM (upd (upd x 6 (nI (p + 1))) 6 (nI (p + 1 + 1))))) 44) = some 8 := by rw [h2.1]; exact coMod
        dsimp only
        rw [← hld, show p + 2 = p + 1 + 1 from rfl]
        revert f2
        match hd2 : zdig g n (p + 1 + 1) lo with
        | none =>
          intro f2
          simp only [mset_mset] at f2
          have h5 := h.setX (upd (upd (upd x 6 (nI (p + 1))) 6 (nI (p + 1 + 1))) 6 (nI (p + 1 + 1)))
          have h3 := h5.setA 51 (by omega) (by omega) (upd (A 51) j (10 * nI dx + (-9)))
          have h4 := h3.setX (upd (upd (upd (upd x 6 (nI (p + 1))) 6 (nI (p + 1 + 1))) 6 (nI (p + 1 + 1))) 8 (nI (j + 1)))
          refine ⟨_, _, _, st2 ?_, h4, rfl, fun i hi1 hi2 => by rw [pk_un hi2, pk_un hi1, pk_un hi1, pk_un hi1], fun a ha => va_up_ne _ _ ha, ((zFr.rf.set (by omega) (by omega)).set (by omega) (by omega)).set (by omega) (by omega)⟩
          have o2 := h5.1
          have o3 := h3.1
          have o51 := h5.2 51 (by omega) (by omega)
          have s51 := zis_in (n := zsz 51) (f := A 51) (x := 10 * nI dx + (-9)) (j := j) (show j < 5 by omega) (show 5 < 2 ^ 31 by omega)
          have x8' : (upd (upd (upd x 6 (nI (p + 1))) 6 (nI (p + 1 + 1))) 6 (nI (p + 1 + 1))) 8 = nI j := x8
          have fin : ∀ M d d', ev 131 17 [some (.ref 44), some (.int (nI b)), some (.int (nI n)), some (.int 0), d, d'] [] M = some (some (.int 0), M) := fun M d d' => by
            rw [e131_17]
            simp only [e131_0, e131_0n, e131_1, e131_2, e131_3, e131_6, e131_8, e131_11, e131_12, e131_15, e131_16, e131_18, e131_21, e131_21n, e131_22, e131_25, e131_26, e131_29, e131_29n, e131_30, e131_31, e131_32, e131_35, e131_37, e131_40, e131_40n, e131_41, e131_42, e131_45, e131_46, e131_47, e131_50, e131_50n, e131_51, e131_52, e131_53, e131_54, e131_55, e131_58, e131_60, e131_60n, e131_61, e131_62, e131_63, e131_65, e131_67, e131_70, e131_71, e131_74, e131_75, e131_78, e131_80, e131_80n, e131_81, e131_84, e131_84n, e131_85, e131_88, e131_90, e131_92, e131_93, e131_95, e131_96, e131_97, e131_97n, e131_98, e131_99, e131_102, e131_103, e131_104, e131_107, e131_109, e131_112, e131_113, e131_116, e131_117, e131_118, e131_121, e131_122, ↓reduceIte, zth_v, zth_n, zthv_s, zthi_s, zthm_s, true_or, or_true, eq_self, ne_eq, not_false_eq_true, not_true_eq_false, and_self, and_true, true_and, false_and, and_false]
          by_cases q0 : nI dx = 0
          · rw [if_pos q0] at hld
            subst hld
            rw [q0] at f1 f2 s51 o3 ⊢
            simp only [e131_0, e131_0n, e131_1, e131_2, e131_3, e131_6, e131_8, e131_11, e131_12, e131_15, e131_16, e131_18, e131_21, e131_21n, e131_22, e131_25, e131_26, e131_29, e131_29n, e131_30, e131_31, e131_32, e131_35, e131_37, e131_40, e131_40n, e131_41, e131_42, e131_45, e131_46, e131_47, e131_50, e131_50n, e131_51, e131_52, e131_53, e131_54, e131_55, e131_58, e131_60, e131_60n, e131_61, e131_62, e131_63, e131_65, e131_67, e131_70, e131_71, e131_74, e131_75, e131_78, e131_80, e131_80n, e131_81, e131_84, e131_84n, e131_85, e131_88, e131_90, e131_92, e131_93, e131_95, e131_96, e131_97, e131_97n, e131_98, e131_99, e131_102, e131_103, e131_104, e131_107, e131_109, e131_112, e131_113, e131_116, e131_117, e131_118, e131_121, e131_122, ↓reduceIte, zth_v, zth_n, zthv_s, zthi_s, zthm_s, true_or, or_true, eq_self, ne_eq, not_false_eq_true, not_true_eq_false, and_self, and_true, true_and, false_and, and_false, foMod_0, foMod_1, foMod_2, foMod_3, foMod_4, foMod_5, foMod_6, foMod_7, foMod_8, foMod_9, foMod_10, foMod_11, foMod_12, foMod_13, foMod_14, foMod_15, foMod_16, foMod_17, foMod_18, foMod_19, foMod_20, foMod_21, foMod_22, foMod_23, foMod_24, foMod_25, foMod_26, foMod_27, foMod_28, foMod_29, foMod_30, foMod_31, foMod_32, foMod_33, foMod_34, foMod_35, foMod_36, foMod_37, foMod_38, poMod_0, poMod_1, poMod_2, poMod_3, poMod_4, poMod_5, poMod_12, poMod_13, poMod_14, poMod_15, poMod_20, poMod_21, poMod_22, poMod_23, poMod_28, poMod_29, poMod_30, poMod_38, coMod, hz1, hz2, f1, f2, o2, o3, o51, x8', s51, i00, show ¬ (0 : Int32) ≤ -9 from by decide, show (-9 : Int32) < 0 from by decide, nI_1, Nat.reduceEqDiff]
            rw [fin]
            rfl
          · rw [if_neg q0] at hld
            subst hld
            simp only [e131_0, e131_0n, e131_1, e131_2, e131_3, e131_6, e131_8, e131_11, e131_12, e131_15, e131_16, e131_18, e131_21, e131_21n, e131_22, e131_25, e131_26, e131_29, e131_29n, e131_30, e131_31, e131_32, e131_35, e131_37, e131_40, e131_40n, e131_41, e131_42, e131_45, e131_46, e131_47, e131_50, e131_50n, e131_51, e131_52, e131_53, e131_54, e131_55, e131_58, e131_60, e131_60n, e131_61, e131_62, e131_63, e131_65, e131_67, e131_70, e131_71, e131_74, e131_75, e131_78, e131_80, e131_80n, e131_81, e131_84, e131_84n, e131_85, e131_88, e131_90, e131_92, e131_93, e131_95, e131_96, e131_97, e131_97n, e131_98, e131_99, e131_102, e131_103, e131_104, e131_107, e131_109, e131_112, e131_113, e131_116, e131_117, e131_118, e131_121, e131_122, ↓reduceIte, zth_v, zth_n, zthv_s, zthi_s, zthm_s, true_or, or_true, eq_self, ne_eq, not_false_eq_true, not_true_eq_false, and_self, and_true, true_and, false_and, and_false, foMod_0, foMod_1, foMod_2, foMod_3, foMod_4, foMod_5, foMod_6, foMod_7, foMod_8, foMod_9, foMod_10, foMod_11, foMod_12, foMod_13, foMod_14, foMod_15, foMod_16, foMod_17, foMod_18, foMod_19, foMod_20, foMod_21, foMod_22, foMod_23, foMod_24, foMod_25, foMod_26, foMod_27, foMod_28, foMod_29, foMod_30, foMod_31, foMod_32, foMod_33, foMod_34, foMod_35, foMod_36, foMod_37, foMod_38, poMod_0, poMod_1, poMod_2, poMod_3, poMod_4, poMod_5, poMod_12, poMod_13, poMod_14, poMod_15, poMod_20, poMod_21, poMod_22, poMod_23, poMod_28, poMod_29, poMod_30, poMod_38, coMod, hz1, hz2, f1, f2, o2, o3, o51, x8', s51, q0, show ¬ (0 : Int32) ≤ -9 from by decide, show (-9 : Int32) < 0 from by decide, nI_1, Nat.reduceEqDiff]
            rw [fin]
            rfl
        | some v2 =>
          intro f2
          simp only [mset_mset] at f2
          obtain ⟨dy, dy1, rfl, -, dy3⟩ := zdig_of hlo hd2
          have h5 := h.setX (upd (upd (upd x 6 (nI (p + 1))) 6 (nI (p + 1 + 1))) 6 (nI (p + 1 + 1 + 1)))
          have h3 := h5.setA 51 (by omega) (by omega) (upd (A 51) j (10 * nI dx + nI dy))
          have h4 := h3.setX (upd (upd (upd (upd x 6 (nI (p + 1))) 6 (nI (p + 1 + 1))) 6 (nI (p + 1 + 1 + 1))) 8 (nI (j + 1)))
          have i1 := ih (j + 1) _ _ _ (p + 3) (upd F j (10 * nI dx + nI dy)) (some (.int (nI dx))) (some (.int (nI dy))) (by omega) (by omega) h4 rfl rfl (fun i hi => by
            rw [va_up_self]
            by_cases e : i = j
            · subst e; rw [pk_us, pk_us]
            · rw [pk_un e, pk_un e]; exact hF i (by omega)) (fun q hq => by rw [va_up_ne _ _ (by omega)]; exact hs q hq) (fun z => by omega)
          have o2 := h5.1
          have o3 := h3.1
          have o51 := h5.2 51 (by omega) (by omega)
          have s51 := zis_in (n := zsz 51) (f := A 51) (x := 10 * nI dx + nI dy) (j := j) (show j < 5 by omega) (show 5 < 2 ^ 31 by omega)
          have x8' : (upd (upd (upd x 6 (nI (p + 1))) 6 (nI (p + 1 + 1))) 6 (nI (p + 1 + 1 + 1))) 8 = nI j := x8
          have m1 : ¬ nI dy < 0 := nI_pos (by omega)
          have m2 : 0 ≤ nI dy := Int32.not_lt.mp m1
          have go : ev 131 50 [some (.ref 44), some (.int (nI b)), some (.int (nI n)), some (.int 1), d4, d5] [] (mset M 44 (oM (upd x 6 (nI (p + 1))))) = ev 131 17 [some (.ref 44), some (.int (nI b)), some (.int (nI n)), some (.int 1), some (.int (nI dx)), some (.int (nI dy))] [] (mset (mset (mset M 44 (oM (upd (upd (upd x 6 (nI (p + 1))) 6 (nI (p + 1 + 1))) 6 (nI (p + 1 + 1 + 1))))) 51 (.inl (zsz 51, upd (A 51) j (10 * nI dx + nI dy)))) 44 (oM (upd (upd (upd (upd x 6 (nI (p + 1))) 6 (nI (p + 1 + 1))) 6 (nI (p + 1 + 1 + 1))) 8 (nI (j + 1))))) := by
            by_cases q0 : nI dx = 0
            · rw [if_pos q0] at hld
              subst hld
              rw [q0] at f1 f2 s51 o3 ⊢
              simp only [e131_0, e131_0n, e131_1, e131_2, e131_3, e131_6, e131_8, e131_11, e131_12, e131_15, e131_16, e131_18, e131_21, e131_21n, e131_22, e131_25, e131_26, e131_29, e131_29n, e131_30, e131_31, e131_32, e131_35, e131_37, e131_40, e131_40n, e131_41, e131_42, e131_45, e131_46, e131_47, e131_50, e131_50n, e131_51, e131_52, e131_53, e131_54, e131_55, e131_58, e131_60, e131_60n, e131_61, e131_62, e131_63, e131_65, e131_67, e131_70, e131_71, e131_74, e131_75, e131_78, e131_80, e131_80n, e131_81, e131_84, e131_84n, e131_85, e131_88, e131_90, e131_92, e131_93, e131_95, e131_96, e131_97, e131_97n, e131_98, e131_99, e131_102, e131_103, e131_104, e131_107, e131_109, e131_112, e131_113, e131_116, e131_117, e131_118, e131_121, e131_122, ↓reduceIte, zth_v, zth_n, zthv_s, zthi_s, zthm_s, true_or, or_true, eq_self, ne_eq, not_false_eq_true, not_true_eq_false, and_self, and_true, true_and, false_and, and_false, foMod_0, foMod_1, foMod_2, foMod_3, foMod_4, foMod_5, foMod_6, foMod_7, foMod_8, foMod_9, foMod_10, foMod_11, foMod_12, foMod_13, foMod_14, foMod_15, foMod_16, foMod_17, foMod_18, foMod_19, foMod_20, foMod_21, foMod_22, foMod_23, foMod_24, foMod_25, foMod_26, foMod_27, foMod_28, foMod_29, foMod_30, foMod_31, foMod_32, foMod_33, foMod_34, foMod_35, foMod_36, foMod_37, foMod_38, poMod_0, poMod_1, poMod_2, poMod_3, poMod_4, poMod_5, poMod_12, poMod_13, poMod_14, poMod_15, poMod_20, poMod_21, poMod_22, poMod_23, poMod_28, poMod_29, poMod_30, poMod_38, coMod, hz1, hz2, f1, f2, o2, o3, o51, x8', s51, i00, m1, m2, nI_1, Nat.reduceEqDiff]
              rfl
            · rw [if_neg q0] at hld
              subst hld
              simp only [e131_0, e131_0n, e131_1, e131_2, e131_3, e131_6, e131_8, e131_11, e131_12, e131_15, e131_16, e131_18, e131_21, e131_21n, e131_22, e131_25, e131_26, e131_29, e131_29n, e131_30, e131_31, e131_32, e131_35, e131_37, e131_40, e131_40n, e131_41, e131_42, e131_45, e131_46, e131_47, e131_50, e131_50n, e131_51, e131_52, e131_53, e131_54, e131_55, e131_58, e131_60, e131_60n, e131_61, e131_62, e131_63, e131_65, e131_67, e131_70, e131_71, e131_74, e131_75, e131_78, e131_80, e131_80n, e131_81, e131_84, e131_84n, e131_85, e131_88, e131_90, e131_92, e131_93, e131_95, e131_96, e131_97, e131_97n, e131_98, e131_99, e131_102, e131_103, e131_104, e131_107, e131_109, e131_112, e131_113, e131_116, e131_117, e131_118, e131_121, e131_122, ↓reduceIte, zth_v, zth_n, zthv_s, zthi_s, zthm_s, true_or, or_true, eq_self, ne_eq, not_false_eq_true, not_true_eq_false, and_self, and_true, true_and, false_and, and_false, foMod_0, foMod_1, foMod_2, foMod_3, foMod_4, foMod_5, foMod_6, foMod_7, foMod_8, foMod_9, foMod_10, foMod_11, foMod_12, foMod_13, foMod_14, foMod_15, foMod_16, foMod_17, foMod_18, foMod_19, foMod_20, foMod_21, foMod_22, foMod_23, foMod_24, foMod_25, foMod_26, foMod_27, foMod_28, foMod_29, foMod_30, foMod_31, foMod_32, foMod_33, foMod_34, foMod_35, foMod_36, foMod_37, foMod_38, poMod_0, poMod_1, poMod_2, poMod_3, poMod_4, poMod_5, poMod_12, poMod_13, poMod_14, poMod_15, poMod_20, poMod_21, poMod_22, poMod_23, poMod_28, poMod_29, poMod_30, poMod_38, coMod, hz1, hz2, f1, f2, o2, o3, o51, x8', s51, q0, m1, m2, nI_1, Nat.reduceEqDiff]
              rfl
          have fr : zFr M (mset (mset (mset M 44 (oM (upd (upd (upd x 6 (nI (p + 1))) 6 (nI (p + 1 + 1))) 6 (nI (p + 1 + 1 + 1))))) 51 (.inl (zsz 51, upd (A 51) j (10 * nI dx + nI dy)))) 44 (oM (upd (upd (upd (upd x 6 (nI (p + 1))) 6 (nI (p + 1 + 1))) 6 (nI (p + 1 + 1 + 1))) 8 (nI (j + 1))))) 44 65 := ((zFr.rf.set (by omega) (by omega)).set (by omega) (by omega)).set (by omega) (by omega)
          have ex : ∀ i, i ≠ 6 → i ≠ 8 → (upd (upd (upd (upd x 6 (nI (p + 1))) 6 (nI (p + 1 + 1))) 6 (nI (p + 1 + 1 + 1))) 8 (nI (j + 1))) i = x i := fun i hi1 hi2 => by rw [pk_un hi2, pk_un hi1, pk_un hi1, pk_un hi1]
          have ea : ∀ a, a ≠ 51 → va_up A 51 (upd (A 51) j (10 * nI dx + nI dy)) a = A a := fun a ha => va_up_ne _ _ ha
          dsimp only
          revert i1
          match zpLs g n k (j + 1) (p + 3) (upd F j (10 * nI dx + nI dy)) with
          | (true, p', j', F') =>
            rintro ⟨M', y, B, a1, a2, a3, a4, a5, a6, a7, a8, a9⟩
            exact ⟨M', y, B, st2 (go.trans a1), a2, a3, a4, a5, a6, fun i z1 z2 => (a7 i z1 z2).trans (ex i z1 z2), fun a z => (a8 a z).trans (ea a z), zFr.tr fr a9⟩
          | (false, p', _, _) =>
            rintro ⟨M', y, B, a1, a2, a3, a7, a8, a9⟩
            exact ⟨M', y, B, st2 (go.trans a1), a2, a3, fun i z1 z2 => (a7 i z1 z2).trans (ex i z1 z2), fun a z => (a8 a z).trans (ea a z), zFr.tr fr a9⟩
    · have j0 : ¬ j = 0 := fun z => q (h0 z)
      rw [if_neg (by rintro (z | z); exact j0 z; exact q z)]
      refine ⟨M, x, A, ?_, h, x6, x8, hF, hp, fun _ _ _ => rfl, fun _ _ => rfl, zFr.rf⟩
      rw [e131_17]
      simp only [e131_0, e131_0n, e131_1, e131_2, e131_3, e131_6, e131_8, e131_11, e131_12, e131_15, e131_16, e131_18, e131_21, e131_21n, e131_22, e131_25, e131_26, e131_29, e131_29n, e131_30, e131_31, e131_32, e131_35, e131_37, e131_40, e131_40n, e131_41, e131_42, e131_45, e131_46, e131_47, e131_50, e131_50n, e131_51, e131_52, e131_53, e131_54, e131_55, e131_58, e131_60, e131_60n, e131_61, e131_62, e131_63, e131_65, e131_67, e131_70, e131_71, e131_74, e131_75, e131_78, e131_80, e131_80n, e131_81, e131_84, e131_84n, e131_85, e131_88, e131_90, e131_92, e131_93, e131_95, e131_96, e131_97, e131_97n, e131_98, e131_99, e131_102, e131_103, e131_104, e131_107, e131_109, e131_112, e131_113, e131_116, e131_117, e131_118, e131_121, e131_122, ↓reduceIte, zth_v, zth_n, zthv_s, zthi_s, zthm_s, true_or, or_true, eq_self, ne_eq, not_false_eq_true, not_true_eq_false, and_self, and_true, true_and, false_and, and_false, foMod_0, foMod_1, foMod_2, foMod_3, foMod_4, foMod_5, foMod_6, foMod_7, foMod_8, foMod_9, foMod_10, foMod_11, foMod_12, foMod_13, foMod_14, foMod_15, foMod_16, foMod_17, foMod_18, foMod_19, foMod_20, foMod_21, foMod_22, foMod_23, foMod_24, foMod_25, foMod_26, foMod_27, foMod_28, foMod_29, foMod_30, foMod_31, foMod_32, foMod_33, foMod_34, foMod_35, foMod_36, foMod_37, foMod_38, poMod_0, poMod_1, poMod_2, poMod_3, poMod_4, poMod_5, poMod_12, poMod_13, poMod_14, poMod_15, poMod_20, poMod_21, poMod_22, poMod_23, poMod_28, poMod_29, poMod_30, poMod_38, coMod, o44, hz44, x8, i10, g1, c1, q, Nat.reduceEqDiff]
end RD
