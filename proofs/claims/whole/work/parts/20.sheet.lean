/-! The class's sheets -/
theorem ni_ge {a b : Nat} (h : b ≤ a) (ha : a < 2 ^ 31) : nI b ≤ nI a := (nI_leI (by omega) ha).mpr h
theorem ni_nle {a b : Nat} (h : a < b) (hb : b < 2 ^ 31) : ¬ nI b ≤ nI a := fun z => by
  have := (nI_leI hb (show a < 2 ^ 31 by omega)).mp z
  omega
theorem ni_le_iff {a b : Nat} (ha : a < 2 ^ 31) (hb : b < 2 ^ 31) : (nI a ≤ nI b) = (a ≤ b) := propext (nI_leI ha hb)
theorem ni_lt_iff {a b : Nat} (ha : a < 2 ^ 31) (hb : b < 2 ^ 31) : (nI a < nI b) = (a < b) := propext (nI_ltI ha hb)
theorem ni_eq_iff {a b : Nat} (ha : a < 2 ^ 31) (hb : b < 2 ^ 31) : (nI a = nI b) = (a = b) := propext (nI_eq ha hb)
theorem ni_neg {a : Nat} (ha : a < 2 ^ 31) : (nI a < 0) = False := propext ⟨fun z => nI_pos ha z, fun z => z.elim⟩
section SH
variable {M : zMem} {a n : Nat} {ln : Int32} {f : Nat → Int32}
theorem s_hasNothing (h1 : mget M a = some (oSheet (a + 1) ln (nI n))) (ha : a ≠ 0) : ev 45 0 [some (.ref a)] [] M = some (some (.int (if ln = -1 then 1 else 0)), M) := by
  simp only [e45_0, e45_0n, e45_1, e45_4, e45_5, e45_8, e45_9, e45_12, e45_13, ↓reduceIte, zth_v, zth_n, zthv_s, zthi_s, zthm_s, true_or, or_true, eq_self, ne_eq, not_false_eq_true, not_true_eq_false, and_self, and_true, true_and, false_and, and_false, foSheet_0, foSheet_1, foSheet_2, poSheet_1, poSheet_2, coSheet, h1, ha]
  split <;> rfl
theorem s_becomesNothing (h1 : mget M a = some (oSheet (a + 1) ln (nI n))) (ha : a ≠ 0) : ev 46 0 [some (.ref a)] [] M = some (none, mset M a (oSheet (a + 1) (-1) 0)) := by
  simp only [e46_0, e46_0n, e46_1, e46_2, e46_5, e46_5n, e46_6, e46_7, e46_10, ↓reduceIte, zth_v, zth_n, zthv_s, zthi_s, zthm_s, true_or, or_true, eq_self, ne_eq, not_false_eq_true, not_true_eq_false, and_self, and_true, true_and, false_and, and_false, foSheet_0, foSheet_1, foSheet_2, poSheet_1, poSheet_2, coSheet, h1, ha, mget_self, mset_mset]
theorem s_hasCell_in (h1 : mget M a = some (oSheet (a + 1) ln (nI n))) (h2 : mget M (a + 1) = some (.inl (60, f))) (hn : n ≤ 60) (ha : a ≠ 0) {j : Nat} (hj : j < n) : ev 48 0 [some (.ref a), some (.int (nI j))] [] M = some (some (.int 1), M) := by
  have g1 : ¬ nI n ≤ nI j := ni_nle hj (by omega)
  have g2 : ¬ nI 60 ≤ nI j := ni_nle (by omega) (by omega)
  have g3 : ¬ nI j < 0 := nI_pos (by omega)
  simp only [e48_0, e48_1, e48_4, e48_5, e48_5n, e48_6, e48_9, e48_12, e48_13, e48_13n, e48_14, e48_17, e48_18, e48_21, e48_22, e48_25, e48_26, ↓reduceIte, zth_v, zth_n, zthv_s, zthi_s, zthm_s, true_or, or_true, eq_self, ne_eq, not_false_eq_true, not_true_eq_false, and_self, and_true, true_and, false_and, and_false, foSheet_0, foSheet_1, foSheet_2, poSheet_1, poSheet_2, coSheet, h1, h2, ha, zal_i, g1, g2, g3]
theorem s_hasCell_out (h1 : mget M a = some (oSheet (a + 1) ln (nI n))) (h2 : mget M (a + 1) = some (.inl (60, f))) (ha : a ≠ 0) {i : Int32} (hj : i < 0 ∨ nI n ≤ i) : ev 48 0 [some (.ref a), some (.int i)] [] M = some (some (.int 0), M) := by
  simp only [e48_0, e48_1, e48_4, e48_5, e48_5n, e48_6, e48_9, e48_12, e48_13, e48_13n, e48_14, e48_17, e48_18, e48_21, e48_22, e48_25, e48_26, ↓reduceIte, zth_v, zth_n, zthv_s, zthi_s, zthm_s, true_or, or_true, eq_self, ne_eq, not_false_eq_true, not_true_eq_false, and_self, and_true, true_and, false_and, and_false, foSheet_0, foSheet_1, foSheet_2, poSheet_1, poSheet_2, coSheet, h1, h2, ha, zal_i]
  by_cases g : i < 0
  · rw [if_pos g]
  · rw [if_neg g, if_pos (hj.resolve_left g)]
theorem s_hasRun (h1 : mget M a = some (oSheet (a + 1) ln (nI n))) (h2 : mget M (a + 1) = some (.inl (60, f))) (hn : n ≤ 60) (ha : a ≠ 0) {i m : Int32} : ev 49 0 [some (.ref a), some (.int i), some (.int m)] [] M = some (some (.int (if m < 0 ∨ i < 0 ∨ nI n < i ∨ nI n - i < m then 0 else 1)), M) := by
  have g1 : ¬ nI 60 < nI n := nI_nlt hn (by omega)
  simp only [e49_0, e49_1, e49_4, e49_5, e49_8, e49_9, e49_9n, e49_10, e49_13, e49_16, e49_16n, e49_17, e49_20, e49_20n, e49_21, e49_24, e49_25, e49_28, e49_29, e49_29n, e49_30, e49_33, e49_34, e49_35, e49_38, e49_39, e49_42, e49_43, ↓reduceIte, zth_v, zth_n, zthv_s, zthi_s, zthm_s, true_or, or_true, eq_self, ne_eq, not_false_eq_true, not_true_eq_false, and_self, and_true, true_and, false_and, and_false, foSheet_0, foSheet_1, foSheet_2, poSheet_1, poSheet_2, coSheet, h1, h2, ha, zal_i, g1]
  by_cases q1 : m < 0
  · rw [if_pos q1, if_pos (Or.inl q1)]
  · rw [if_neg q1]
    by_cases q2 : i < 0
    · rw [if_pos q2, if_pos (Or.inr (Or.inl q2))]
    · rw [if_neg q2]
      by_cases q3 : nI n < i
      · rw [if_pos q3, if_pos (Or.inr (Or.inr (Or.inl q3)))]
      · rw [if_neg q3]
        by_cases q4 : nI n - i < m
        · rw [if_pos q4, if_pos (Or.inr (Or.inr (Or.inr q4)))]
        · rw [if_neg q4, if_neg (by rintro (z | z | z | z) <;> contradiction)]
theorem s_at_in (h1 : mget M a = some (oSheet (a + 1) ln (nI n))) (h2 : mget M (a + 1) = some (.inl (60, f))) (hn : n ≤ 60) (ha : a ≠ 0) {j : Nat} (hj : j < n) : ev 50 0 [some (.ref a), some (.int (nI j))] [] M = some (some (.int (f j)), M) := by
  have hc := s_hasCell_in h1 h2 hn ha hj
  have g := zia_in (n := 60) (f := f) (show j < 60 by omega) (by omega)
  simp only [e50_0, e50_0n, e50_1, e50_2, e50_5, e50_8, e50_8n, e50_9, e50_12, e50_13, e50_14, e50_17, e50_18, ↓reduceIte, zth_v, zth_n, zthv_s, zthi_s, zthm_s, true_or, or_true, eq_self, ne_eq, not_false_eq_true, not_true_eq_false, and_self, and_true, true_and, false_and, and_false, foSheet_0, foSheet_1, foSheet_2, poSheet_1, poSheet_2, coSheet, h1, h2, ha, hc, g, show ((1 : Int32) = 0) = False from by decide]
theorem s_cutToLane (h1 : mget M a = some (oSheet (a + 1) ln (nI n))) (ha : a ≠ 0) {v : Int32} : ev 52 0 [some (.ref a), some (.int v)] [] M = some (some (.int (if ln = 0 then v.toInt8.toInt32 else if ln = 1 then v.toInt16.toInt32 else v)), M) := by
  simp only [e52_0, e52_0n, e52_1, e52_4, e52_7, e52_8, e52_9, e52_10, e52_10n, e52_11, e52_14, e52_15, e52_18, e52_19, e52_20, e52_23, e52_24, ↓reduceIte, zth_v, zth_n, zthv_s, zthi_s, zthm_s, true_or, or_true, eq_self, ne_eq, not_false_eq_true, not_true_eq_false, and_self, and_true, true_and, false_and, and_false, foSheet_0, foSheet_1, foSheet_2, poSheet_1, poSheet_2, coSheet, h1, ha]
  split
  · rfl
  · split <;> rfl
end SH
