/-! The model's small words -/
theorem lc_lt (x y : Int64) : (lg_cmp x y < 0) = (x < y) := by
  unfold lg_cmp
  apply propext
  simp only [gt_iff_lt, Int64.lt_iff_toInt_lt, ← Int64.toInt_inj]
  repeat' split
  · exact ⟨fun z => absurd z (by decide), fun z => by omega⟩
  · exact ⟨fun z => absurd z (by decide), fun z => by omega⟩
  · exact ⟨fun z => by omega, fun z => by decide⟩
theorem lc_gt (x y : Int64) : (0 < lg_cmp x y) = (y < x) := by
  unfold lg_cmp
  apply propext
  simp only [gt_iff_lt, Int64.lt_iff_toInt_lt, ← Int64.toInt_inj]
  repeat' split
  · exact ⟨fun z => by omega, fun z => by decide⟩
  · exact ⟨fun z => absurd z (by decide), fun z => by omega⟩
  · exact ⟨fun z => absurd z (by decide), fun z => by omega⟩
theorem lc_le (x y : Int64) : (lg_cmp x y ≤ 0) = (x ≤ y) := by
  apply propext
  rw [← Int32.not_lt, lc_gt, Int64.not_lt]
theorem lc_eq (x y : Int64) : (lg_cmp x y = 0) = (x = y) := by
  unfold lg_cmp
  apply propext
  simp only [gt_iff_lt, Int64.lt_iff_toInt_lt, ← Int64.toInt_inj]
  repeat' split
  · exact ⟨fun z => absurd z (by decide), fun z => by omega⟩
  · exact ⟨fun z => by omega, fun z => rfl⟩
  · exact ⟨fun z => absurd z (by decide), fun z => absurd z (by assumption)⟩
theorem l3264 (v a : Int32) : (v.toInt64 < a.toInt64) = (v < a) := by
  apply propext
  rw [Int64.lt_iff_toInt_lt, Int32.lt_iff_toInt_lt, Int32.toInt_toInt64, Int32.toInt_toInt64]
theorem e3264 (v a : Int32) : (v.toInt64 = a.toInt64) = (v = a) := by
  apply propext
  rw [← Int64.toInt_inj, ← Int32.toInt_inj, Int32.toInt_toInt64, Int32.toInt_toInt64]
section MB
variable {M : zMem}
theorem m_in {x l h : Int64} : ev 119 0 [some (.long x), none, some (.long l), none, some (.long h), none] [] M = some (some (.int (if x < l ∨ h < x then 0 else 1)), M) := by
  simp only [e119_0, e119_1, e119_2, e119_3, e119_6, e119_7, e119_9, e119_10, e119_13, e119_14, e119_17, e119_18, ↓reduceIte, zth_v, zth_n, zthv_s, zthi_s, zthm_s, true_or, or_true, eq_self, ne_eq, not_false_eq_true, not_true_eq_false, and_self, and_true, true_and, false_and, and_false, lc_lt, lc_gt]
  by_cases q1 : x < l
  · rw [if_pos q1, if_pos (Or.inl q1)]
  · rw [if_neg q1]
    by_cases q2 : h < x
    · rw [if_pos q2, if_pos (Or.inr q2)]
    · rw [if_neg q2, if_neg (by rintro (z | z); exact q1 z; exact q2 z)]
theorem m_in32 {v a b : Int32} : ev 119 0 [some (.long v.toInt64), none, some (.long a.toInt64), none, some (.long b.toInt64), none] [] M = some (some (.int (if v < a ∨ b < v then 0 else 1)), M) := by
  simp only [m_in, l3264]
theorem m_in_0_1 {v : Int32} : ev 119 0 [some (.long v.toInt64), none, some (.long 0), none, some (.long 1), none] [] M = some (some (.int (if v < 0 ∨ 1 < v then 0 else 1)), M) := m_in32 (a := 0) (b := 1)
theorem m_in_0_2 {v : Int32} : ev 119 0 [some (.long v.toInt64), none, some (.long 0), none, some (.long 2), none] [] M = some (some (.int (if v < 0 ∨ 2 < v then 0 else 1)), M) := m_in32 (a := 0) (b := 2)
theorem m_in_0_3 {v : Int32} : ev 119 0 [some (.long v.toInt64), none, some (.long 0), none, some (.long 3), none] [] M = some (some (.int (if v < 0 ∨ 3 < v then 0 else 1)), M) := m_in32 (a := 0) (b := 3)
theorem m_in_0_4 {v : Int32} : ev 119 0 [some (.long v.toInt64), none, some (.long 0), none, some (.long 4), none] [] M = some (some (.int (if v < 0 ∨ 4 < v then 0 else 1)), M) := m_in32 (a := 0) (b := 4)
theorem m_in_1_9 {v : Int32} : ev 119 0 [some (.long v.toInt64), none, some (.long 1), none, some (.long 9), none] [] M = some (some (.int (if v < 1 ∨ 9 < v then 0 else 1)), M) := m_in32 (a := 1) (b := 9)
theorem m_in_0_20 {v : Int32} : ev 119 0 [some (.long v.toInt64), none, some (.long 0), none, some (.long 20), none] [] M = some (some (.int (if v < 0 ∨ 20 < v then 0 else 1)), M) := m_in32 (a := 0) (b := 20)
theorem m_in_1_99 {v : Int32} : ev 119 0 [some (.long v.toInt64), none, some (.long 1), none, some (.long 99), none] [] M = some (some (.int (if v < 1 ∨ 99 < v then 0 else 1)), M) := m_in32 (a := 1) (b := 99)
theorem m_in_0_400 {v : Int32} : ev 119 0 [some (.long v.toInt64), none, some (.long 0), none, some (.long 400), none] [] M = some (some (.int (if v < 0 ∨ 400 < v then 0 else 1)), M) := m_in32 (a := 0) (b := 400)
theorem m_in_10_14 {v : Int32} : ev 119 0 [some (.long v.toInt64), none, some (.long 10), none, some (.long 14), none] [] M = some (some (.int (if v < 10 ∨ 14 < v then 0 else 1)), M) := m_in32 (a := 10) (b := 14)
theorem m_in_2_4 {v : Int32} : ev 119 0 [some (.long v.toInt64), none, some (.long (-2)), none, some (.long 4), none] [] M = some (some (.int (if v < -2 ∨ 4 < v then 0 else 1)), M) := m_in32 (a := -2) (b := 4)
theorem nIm1 {n : Nat} (hn : n ≤ 60) : (nI n).toInt64 - 1 = (nI n - 1).toInt64 := by
  have z : ∀ n, n ≤ 60 → (nI n).toInt64 - 1 = (nI n - 1).toInt64 := by decide +kernel
  exact z n hn
theorem nI_m1_lt {n : Nat} (hn : n ≤ 60) (v : Int32) : (nI n - 1 < v) = (nI n ≤ v) := by
  apply propext
  have e1 : (nI n - 1).toInt = (n : Int) - 1 := by
    have z : ∀ n, n ≤ 60 → (nI n - 1).toInt = (n : Int) - 1 := by decide +kernel
    exact z n hn
  have e2 : (nI n).toInt = (n : Int) := by
    have z : ∀ n, n ≤ 60 → (nI n).toInt = (n : Int) := by decide +kernel
    exact z n hn
  rw [Int32.lt_iff_toInt_lt, Int32.le_iff_toInt_le, e1, e2]
  omega
theorem m_in_r {v : Int32} {n : Nat} (hn : n ≤ 60) : ev 119 0 [some (.long v.toInt64), none, some (.long 0), none, some (.long ((nI n).toInt64 - 1)), none] [] M = some (some (.int (if v < 0 ∨ nI n ≤ v then 0 else 1)), M) := by
  rw [nIm1 hn]
  have z := m_in32 (M := M) (v := v) (a := 0) (b := nI n - 1)
  simp only [nI_m1_lt hn] at z
  exact z
theorem m_in_n {v : Int32} {n : Nat} : ev 119 0 [some (.long v.toInt64), none, some (.long 0), none, some (.long (nI n).toInt64), none] [] M = some (some (.int (if v < 0 ∨ nI n < v then 0 else 1)), M) := m_in32 (a := 0) (b := nI n)
theorem m_isIn {x k : Int32} : ev 121 0 [some (.int x), some (.int k)] [] M = some (some (.int (if (x >>> (k &&& 31)) &&& 1 = 1 then 1 else 0)), M) := by
  simp only [e121_0, e121_1, e121_2, e121_3, e121_4, e121_5, e121_6, e121_9, e121_10, e121_13, e121_14, ↓reduceIte, zth_v, zth_n, zthv_s, zthi_s, zthm_s, true_or, or_true, eq_self, ne_eq, not_false_eq_true, not_true_eq_false, and_self, and_true, true_and, false_and, and_false]
  split <;> rfl
theorem m_noSheet {k : Int32} : ev 170 0 [some (.int k)] [] M = some (some (.int (if k < 0 ∨ 3 < k then 1 else 0)), M) := by
  simp only [e170_0, e170_1, e170_2, e170_3, e170_6, e170_9, e170_12, e170_13, e170_16, e170_17, ↓reduceIte, zth_v, zth_n, zthv_s, zthi_s, zthm_s, true_or, or_true, eq_self, ne_eq, not_false_eq_true, not_true_eq_false, and_self, and_true, true_and, false_and, and_false, m_in_0_3]
  by_cases q : k < 0 ∨ 3 < k
  · simp only [q, if_true, i00]
  · simp only [q, if_false, i10]
variable {x : Nat → Int32} {A : Nat → Nat → Int32}
theorem zMdl.fr {M' : zMem} (h : zMdl M x A) (hf : ∀ a, 44 ≤ a → a ≤ 65 → mget M' a = mget M a) : zMdl M' x A := ⟨(hf 44 (by omega) (by omega)).trans h.1, fun a h1 h2 => (hf a (by omega) h2).trans (h.2 a h1 h2)⟩
theorem m_noRider_in (h : zMdl M x A) {nr : Nat} (hr : x 2 = nI nr) (h5 : nr ≤ 5) {j : Nat} (hj : j < nr) : ev 127 0 [some (.ref 44), some (.int (nI j))] [] M = some (some (.int 0), M) := by
  have h1 := h.1
  have g1 : ¬ (nI j < 0 ∨ nI nr ≤ nI j) := by
    rintro (z | z)
    · exact nI_pos (by omega) z
    · exact ni_nle hj (by omega) z
  simp only [e127_0, e127_1, e127_2, e127_3, e127_3n, e127_4, e127_7, e127_8, e127_9, e127_10, e127_13, e127_16, e127_17, e127_20, e127_21, ↓reduceIte, zth_v, zth_n, zthv_s, zthi_s, zthm_s, true_or, or_true, eq_self, ne_eq, not_false_eq_true, not_true_eq_false, and_self, and_true, true_and, false_and, and_false, foMod_0, foMod_1, foMod_2, foMod_3, foMod_4, foMod_5, foMod_6, foMod_7, foMod_8, foMod_9, foMod_10, foMod_11, foMod_12, foMod_13, foMod_14, foMod_15, foMod_16, foMod_17, foMod_18, foMod_19, foMod_20, foMod_21, foMod_22, foMod_23, foMod_24, foMod_25, foMod_26, foMod_27, foMod_28, foMod_29, foMod_30, foMod_31, foMod_32, foMod_33, foMod_34, foMod_35, foMod_36, foMod_37, foMod_38, poMod_0, poMod_1, poMod_2, poMod_3, poMod_4, poMod_5, poMod_12, poMod_13, poMod_14, poMod_15, poMod_20, poMod_21, poMod_22, poMod_23, poMod_28, poMod_29, poMod_30, poMod_38, coMod, h1, hr, m_in_r (show nr ≤ 60 by omega), g1, i10, Nat.reduceEqDiff]
theorem m_noRider_out (h : zMdl M x A) {nr : Nat} (hr : x 2 = nI nr) (h5 : nr ≤ 5) {k : Int32} (hj : k < 0 ∨ nI nr ≤ k) : ev 127 0 [some (.ref 44), some (.int k)] [] M = some (some (.int 1), M) := by
  have h1 := h.1
  simp only [e127_0, e127_1, e127_2, e127_3, e127_3n, e127_4, e127_7, e127_8, e127_9, e127_10, e127_13, e127_16, e127_17, e127_20, e127_21, ↓reduceIte, zth_v, zth_n, zthv_s, zthi_s, zthm_s, true_or, or_true, eq_self, ne_eq, not_false_eq_true, not_true_eq_false, and_self, and_true, true_and, false_and, and_false, foMod_0, foMod_1, foMod_2, foMod_3, foMod_4, foMod_5, foMod_6, foMod_7, foMod_8, foMod_9, foMod_10, foMod_11, foMod_12, foMod_13, foMod_14, foMod_15, foMod_16, foMod_17, foMod_18, foMod_19, foMod_20, foMod_21, foMod_22, foMod_23, foMod_24, foMod_25, foMod_26, foMod_27, foMod_28, foMod_29, foMod_30, foMod_31, foMod_32, foMod_33, foMod_34, foMod_35, foMod_36, foMod_37, foMod_38, poMod_0, poMod_1, poMod_2, poMod_3, poMod_4, poMod_5, poMod_12, poMod_13, poMod_14, poMod_15, poMod_20, poMod_21, poMod_22, poMod_23, poMod_28, poMod_29, poMod_30, poMod_38, coMod, h1, hr, m_in_r (show nr ≤ 60 by omega), hj, Nat.reduceEqDiff]
theorem m_noLand_in (h : zMdl M x A) {nl : Nat} (hr : x 1 = nI nl) (h5 : nl ≤ 5) {j : Nat} (hj : j < nl) : ev 128 0 [some (.ref 44), some (.int (nI j))] [] M = some (some (.int 0), M) := by
  have h1 := h.1
  have g1 : ¬ (nI j < 0 ∨ nI nl ≤ nI j) := by
    rintro (z | z)
    · exact nI_pos (by omega) z
    · exact ni_nle hj (by omega) z
  simp only [e128_0, e128_1, e128_2, e128_3, e128_3n, e128_4, e128_7, e128_8, e128_9, e128_10, e128_13, e128_16, e128_17, e128_20, e128_21, ↓reduceIte, zth_v, zth_n, zthv_s, zthi_s, zthm_s, true_or, or_true, eq_self, ne_eq, not_false_eq_true, not_true_eq_false, and_self, and_true, true_and, false_and, and_false, foMod_0, foMod_1, foMod_2, foMod_3, foMod_4, foMod_5, foMod_6, foMod_7, foMod_8, foMod_9, foMod_10, foMod_11, foMod_12, foMod_13, foMod_14, foMod_15, foMod_16, foMod_17, foMod_18, foMod_19, foMod_20, foMod_21, foMod_22, foMod_23, foMod_24, foMod_25, foMod_26, foMod_27, foMod_28, foMod_29, foMod_30, foMod_31, foMod_32, foMod_33, foMod_34, foMod_35, foMod_36, foMod_37, foMod_38, poMod_0, poMod_1, poMod_2, poMod_3, poMod_4, poMod_5, poMod_12, poMod_13, poMod_14, poMod_15, poMod_20, poMod_21, poMod_22, poMod_23, poMod_28, poMod_29, poMod_30, poMod_38, coMod, h1, hr, m_in_r (show nl ≤ 60 by omega), g1, i10, Nat.reduceEqDiff]
theorem m_noLand_out (h : zMdl M x A) {nl : Nat} (hr : x 1 = nI nl) (h5 : nl ≤ 5) {k : Int32} (hj : k < 0 ∨ nI nl ≤ k) : ev 128 0 [some (.ref 44), some (.int k)] [] M = some (some (.int 1), M) := by
  have h1 := h.1
  simp only [e128_0, e128_1, e128_2, e128_3, e128_3n, e128_4, e128_7, e128_8, e128_9, e128_10, e128_13, e128_16, e128_17, e128_20, e128_21, ↓reduceIte, zth_v, zth_n, zthv_s, zthi_s, zthm_s, true_or, or_true, eq_self, ne_eq, not_false_eq_true, not_true_eq_false, and_self, and_true, true_and, false_and, and_false, foMod_0, foMod_1, foMod_2, foMod_3, foMod_4, foMod_5, foMod_6, foMod_7, foMod_8, foMod_9, foMod_10, foMod_11, foMod_12, foMod_13, foMod_14, foMod_15, foMod_16, foMod_17, foMod_18, foMod_19, foMod_20, foMod_21, foMod_22, foMod_23, foMod_24, foMod_25, foMod_26, foMod_27, foMod_28, foMod_29, foMod_30, foMod_31, foMod_32, foMod_33, foMod_34, foMod_35, foMod_36, foMod_37, foMod_38, poMod_0, poMod_1, poMod_2, poMod_3, poMod_4, poMod_5, poMod_12, poMod_13, poMod_14, poMod_15, poMod_20, poMod_21, poMod_22, poMod_23, poMod_28, poMod_29, poMod_30, poMod_38, coMod, h1, hr, m_in_r (show nl ≤ 60 by omega), hj, Nat.reduceEqDiff]
/-- a field, an array of the model written -/
def xUp (x : Nat → Int32) (k : Nat) (v : Int32) : Nat → Int32 := upd x k v
theorem m_paceOf (h : zMdl M x A) {j : Nat} (hj : j < 5) : ev 136 0 [some (.ref 44), some (.int (nI j)), none] [] M = some (some (.int (zpace (A 46 j) (A 47 j))), M) := by
  have h1 := h.1
  have h46 := h.2 46 (by omega) (by omega)
  have h47 := h.2 47 (by omega) (by omega)
  have g1 := zia_in (n := zsz 46) (f := A 46) (j := j) (show j < 5 by omega) (show 5 < 2 ^ 31 by omega)
  have g2 := zia_in (n := zsz 47) (f := A 47) (j := j) (show j < 5 by omega) (show 5 < 2 ^ 31 by omega)
  simp only [e136_0, e136_0n, e136_1, e136_4, e136_5, e136_6, e136_7, e136_8, e136_9, e136_9n, e136_10, e136_13, e136_14, e136_15, e136_18, e136_18n, e136_19, e136_22, e136_23, e136_24, e136_27, e136_27n, e136_28, e136_31, e136_32, e136_33, e136_34, e136_37, e136_38, e136_41, e136_42, e136_43, e136_44, ↓reduceIte, zth_v, zth_n, zthv_s, zthi_s, zthm_s, true_or, or_true, eq_self, ne_eq, not_false_eq_true, not_true_eq_false, and_self, and_true, true_and, false_and, and_false, foMod_0, foMod_1, foMod_2, foMod_3, foMod_4, foMod_5, foMod_6, foMod_7, foMod_8, foMod_9, foMod_10, foMod_11, foMod_12, foMod_13, foMod_14, foMod_15, foMod_16, foMod_17, foMod_18, foMod_19, foMod_20, foMod_21, foMod_22, foMod_23, foMod_24, foMod_25, foMod_26, foMod_27, foMod_28, foMod_29, foMod_30, foMod_31, foMod_32, foMod_33, foMod_34, foMod_35, foMod_36, foMod_37, foMod_38, poMod_0, poMod_1, poMod_2, poMod_3, poMod_4, poMod_5, poMod_12, poMod_13, poMod_14, poMod_15, poMod_20, poMod_21, poMod_22, poMod_23, poMod_28, poMod_29, poMod_30, poMod_38, coMod, h1, h46, h47, g1, g2, zpace, Nat.reduceEqDiff]
  split
  · rfl
  · split <;> rfl
end MB
