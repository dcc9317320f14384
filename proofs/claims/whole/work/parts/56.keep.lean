/-! What the model keeps and brings back -/
theorem m_keepAll_loop {x : Nat → Int32} {nr : Nat} (x2 : x 2 = nI nr) (hr5 : nr ≤ 5) : ∀ k j M A, j + k = nr → zMdl M x A → (∀ i, i < j → A 55 i = A 49 i ∧ A 56 i = A 50 i) → ∃ M' A', ev 148 18 [some (.ref 44), some (.int (nI j))] [] M = some (none, M') ∧ zMdl M' x A' ∧ (∀ a, a ≠ 55 → a ≠ 56 → A' a = A a) ∧ (∀ i, i < nr → A' 55 i = A 49 i ∧ A' 56 i = A 50 i) ∧ zFr M M' 44 65 := by
  intro k
  induction k with
  | zero =>
    intro j M A hj h hz
    obtain rfl : j = nr := by omega
    refine ⟨M, A, ?_, h, fun _ _ _ => rfl, hz, zFr.rf⟩
    have g1 : nI j ≤ nI j := ni_ge (Nat.le_refl _) (by omega)
    have o44 := h.1
    simp only [e148_0, e148_0n, e148_1, e148_1n, e148_2, e148_5, e148_8, e148_8n, e148_9, e148_9n, e148_10, e148_13, e148_16, e148_17, e148_18, e148_19, e148_19n, e148_20, e148_23, e148_26, e148_26n, e148_27, e148_30, e148_31, e148_31n, e148_32, e148_35, e148_36, e148_37, e148_38, e148_38n, e148_39, e148_42, e148_43, e148_43n, e148_44, e148_47, e148_48, e148_49, e148_50, e148_53, e148_56, ↓reduceIte, zth_v, zth_n, zthv_s, zthi_s, zthm_s, true_or, or_true, eq_self, ne_eq, not_false_eq_true, not_true_eq_false, and_self, and_true, true_and, false_and, and_false, foMod_0, foMod_1, foMod_2, foMod_3, foMod_4, foMod_5, foMod_6, foMod_7, foMod_8, foMod_9, foMod_10, foMod_11, foMod_12, foMod_13, foMod_14, foMod_15, foMod_16, foMod_17, foMod_18, foMod_19, foMod_20, foMod_21, foMod_22, foMod_23, foMod_24, foMod_25, foMod_26, foMod_27, foMod_28, foMod_29, foMod_30, foMod_31, foMod_32, foMod_33, foMod_34, foMod_35, foMod_36, foMod_37, foMod_38, poMod_0, poMod_1, poMod_2, poMod_3, poMod_4, poMod_5, poMod_12, poMod_13, poMod_14, poMod_15, poMod_20, poMod_21, poMod_22, poMod_23, poMod_28, poMod_29, poMod_30, poMod_38, coMod, o44, x2, g1, Nat.reduceEqDiff]
  | succ k ih =>
    intro j M A hj h hz
    have g1 : ¬ nI nr ≤ nI j := ni_nle (by omega) (by omega)
    have h1 := h.setA 55 (by omega) (by omega) (upd (A 55) j (A 49 j))
    have h2 := h1.setA 56 (by omega) (by omega) (upd (A 56) j (A 50 j))
    obtain ⟨M', A', i1, i2, i3, i4, i5⟩ := ih (j + 1) _ _ (by omega) h2 (fun i hi => by
      rw [va_up_ne _ _ (show 55 ≠ 56 by omega), va_up_self, va_up_ne _ _ (show 49 ≠ 56 by omega), va_up_ne _ _ (show 49 ≠ 55 by omega), va_up_self, va_up_ne _ _ (show 50 ≠ 56 by omega), va_up_ne _ _ (show 50 ≠ 55 by omega)]
      by_cases e : i = j
      · subst e; rw [pk_us, pk_us]; exact ⟨rfl, rfl⟩
      · rw [pk_un e, pk_un e]; exact hz i (by omega))
    refine ⟨M', A', ?_, i2, fun a a1 a2 => by rw [i3 a a1 a2, va_up_ne _ _ a2, va_up_ne _ _ a1], fun i hi => ?_, zFr.tr ((zFr.rf.set (by omega) (by omega)).set (by omega) (by omega)) i5⟩
    · have o44 := h.1
      have o44' := h1.1
      have oS1 := h.2 49 (by omega) (by omega)
      have oT1 := h.2 55 (by omega) (by omega)
      have oS2 := h1.2 50 (by omega) (by omega)
      have oT2 := h1.2 56 (by omega) (by omega)
      rw [va_up_ne _ _ (by omega)] at oS2 oT2
      have z1 := zia_in (n := zsz 49) (f := A 49) (j := j) (show j < 5 by omega) (show 5 < 2 ^ 31 by omega)
      have z2 := zia_in (n := zsz 50) (f := A 50) (j := j) (show j < 5 by omega) (show 5 < 2 ^ 31 by omega)
      have s1 := zis_in (n := zsz 55) (f := A 55) (x := A 49 j) (j := j) (show j < 5 by omega) (show 5 < 2 ^ 31 by omega)
      have s2 := zis_in (n := zsz 56) (f := A 56) (x := A 50 j) (j := j) (show j < 5 by omega) (show 5 < 2 ^ 31 by omega)
      rw [e148_18]
      simp only [e148_0, e148_0n, e148_1, e148_1n, e148_2, e148_5, e148_8, e148_8n, e148_9, e148_9n, e148_10, e148_13, e148_16, e148_17, e148_19, e148_19n, e148_20, e148_23, e148_26, e148_26n, e148_27, e148_30, e148_31, e148_31n, e148_32, e148_35, e148_36, e148_37, e148_38, e148_38n, e148_39, e148_42, e148_43, e148_43n, e148_44, e148_47, e148_48, e148_49, e148_50, e148_53, e148_56, ↓reduceIte, zth_v, zth_n, zthv_s, zthi_s, zthm_s, true_or, or_true, eq_self, ne_eq, not_false_eq_true, not_true_eq_false, and_self, and_true, true_and, false_and, and_false, foMod_0, foMod_1, foMod_2, foMod_3, foMod_4, foMod_5, foMod_6, foMod_7, foMod_8, foMod_9, foMod_10, foMod_11, foMod_12, foMod_13, foMod_14, foMod_15, foMod_16, foMod_17, foMod_18, foMod_19, foMod_20, foMod_21, foMod_22, foMod_23, foMod_24, foMod_25, foMod_26, foMod_27, foMod_28, foMod_29, foMod_30, foMod_31, foMod_32, foMod_33, foMod_34, foMod_35, foMod_36, foMod_37, foMod_38, poMod_0, poMod_1, poMod_2, poMod_3, poMod_4, poMod_5, poMod_12, poMod_13, poMod_14, poMod_15, poMod_20, poMod_21, poMod_22, poMod_23, poMod_28, poMod_29, poMod_30, poMod_38, coMod, o44, o44', x2, g1, oS1, oT1, oS2, oT2, z1, z2, s1, s2, nI_1, Nat.reduceEqDiff]
      exact i1
    · have w := i4 i hi
      rw [va_up_ne _ _ (show 49 ≠ 56 by omega), va_up_ne _ _ (show 49 ≠ 55 by omega), va_up_ne _ _ (show 50 ≠ 56 by omega), va_up_ne _ _ (show 50 ≠ 55 by omega)] at w
      exact w
theorem m_keepAll {M : zMem} {x : Nat → Int32} {A : Nat → Nat → Int32} (h : zMdl M x A) {nr : Nat} (x2 : x 2 = nI nr) (hr5 : nr ≤ 5) : ∃ M' A', ev 148 0 [some (.ref 44), none] [] M = some (none, M') ∧ zMdl M' (upd (upd x 12 (x 4)) 13 (x 5)) A' ∧ (∀ a, a ≠ 55 → a ≠ 56 → A' a = A a) ∧ (∀ i, i < nr → A' 55 i = A 49 i ∧ A' 56 i = A 50 i) ∧ zFr M M' 44 65 := by
  have h1 := h.setX (upd x 12 (x 4))
  have h2 := h1.setX (upd (upd x 12 (x 4)) 13 (x 5))
  obtain ⟨M', A', i1, i2, i3, i4, i5⟩ := m_keepAll_loop (x := upd (upd x 12 (x 4)) 13 (x 5)) (nr := nr) x2 hr5 nr 0 _ A (by omega) h2 (fun i hi => by omega)
  refine ⟨M', A', ?_, i2, i3, i4, zFr.tr ((zFr.rf.set (by omega) (by omega)).set (by omega) (by omega)) i5⟩
  have o44 := h.1
  have o44' := h1.1
  rw [nI_0] at i1
  rw [mset_mset] at i1
  simp only [e148_0, e148_0n, e148_1, e148_1n, e148_2, e148_5, e148_8, e148_8n, e148_9, e148_9n, e148_10, e148_13, e148_16, e148_17, e148_19, e148_19n, e148_20, e148_23, e148_26, e148_26n, e148_27, e148_30, e148_31, e148_31n, e148_32, e148_35, e148_36, e148_37, e148_38, e148_38n, e148_39, e148_42, e148_43, e148_43n, e148_44, e148_47, e148_48, e148_49, e148_50, e148_53, e148_56, ↓reduceIte, zth_v, zth_n, zthv_s, zthi_s, zthm_s, true_or, or_true, eq_self, ne_eq, not_false_eq_true, not_true_eq_false, and_self, and_true, true_and, false_and, and_false, foMod_0, foMod_1, foMod_2, foMod_3, foMod_4, foMod_5, foMod_6, foMod_7, foMod_8, foMod_9, foMod_10, foMod_11, foMod_12, foMod_13, foMod_14, foMod_15, foMod_16, foMod_17, foMod_18, foMod_19, foMod_20, foMod_21, foMod_22, foMod_23, foMod_24, foMod_25, foMod_26, foMod_27, foMod_28, foMod_29, foMod_30, foMod_31, foMod_32, foMod_33, foMod_34, foMod_35, foMod_36, foMod_37, foMod_38, poMod_0, poMod_1, poMod_2, poMod_3, poMod_4, poMod_5, poMod_12, poMod_13, poMod_14, poMod_15, poMod_20, poMod_21, poMod_22, poMod_23, poMod_28, poMod_29, poMod_30, poMod_38, coMod, o44, mget_self, mset_mset, Nat.reduceEqDiff]
  exact i1
theorem m_bringBack_loop {x : Nat → Int32} {nr : Nat} (x2 : x 2 = nI nr) (hr5 : nr ≤ 5) : ∀ k j M A, j + k = nr → zMdl M x A → (∀ i, i < j → A 49 i = A 55 i ∧ A 50 i = A 56 i) → ∃ M' A', ev 149 18 [some (.ref 44), some (.int (nI j))] [] M = some (none, M') ∧ zMdl M' x A' ∧ (∀ a, a ≠ 49 → a ≠ 50 → A' a = A a) ∧ (∀ i, i < nr → A' 49 i = A 55 i ∧ A' 50 i = A 56 i) ∧ zFr M M' 44 65 := by
  intro k
  induction k with
  | zero =>
    intro j M A hj h hz
    obtain rfl : j = nr := by omega
    refine ⟨M, A, ?_, h, fun _ _ _ => rfl, hz, zFr.rf⟩
    have g1 : nI j ≤ nI j := ni_ge (Nat.le_refl _) (by omega)
    have o44 := h.1
    simp only [e149_0, e149_0n, e149_1, e149_1n, e149_2, e149_5, e149_8, e149_8n, e149_9, e149_9n, e149_10, e149_13, e149_16, e149_17, e149_18, e149_19, e149_19n, e149_20, e149_23, e149_26, e149_26n, e149_27, e149_30, e149_31, e149_31n, e149_32, e149_35, e149_36, e149_37, e149_38, e149_38n, e149_39, e149_42, e149_43, e149_43n, e149_44, e149_47, e149_48, e149_49, e149_50, e149_53, e149_56, ↓reduceIte, zth_v, zth_n, zthv_s, zthi_s, zthm_s, true_or, or_true, eq_self, ne_eq, not_false_eq_true, not_true_eq_false, and_self, and_true, true_and, false_and, and_false, foMod_0, foMod_1, foMod_2, foMod_3, foMod_4, foMod_5, foMod_6, foMod_7, foMod_8, foMod_9, foMod_10, foMod_11, foMod_12, foMod_13, foMod_14, foMod_15, foMod_16, foMod_17, foMod_18, foMod_19, foMod_20, foMod_21, foMod_22, foMod_23, foMod_24, foMod_25, foMod_26, foMod_27, foMod_28, foMod_29, foMod_30, foMod_31, foMod_32, foMod_33, foMod_34, foMod_35, foMod_36, foMod_37, foMod_38, poMod_0, poMod_1, poMod_2, poMod_3, poMod_4, poMod_5, poMod_12, poMod_13, poMod_14, poMod_15, poMod_20, poMod_21, poMod_22, poMod_23, poMod_28, poMod_29, poMod_30, poMod_38, coMod, o44, x2, g1, Nat.reduceEqDiff]
  | succ k ih =>
    intro j M A hj h hz
    have g1 : ¬ nI nr ≤ nI j := ni_nle (by omega) (by omega)
    have h1 := h.setA 49 (by omega) (by omega) (upd (A 49) j (A 55 j))
    have h2 := h1.setA 50 (by omega) (by omega) (upd (A 50) j (A 56 j))
    obtain ⟨M', A', i1, i2, i3, i4, i5⟩ := ih (j + 1) _ _ (by omega) h2 (fun i hi => by
      rw [va_up_ne _ _ (show 49 ≠ 50 by omega), va_up_self, va_up_ne _ _ (show 55 ≠ 50 by omega), va_up_ne _ _ (show 55 ≠ 49 by omega), va_up_self, va_up_ne _ _ (show 56 ≠ 50 by omega), va_up_ne _ _ (show 56 ≠ 49 by omega)]
      by_cases e : i = j
      · subst e; rw [pk_us, pk_us]; exact ⟨rfl, rfl⟩
      · rw [pk_un e, pk_un e]; exact hz i (by omega))
    refine ⟨M', A', ?_, i2, fun a a1 a2 => by rw [i3 a a1 a2, va_up_ne _ _ a2, va_up_ne _ _ a1], fun i hi => ?_, zFr.tr ((zFr.rf.set (by omega) (by omega)).set (by omega) (by omega)) i5⟩
    · have o44 := h.1
      have o44' := h1.1
      have oS1 := h.2 55 (by omega) (by omega)
      have oT1 := h.2 49 (by omega) (by omega)
      have oS2 := h1.2 56 (by omega) (by omega)
      have oT2 := h1.2 50 (by omega) (by omega)
      rw [va_up_ne _ _ (by omega)] at oS2 oT2
      have z1 := zia_in (n := zsz 55) (f := A 55) (j := j) (show j < 5 by omega) (show 5 < 2 ^ 31 by omega)
      have z2 := zia_in (n := zsz 56) (f := A 56) (j := j) (show j < 5 by omega) (show 5 < 2 ^ 31 by omega)
      have s1 := zis_in (n := zsz 49) (f := A 49) (x := A 55 j) (j := j) (show j < 5 by omega) (show 5 < 2 ^ 31 by omega)
      have s2 := zis_in (n := zsz 50) (f := A 50) (x := A 56 j) (j := j) (show j < 5 by omega) (show 5 < 2 ^ 31 by omega)
      rw [e149_18]
      simp only [e149_0, e149_0n, e149_1, e149_1n, e149_2, e149_5, e149_8, e149_8n, e149_9, e149_9n, e149_10, e149_13, e149_16, e149_17, e149_19, e149_19n, e149_20, e149_23, e149_26, e149_26n, e149_27, e149_30, e149_31, e149_31n, e149_32, e149_35, e149_36, e149_37, e149_38, e149_38n, e149_39, e149_42, e149_43, e149_43n, e149_44, e149_47, e149_48, e149_49, e149_50, e149_53, e149_56, ↓reduceIte, zth_v, zth_n, zthv_s, zthi_s, zthm_s, true_or, or_true, eq_self, ne_eq, not_false_eq_true, not_true_eq_false, and_self, and_true, true_and, false_and, and_false, foMod_0, foMod_1, foMod_2, foMod_3, foMod_4, foMod_5, foMod_6, foMod_7, foMod_8, foMod_9, foMod_10, foMod_11, foMod_12, foMod_13, foMod_14, foMod_15, foMod_16, foMod_17, foMod_18, foMod_19, foMod_20, foMod_21, foMod_22, foMod_23, foMod_24, foMod_25, foMod_26, foMod_27, foMod_28, foMod_29, foMod_30, foMod_31, foMod_32, foMod_33, foMod_34, foMod_35, foMod_36, foMod_37, foMod_38, poMod_0, poMod_1, poMod_2, poMod_3, poMod_4, poMod_5, poMod_12, poMod_13, poMod_14, poMod_15, poMod_20, poMod_21, poMod_22, poMod_23, poMod_28, poMod_29, poMod_30, poMod_38, coMod, o44, o44', x2, g1, oS1, oT1, oS2, oT2, z1, z2, s1, s2, nI_1, Nat.reduceEqDiff]
      exact i1
    · have w := i4 i hi
      rw [va_up_ne _ _ (show 55 ≠ 50 by omega), va_up_ne _ _ (show 55 ≠ 49 by omega), va_up_ne _ _ (show 56 ≠ 50 by omega), va_up_ne _ _ (show 56 ≠ 49 by omega)] at w
      exact w
theorem m_bringBack {M : zMem} {x : Nat → Int32} {A : Nat → Nat → Int32} (h : zMdl M x A) {nr : Nat} (x2 : x 2 = nI nr) (hr5 : nr ≤ 5) : ∃ M' A', ev 149 0 [some (.ref 44), none] [] M = some (none, M') ∧ zMdl M' (upd (upd x 4 (x 12)) 5 (x 13)) A' ∧ (∀ a, a ≠ 49 → a ≠ 50 → A' a = A a) ∧ (∀ i, i < nr → A' 49 i = A 55 i ∧ A' 50 i = A 56 i) ∧ zFr M M' 44 65 := by
  have h1 := h.setX (upd x 4 (x 12))
  have h2 := h1.setX (upd (upd x 4 (x 12)) 5 (x 13))
  obtain ⟨M', A', i1, i2, i3, i4, i5⟩ := m_bringBack_loop (x := upd (upd x 4 (x 12)) 5 (x 13)) (nr := nr) x2 hr5 nr 0 _ A (by omega) h2 (fun i hi => by omega)
  refine ⟨M', A', ?_, i2, i3, i4, zFr.tr ((zFr.rf.set (by omega) (by omega)).set (by omega) (by omega)) i5⟩
  have o44 := h.1
  have o44' := h1.1
  rw [nI_0] at i1
  rw [mset_mset] at i1
  simp only [e149_0, e149_0n, e149_1, e149_1n, e149_2, e149_5, e149_8, e149_8n, e149_9, e149_9n, e149_10, e149_13, e149_16, e149_17, e149_19, e149_19n, e149_20, e149_23, e149_26, e149_26n, e149_27, e149_30, e149_31, e149_31n, e149_32, e149_35, e149_36, e149_37, e149_38, e149_38n, e149_39, e149_42, e149_43, e149_43n, e149_44, e149_47, e149_48, e149_49, e149_50, e149_53, e149_56, ↓reduceIte, zth_v, zth_n, zthv_s, zthi_s, zthm_s, true_or, or_true, eq_self, ne_eq, not_false_eq_true, not_true_eq_false, and_self, and_true, true_and, false_and, and_false, foMod_0, foMod_1, foMod_2, foMod_3, foMod_4, foMod_5, foMod_6, foMod_7, foMod_8, foMod_9, foMod_10, foMod_11, foMod_12, foMod_13, foMod_14, foMod_15, foMod_16, foMod_17, foMod_18, foMod_19, foMod_20, foMod_21, foMod_22, foMod_23, foMod_24, foMod_25, foMod_26, foMod_27, foMod_28, foMod_29, foMod_30, foMod_31, foMod_32, foMod_33, foMod_34, foMod_35, foMod_36, foMod_37, foMod_38, poMod_0, poMod_1, poMod_2, poMod_3, poMod_4, poMod_5, poMod_12, poMod_13, poMod_14, poMod_15, poMod_20, poMod_21, poMod_22, poMod_23, poMod_28, poMod_29, poMod_30, poMod_38, coMod, o44, mget_self, mset_mset, Nat.reduceEqDiff]
  exact i1
