/-! What a set of riders comes to, in the model -/
section SB
variable {M : zMem} {x : Nat → Int32} {A : Nat → Nat → Int32} {q nl nr : Nat} {F : Nat → Int32} {r : Nat → zRD}
theorem zcome_or (h : zInN (nI q) nl nr F r) {j l : Nat} (hj : j < nr) : zcome (nI q) F (r j) (zLa r j) l = -9 ∨ ∃ v, v ≤ 9 ∧ zcome (nI q) F (r j) (zLa r j) l = nI v := by
  rcases zcA_or (zgo (nI q) F (r j) l) (zLa r j) 1 with e | ⟨v, h1, h2, e⟩
  · exact Or.inl e
  · exact Or.inr ⟨v, by have := (zT_ok h j hj).2; omega, e⟩
theorem m_seen_bit (h : zMdl M x A) (z : zMR x A q nl nr F r) {j : Nat} (hj : j < nr) {set acc : Int32} (hb : (set >>> (nI j &&& 31)) &&& 1 = 1) : ∀ k l, l + k = nl → ev 158 15 [some (.ref 44), some (.int set), some (.int (acc ||| zreach (zcome (nI q) F (r j) (zLa r j)) l)), some (.int (nI j)), some (.int (nI l))] [] M = ev 158 59 [some (.ref 44), some (.int set), some (.int (acc ||| zreach (zcome (nI q) F (r j) (zLa r j)) nl)), some (.int (nI j)), some (.int (nI nl))] [] M := by
  have ct := fun l (hl : l < nl) => m_comesTo h z hj hl
  obtain ⟨x1, x2, x3, q1, q2, hl5, hr5, hN, hI⟩ := z
  have o44 := h.1
  have hz44 : zoc (mget M 44) = some 8 := by rw [h.1]; exact coMod
  intro k
  induction k with
  | zero =>
    intro l hl
    obtain rfl : l = nl := by omega
    have g1 : nI l ≤ nI l := ni_ge (Nat.le_refl _) (by omega)
    simp only [e158_0, e158_1, e158_2, e158_3, e158_4, e158_5, e158_5n, e158_6, e158_9, e158_12, e158_13, e158_15, e158_17, e158_17n, e158_18, e158_21, e158_24, e158_25, e158_26, e158_27, e158_30, e158_33, e158_33n, e158_34, e158_35, e158_37, e158_40, e158_43, e158_44, e158_46, e158_47, e158_50, e158_51, e158_52, e158_53, e158_56, e158_62, e158_65, e158_66, ↓reduceIte, zth_v, zth_n, zthv_s, zthi_s, zthm_s, true_or, or_true, eq_self, ne_eq, not_false_eq_true, not_true_eq_false, and_self, and_true, true_and, false_and, and_false, foMod_0, foMod_1, foMod_2, foMod_3, foMod_4, foMod_5, foMod_6, foMod_7, foMod_8, foMod_9, foMod_10, foMod_11, foMod_12, foMod_13, foMod_14, foMod_15, foMod_16, foMod_17, foMod_18, foMod_19, foMod_20, foMod_21, foMod_22, foMod_23, foMod_24, foMod_25, foMod_26, foMod_27, foMod_28, foMod_29, foMod_30, foMod_31, foMod_32, foMod_33, foMod_34, foMod_35, foMod_36, foMod_37, foMod_38, poMod_0, poMod_1, poMod_2, poMod_3, poMod_4, poMod_5, poMod_12, poMod_13, poMod_14, poMod_15, poMod_20, poMod_21, poMod_22, poMod_23, poMod_28, poMod_29, poMod_30, poMod_38, coMod, o44, x1, g1, Nat.reduceEqDiff]
  | succ k ih =>
    intro l hl
    have g1 : ¬ nI nl ≤ nI l := ni_nle (by omega) (by omega)
    have ct := ct l (by omega)
    rw [← ih (l + 1) (by omega), e158_15, zreach, zbit]
    rcases zcome_or hI hj (l := l) with e | ⟨v, v9, e⟩
    · rw [if_pos e]
      rw [e] at ct
      have m1 : ¬ (0 : Int32) ≤ -9 := by decide
      have m2 : (-9 : Int32) < 0 := by decide
      simp only [e158_0, e158_1, e158_2, e158_3, e158_4, e158_5, e158_5n, e158_6, e158_9, e158_12, e158_13, e158_17, e158_17n, e158_18, e158_21, e158_24, e158_25, e158_26, e158_27, e158_30, e158_33, e158_33n, e158_34, e158_35, e158_37, e158_40, e158_43, e158_44, e158_46, e158_47, e158_50, e158_51, e158_52, e158_53, e158_56, e158_62, e158_65, e158_66, ↓reduceIte, zth_v, zth_n, zthv_s, zthi_s, zthm_s, true_or, or_true, eq_self, ne_eq, not_false_eq_true, not_true_eq_false, and_self, and_true, true_and, false_and, and_false, foMod_0, foMod_1, foMod_2, foMod_3, foMod_4, foMod_5, foMod_6, foMod_7, foMod_8, foMod_9, foMod_10, foMod_11, foMod_12, foMod_13, foMod_14, foMod_15, foMod_16, foMod_17, foMod_18, foMod_19, foMod_20, foMod_21, foMod_22, foMod_23, foMod_24, foMod_25, foMod_26, foMod_27, foMod_28, foMod_29, foMod_30, foMod_31, foMod_32, foMod_33, foMod_34, foMod_35, foMod_36, foMod_37, foMod_38, poMod_0, poMod_1, poMod_2, poMod_3, poMod_4, poMod_5, poMod_12, poMod_13, poMod_14, poMod_15, poMod_20, poMod_21, poMod_22, poMod_23, poMod_28, poMod_29, poMod_30, poMod_38, coMod, o44, hz44, x1, g1, m_isIn, hb, ct, m1, m2, or_0, i10, nI_1, Nat.reduceEqDiff]
    · rw [if_neg (by rw [e]; exact n9v v9)]
      rw [e] at ct
      have m1 : (0 : Int32) ≤ nI v := ni_ge (b := 0) (by omega) (by omega)
      have m2 : ¬ nI v < 0 := Int32.not_lt.mpr m1
      simp only [e158_0, e158_1, e158_2, e158_3, e158_4, e158_5, e158_5n, e158_6, e158_9, e158_12, e158_13, e158_17, e158_17n, e158_18, e158_21, e158_24, e158_25, e158_26, e158_27, e158_30, e158_33, e158_33n, e158_34, e158_35, e158_37, e158_40, e158_43, e158_44, e158_46, e158_47, e158_50, e158_51, e158_52, e158_53, e158_56, e158_62, e158_65, e158_66, ↓reduceIte, zth_v, zth_n, zthv_s, zthi_s, zthm_s, true_or, or_true, eq_self, ne_eq, not_false_eq_true, not_true_eq_false, and_self, and_true, true_and, false_and, and_false, foMod_0, foMod_1, foMod_2, foMod_3, foMod_4, foMod_5, foMod_6, foMod_7, foMod_8, foMod_9, foMod_10, foMod_11, foMod_12, foMod_13, foMod_14, foMod_15, foMod_16, foMod_17, foMod_18, foMod_19, foMod_20, foMod_21, foMod_22, foMod_23, foMod_24, foMod_25, foMod_26, foMod_27, foMod_28, foMod_29, foMod_30, foMod_31, foMod_32, foMod_33, foMod_34, foMod_35, foMod_36, foMod_37, foMod_38, poMod_0, poMod_1, poMod_2, poMod_3, poMod_4, poMod_5, poMod_12, poMod_13, poMod_14, poMod_15, poMod_20, poMod_21, poMod_22, poMod_23, poMod_28, poMod_29, poMod_30, poMod_38, coMod, o44, hz44, x1, g1, m_isIn, hb, ct, m1, m2, or_as, i10, nI_1, Nat.reduceEqDiff]
theorem m_seen_no (h : zMdl M x A) (z : zMR x A q nl nr F r) {j : Nat} {set acc : Int32} (hb : ¬ (set >>> (nI j &&& 31)) &&& 1 = 1) : ∀ k l, l + k = nl → ev 158 15 [some (.ref 44), some (.int set), some (.int acc), some (.int (nI j)), some (.int (nI l))] [] M = ev 158 59 [some (.ref 44), some (.int set), some (.int acc), some (.int (nI j)), some (.int (nI nl))] [] M := by
  obtain ⟨x1, x2, x3, q1, q2, hl5, hr5, hN, hI⟩ := z
  have o44 := h.1
  intro k
  induction k with
  | zero =>
    intro l hl
    obtain rfl : l = nl := by omega
    have g1 : nI l ≤ nI l := ni_ge (Nat.le_refl _) (by omega)
    simp only [e158_0, e158_1, e158_2, e158_3, e158_4, e158_5, e158_5n, e158_6, e158_9, e158_12, e158_13, e158_15, e158_17, e158_17n, e158_18, e158_21, e158_24, e158_25, e158_26, e158_27, e158_30, e158_33, e158_33n, e158_34, e158_35, e158_37, e158_40, e158_43, e158_44, e158_46, e158_47, e158_50, e158_51, e158_52, e158_53, e158_56, e158_62, e158_65, e158_66, ↓reduceIte, zth_v, zth_n, zthv_s, zthi_s, zthm_s, true_or, or_true, eq_self, ne_eq, not_false_eq_true, not_true_eq_false, and_self, and_true, true_and, false_and, and_false, foMod_0, foMod_1, foMod_2, foMod_3, foMod_4, foMod_5, foMod_6, foMod_7, foMod_8, foMod_9, foMod_10, foMod_11, foMod_12, foMod_13, foMod_14, foMod_15, foMod_16, foMod_17, foMod_18, foMod_19, foMod_20, foMod_21, foMod_22, foMod_23, foMod_24, foMod_25, foMod_26, foMod_27, foMod_28, foMod_29, foMod_30, foMod_31, foMod_32, foMod_33, foMod_34, foMod_35, foMod_36, foMod_37, foMod_38, poMod_0, poMod_1, poMod_2, poMod_3, poMod_4, poMod_5, poMod_12, poMod_13, poMod_14, poMod_15, poMod_20, poMod_21, poMod_22, poMod_23, poMod_28, poMod_29, poMod_30, poMod_38, coMod, o44, x1, g1, Nat.reduceEqDiff]
  | succ k ih =>
    intro l hl
    have g1 : ¬ nI nl ≤ nI l := ni_nle (by omega) (by omega)
    rw [← ih (l + 1) (by omega), e158_15]
    simp only [e158_0, e158_1, e158_2, e158_3, e158_4, e158_5, e158_5n, e158_6, e158_9, e158_12, e158_13, e158_17, e158_17n, e158_18, e158_21, e158_24, e158_25, e158_26, e158_27, e158_30, e158_33, e158_33n, e158_34, e158_35, e158_37, e158_40, e158_43, e158_44, e158_46, e158_47, e158_50, e158_51, e158_52, e158_53, e158_56, e158_62, e158_65, e158_66, ↓reduceIte, zth_v, zth_n, zthv_s, zthi_s, zthm_s, true_or, or_true, eq_self, ne_eq, not_false_eq_true, not_true_eq_false, and_self, and_true, true_and, false_and, and_false, foMod_0, foMod_1, foMod_2, foMod_3, foMod_4, foMod_5, foMod_6, foMod_7, foMod_8, foMod_9, foMod_10, foMod_11, foMod_12, foMod_13, foMod_14, foMod_15, foMod_16, foMod_17, foMod_18, foMod_19, foMod_20, foMod_21, foMod_22, foMod_23, foMod_24, foMod_25, foMod_26, foMod_27, foMod_28, foMod_29, foMod_30, foMod_31, foMod_32, foMod_33, foMod_34, foMod_35, foMod_36, foMod_37, foMod_38, poMod_0, poMod_1, poMod_2, poMod_3, poMod_4, poMod_5, poMod_12, poMod_13, poMod_14, poMod_15, poMod_20, poMod_21, poMod_22, poMod_23, poMod_28, poMod_29, poMod_30, poMod_38, coMod, o44, x1, g1, m_isIn, hb, or_0, nI_1, Nat.reduceEqDiff]
theorem m_seen_loop (h : zMdl M x A) (z : zMR x A q nl nr F r) {set : Int32} : ∀ k j d, j + k = nr → ev 158 4 [some (.ref 44), some (.int set), some (.int (zcomeBy set (fun j => zreach (zcome (nI q) F (r j) (zLa r j)) nl) j)), some (.int (nI j)), d] [] M = some (some (.int (zcomeBy set (fun j => zreach (zcome (nI q) F (r j) (zLa r j)) nl) nr)), M) := by
  have zz := z
  obtain ⟨x1, x2, x3, q1, q2, hl5, hr5, hN, hI⟩ := z
  have o44 := h.1
  intro k
  induction k with
  | zero =>
    intro j d hj
    obtain rfl : j = nr := by omega
    have g1 : nI j ≤ nI j := ni_ge (Nat.le_refl _) (by omega)
    simp only [e158_0, e158_1, e158_2, e158_3, e158_4, e158_5, e158_5n, e158_6, e158_9, e158_12, e158_13, e158_15, e158_17, e158_17n, e158_18, e158_21, e158_24, e158_25, e158_26, e158_27, e158_30, e158_33, e158_33n, e158_34, e158_35, e158_37, e158_40, e158_43, e158_44, e158_46, e158_47, e158_50, e158_51, e158_52, e158_53, e158_56, e158_59, e158_62, e158_65, e158_66, ↓reduceIte, zth_v, zth_n, zthv_s, zthi_s, zthm_s, true_or, or_true, eq_self, ne_eq, not_false_eq_true, not_true_eq_false, and_self, and_true, true_and, false_and, and_false, foMod_0, foMod_1, foMod_2, foMod_3, foMod_4, foMod_5, foMod_6, foMod_7, foMod_8, foMod_9, foMod_10, foMod_11, foMod_12, foMod_13, foMod_14, foMod_15, foMod_16, foMod_17, foMod_18, foMod_19, foMod_20, foMod_21, foMod_22, foMod_23, foMod_24, foMod_25, foMod_26, foMod_27, foMod_28, foMod_29, foMod_30, foMod_31, foMod_32, foMod_33, foMod_34, foMod_35, foMod_36, foMod_37, foMod_38, poMod_0, poMod_1, poMod_2, poMod_3, poMod_4, poMod_5, poMod_12, poMod_13, poMod_14, poMod_15, poMod_20, poMod_21, poMod_22, poMod_23, poMod_28, poMod_29, poMod_30, poMod_38, coMod, o44, x2, g1, Nat.reduceEqDiff]
  | succ k ih =>
    intro j d hj
    have g1 : ¬ nI nr ≤ nI j := ni_nle (by omega) (by omega)
    have st : ∀ acc : Int32, ev 158 4 [some (.ref 44), some (.int set), some (.int acc), some (.int (nI j)), d] [] M = ev 158 15 [some (.ref 44), some (.int set), some (.int acc), some (.int (nI j)), some (.int 0)] [] M := fun acc => by
      simp only [e158_0, e158_1, e158_2, e158_3, e158_4, e158_5, e158_5n, e158_6, e158_9, e158_12, e158_13, e158_17, e158_17n, e158_18, e158_21, e158_24, e158_25, e158_26, e158_27, e158_30, e158_33, e158_33n, e158_34, e158_35, e158_37, e158_40, e158_43, e158_44, e158_46, e158_47, e158_50, e158_51, e158_52, e158_53, e158_56, e158_59, e158_62, e158_65, e158_66, ↓reduceIte, zth_v, zth_n, zthv_s, zthi_s, zthm_s, true_or, or_true, eq_self, ne_eq, not_false_eq_true, not_true_eq_false, and_self, and_true, true_and, false_and, and_false, foMod_0, foMod_1, foMod_2, foMod_3, foMod_4, foMod_5, foMod_6, foMod_7, foMod_8, foMod_9, foMod_10, foMod_11, foMod_12, foMod_13, foMod_14, foMod_15, foMod_16, foMod_17, foMod_18, foMod_19, foMod_20, foMod_21, foMod_22, foMod_23, foMod_24, foMod_25, foMod_26, foMod_27, foMod_28, foMod_29, foMod_30, foMod_31, foMod_32, foMod_33, foMod_34, foMod_35, foMod_36, foMod_37, foMod_38, poMod_0, poMod_1, poMod_2, poMod_3, poMod_4, poMod_5, poMod_12, poMod_13, poMod_14, poMod_15, poMod_20, poMod_21, poMod_22, poMod_23, poMod_28, poMod_29, poMod_30, poMod_38, coMod, o44, x2, g1, Nat.reduceEqDiff]
    have fi : ∀ acc : Int32, ev 158 59 [some (.ref 44), some (.int set), some (.int acc), some (.int (nI j)), some (.int (nI nl))] [] M = ev 158 4 [some (.ref 44), some (.int set), some (.int acc), some (.int (nI (j + 1))), some (.int (nI nl))] [] M := fun acc => by
      simp only [e158_0, e158_1, e158_2, e158_3, e158_5, e158_5n, e158_6, e158_9, e158_12, e158_13, e158_17, e158_17n, e158_18, e158_21, e158_24, e158_25, e158_26, e158_27, e158_30, e158_33, e158_33n, e158_34, e158_35, e158_37, e158_40, e158_43, e158_44, e158_46, e158_47, e158_50, e158_51, e158_52, e158_53, e158_56, e158_59, e158_62, e158_65, e158_66, ↓reduceIte, zth_v, zth_n, zthv_s, zthi_s, zthm_s, true_or, or_true, eq_self, ne_eq, not_false_eq_true, not_true_eq_false, and_self, and_true, true_and, false_and, and_false, nI_1]
    have ih := ih (j + 1) (some (.int (nI nl))) (by omega)
    rw [st, ← ih, zcomeBy]
    by_cases hb : (set >>> (nI j &&& 31)) &&& 1 = 1
    · rw [if_pos hb, ← fi]
      have w := m_seen_bit h zz (show j < nr by omega) (acc := zcomeBy set (fun j => zreach (zcome (nI q) F (r j) (zLa r j)) nl) j) hb nl 0 (by omega)
      rw [zreach, or_0, nI_0] at w
      exact w
    · rw [if_neg hb, ← fi]
      have w := m_seen_no h zz (acc := zcomeBy set (fun j => zreach (zcome (nI q) F (r j) (zLa r j)) nl) j) hb nl 0 (by omega)
      rw [nI_0] at w
      exact w
theorem m_seenBy (h : zMdl M x A) (z : zMR x A q nl nr F r) {set : Int32} : ev 158 0 [some (.ref 44), some (.int set), none, none, none] [] M = some (some (.int (zcomeBy set (fun j => zreach (zcome (nI q) F (r j) (zLa r j)) nl) nr)), M) := by
  have w := m_seen_loop h z (set := set) nr 0 none (by omega)
  rw [zcomeBy, nI_0] at w
  simp only [e158_0, e158_1, e158_2, e158_3, e158_5, e158_5n, e158_6, e158_9, e158_12, e158_13, e158_15, e158_17, e158_17n, e158_18, e158_21, e158_24, e158_25, e158_26, e158_27, e158_30, e158_33, e158_33n, e158_34, e158_35, e158_37, e158_40, e158_43, e158_44, e158_46, e158_47, e158_50, e158_51, e158_52, e158_53, e158_56, e158_59, e158_62, e158_65, e158_66, ↓reduceIte, zth_v, zth_n, zthv_s, zthi_s, zthm_s, true_or, or_true, eq_self, ne_eq, not_false_eq_true, not_true_eq_false, and_self, and_true, true_and, false_and, and_false]
  exact w
end SB
