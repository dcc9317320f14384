/-! The model reads a nursery -/
section RF
theorem coM {y : Nat → Int32} : zoc (some (oM y)) = some 8 := coMod
variable {b n : Nat} {g : Nat → Int32}
abbrev zRr (B : Nat → Nat → Int32) (r : Nat → zRD) (j : Nat) : Prop := ∀ i, i < j → B 52 i = (r i).1 ∧ B 53 i = (r i).2.1 ∧ B 54 i = (r i).2.2.1
theorem m_riders_no {M : zMem} {x : Nat → Int32} {A : Nat → Nat → Int32} {p j : Nat} (h : zMdl M x A) (x6 : x 6 = nI p) (x9 : x 9 = nI j) (hj : j ≤ 5) (hp : p ≤ 60) (hb : b + n ≤ 240) (hs : ∀ q, q < n → A 64 (b + q) = g q) (hg : j < 1 ∨ p < n) (he : j = 5 ∨ ∃ p', zpR g n p = (p', none) ∧ p' = p) : ∃ M' y B, ev 133 72 [some (.ref 44), some (.int (nI b)), some (.int (nI n)), some (.int 1)] [] M = some (some (.int 0), M') ∧ zRdA M M' x y A B ∧ y 6 = nI p := by
  have o44 := h.1
  have hz44 : zoc (mget M 44) = some 8 := by rw [h.1]; exact coMod
  have hrd : ∃ M' y B, ev 132 0 [some (.ref 44), some (.int (nI b)), some (.int (nI n)), none, none, none] [] M = some (some (.int 0), M') ∧ zRdA M M' x y A B ∧ y 6 = nI p := by
    rcases he with rfl | ⟨p', e1, rfl⟩
    · exact ⟨M, x, A, m_readsRider5 h x9, ⟨h, fun _ _ _ => rfl, fun _ _ _ _ => rfl, zFr.rf⟩, x6⟩
    · by_cases j5 : j = 5
      · subst j5
        exact ⟨M, x, A, m_readsRider5 h x9, ⟨h, fun _ _ _ => rfl, fun _ _ _ _ => rfl, zFr.rf⟩, x6⟩
      · have E := m_readsRider h x6 x9 (by omega) hp hb hs
        rw [e1] at E
        exact E
  obtain ⟨M', y, B, a1, a2, a3⟩ := hrd
  refine ⟨M', y, B, ?_, a2, a3⟩
  rw [e133_72]
  by_cases c : j < 1
  · have c1 : nI j < 1 := nI_lt (b := 1) c (by omega)
    have c2 : ¬ 1 ≤ nI j := Int32.not_le.mpr c1
    simp only [e133_0, e133_0n, e133_1, e133_2, e133_5, e133_5n, e133_6, e133_7, e133_10, e133_10n, e133_11, e133_12, e133_15, e133_15n, e133_16, e133_17, e133_18, e133_21, e133_23, e133_26, e133_27, e133_28, e133_28n, e133_29, e133_30, e133_33, e133_34, e133_35, e133_38, e133_38n, e133_39, e133_39n, e133_40, e133_41, e133_42, e133_43, e133_44, e133_47, e133_50, e133_50n, e133_51, e133_54, e133_57, e133_57n, e133_58, e133_59, e133_60, e133_63, e133_66, e133_67, e133_70, e133_71, e133_73, e133_76, e133_76n, e133_77, e133_80, e133_81, e133_84, e133_84n, e133_85, e133_88, e133_89, e133_92, e133_92n, e133_93, e133_94, e133_95, e133_98, e133_99, e133_102, e133_103, ↓reduceIte, zth_v, zth_n, zthv_s, zthi_s, zthm_s, true_or, or_true, eq_self, ne_eq, not_false_eq_true, not_true_eq_false, and_self, and_true, true_and, false_and, and_false, foMod_0, foMod_1, foMod_2, foMod_3, foMod_4, foMod_5, foMod_6, foMod_7, foMod_8, foMod_9, foMod_10, foMod_11, foMod_12, foMod_13, foMod_14, foMod_15, foMod_16, foMod_17, foMod_18, foMod_19, foMod_20, foMod_21, foMod_22, foMod_23, foMod_24, foMod_25, foMod_26, foMod_27, foMod_28, foMod_29, foMod_30, foMod_31, foMod_32, foMod_33, foMod_34, foMod_35, foMod_36, foMod_37, foMod_38, poMod_0, poMod_1, poMod_2, poMod_3, poMod_4, poMod_5, poMod_12, poMod_13, poMod_14, poMod_15, poMod_20, poMod_21, poMod_22, poMod_23, poMod_28, poMod_29, poMod_30, poMod_38, coMod, o44, hz44, x9, c1, c2, i10, a1, Nat.reduceEqDiff]
    rw [e133_72]
    simp only [e133_0, e133_0n, e133_1, e133_2, e133_5, e133_5n, e133_6, e133_7, e133_10, e133_10n, e133_11, e133_12, e133_15, e133_15n, e133_16, e133_17, e133_18, e133_21, e133_23, e133_26, e133_27, e133_28, e133_28n, e133_29, e133_30, e133_33, e133_34, e133_35, e133_38, e133_38n, e133_39, e133_39n, e133_40, e133_41, e133_42, e133_43, e133_44, e133_47, e133_50, e133_50n, e133_51, e133_54, e133_57, e133_57n, e133_58, e133_59, e133_60, e133_63, e133_66, e133_67, e133_70, e133_71, e133_73, e133_76, e133_76n, e133_77, e133_80, e133_81, e133_84, e133_84n, e133_85, e133_88, e133_89, e133_92, e133_92n, e133_93, e133_94, e133_95, e133_98, e133_99, e133_102, e133_103, ↓reduceIte, zth_v, zth_n, zthv_s, zthi_s, zthm_s, true_or, or_true, eq_self, ne_eq, not_false_eq_true, not_true_eq_false, and_self, and_true, true_and, false_and, and_false]
  · have c1 : ¬ nI j < 1 := nI_nlt (b := 1) (by omega) (by omega)
    have c2 : 1 ≤ nI j := Int32.not_lt.mp c1
    have c3 : ¬ nI n ≤ nI p := ni_nle (hg.resolve_left c) (by omega)
    simp only [e133_0, e133_0n, e133_1, e133_2, e133_5, e133_5n, e133_6, e133_7, e133_10, e133_10n, e133_11, e133_12, e133_15, e133_15n, e133_16, e133_17, e133_18, e133_21, e133_23, e133_26, e133_27, e133_28, e133_28n, e133_29, e133_30, e133_33, e133_34, e133_35, e133_38, e133_38n, e133_39, e133_39n, e133_40, e133_41, e133_42, e133_43, e133_44, e133_47, e133_50, e133_50n, e133_51, e133_54, e133_57, e133_57n, e133_58, e133_59, e133_60, e133_63, e133_66, e133_67, e133_70, e133_71, e133_73, e133_76, e133_76n, e133_77, e133_80, e133_81, e133_84, e133_84n, e133_85, e133_88, e133_89, e133_92, e133_92n, e133_93, e133_94, e133_95, e133_98, e133_99, e133_102, e133_103, ↓reduceIte, zth_v, zth_n, zthv_s, zthi_s, zthm_s, true_or, or_true, eq_self, ne_eq, not_false_eq_true, not_true_eq_false, and_self, and_true, true_and, false_and, and_false, foMod_0, foMod_1, foMod_2, foMod_3, foMod_4, foMod_5, foMod_6, foMod_7, foMod_8, foMod_9, foMod_10, foMod_11, foMod_12, foMod_13, foMod_14, foMod_15, foMod_16, foMod_17, foMod_18, foMod_19, foMod_20, foMod_21, foMod_22, foMod_23, foMod_24, foMod_25, foMod_26, foMod_27, foMod_28, foMod_29, foMod_30, foMod_31, foMod_32, foMod_33, foMod_34, foMod_35, foMod_36, foMod_37, foMod_38, poMod_0, poMod_1, poMod_2, poMod_3, poMod_4, poMod_5, poMod_12, poMod_13, poMod_14, poMod_15, poMod_20, poMod_21, poMod_22, poMod_23, poMod_28, poMod_29, poMod_30, poMod_38, coMod, o44, hz44, x6, x9, c1, c2, c3, i10, a1, Nat.reduceEqDiff]
    rw [e133_72]
    simp only [e133_0, e133_0n, e133_1, e133_2, e133_5, e133_5n, e133_6, e133_7, e133_10, e133_10n, e133_11, e133_12, e133_15, e133_15n, e133_16, e133_17, e133_18, e133_21, e133_23, e133_26, e133_27, e133_28, e133_28n, e133_29, e133_30, e133_33, e133_34, e133_35, e133_38, e133_38n, e133_39, e133_39n, e133_40, e133_41, e133_42, e133_43, e133_44, e133_47, e133_50, e133_50n, e133_51, e133_54, e133_57, e133_57n, e133_58, e133_59, e133_60, e133_63, e133_66, e133_67, e133_70, e133_71, e133_73, e133_76, e133_76n, e133_77, e133_80, e133_81, e133_84, e133_84n, e133_85, e133_88, e133_89, e133_92, e133_92n, e133_93, e133_94, e133_95, e133_98, e133_99, e133_102, e133_103, ↓reduceIte, zth_v, zth_n, zthv_s, zthi_s, zthm_s, true_or, or_true, eq_self, ne_eq, not_false_eq_true, not_true_eq_false, and_self, and_true, true_and, false_and, and_false]
theorem m_riders_loop (hn : n ≤ 60) (hb : b + n ≤ 240) : ∀ k j M x A p r, j + k = 5 → p ≤ n → zMdl M x A → x 6 = nI p → x 9 = nI j → zRr A r j → (∀ q, q < n → A 64 (b + q) = g q) →
    match zpRs g n k j p r with
    | (true, p', j', r') => if p' = n then (∃ M' y B, ev 133 72 [some (.ref 44), some (.int (nI b)), some (.int (nI n)), some (.int 1)] [] M = some (some (.int 1), M') ∧ zRdA M M' x y A B ∧ y 6 = nI p' ∧ y 9 = nI j' ∧ zRr B r' j') else (∃ M' y B, ev 133 72 [some (.ref 44), some (.int (nI b)), some (.int (nI n)), some (.int 1)] [] M = some (some (.int 0), M') ∧ zRdA M M' x y A B ∧ y 6 = nI p')
    | (false, p', _, _) => ∃ M' y B, ev 133 72 [some (.ref 44), some (.int (nI b)), some (.int (nI n)), some (.int 1)] [] M = some (some (.int 0), M') ∧ zRdA M M' x y A B ∧ y 6 = nI p' := by
  intro k
  have stop : ∀ {M x A p j}, zMdl M x A → x 6 = nI p → x 9 = nI j → 1 ≤ j → j ≤ 5 → p = n → ev 133 72 [some (.ref 44), some (.int (nI b)), some (.int (nI n)), some (.int 1)] [] M = some (some (.int 1), M) := by
    intro M x A p j h x6 x9 j1 j5 hp
    have o44 := h.1
    have c1 : ¬ nI j < 1 := nI_nlt (b := 1) (by omega) (by omega)
    have c2 : 1 ≤ nI j := Int32.not_lt.mp c1
    have c3 : nI n ≤ nI p := ni_ge (by omega) (by omega)
    simp only [e133_0, e133_0n, e133_1, e133_2, e133_5, e133_5n, e133_6, e133_7, e133_10, e133_10n, e133_11, e133_12, e133_15, e133_15n, e133_16, e133_17, e133_18, e133_21, e133_23, e133_26, e133_27, e133_28, e133_28n, e133_29, e133_30, e133_33, e133_34, e133_35, e133_38, e133_38n, e133_39, e133_39n, e133_40, e133_41, e133_42, e133_43, e133_44, e133_47, e133_50, e133_50n, e133_51, e133_54, e133_57, e133_57n, e133_58, e133_59, e133_60, e133_63, e133_66, e133_67, e133_70, e133_71, e133_72, e133_73, e133_76, e133_76n, e133_77, e133_80, e133_81, e133_84, e133_84n, e133_85, e133_88, e133_89, e133_92, e133_92n, e133_93, e133_94, e133_95, e133_98, e133_99, e133_102, e133_103, ↓reduceIte, zth_v, zth_n, zthv_s, zthi_s, zthm_s, true_or, or_true, eq_self, ne_eq, not_false_eq_true, not_true_eq_false, and_self, and_true, true_and, false_and, and_false, foMod_0, foMod_1, foMod_2, foMod_3, foMod_4, foMod_5, foMod_6, foMod_7, foMod_8, foMod_9, foMod_10, foMod_11, foMod_12, foMod_13, foMod_14, foMod_15, foMod_16, foMod_17, foMod_18, foMod_19, foMod_20, foMod_21, foMod_22, foMod_23, foMod_24, foMod_25, foMod_26, foMod_27, foMod_28, foMod_29, foMod_30, foMod_31, foMod_32, foMod_33, foMod_34, foMod_35, foMod_36, foMod_37, foMod_38, poMod_0, poMod_1, poMod_2, poMod_3, poMod_4, poMod_5, poMod_12, poMod_13, poMod_14, poMod_15, poMod_20, poMod_21, poMod_22, poMod_23, poMod_28, poMod_29, poMod_30, poMod_38, coMod, o44, x6, x9, c1, c2, c3, i10, Nat.reduceEqDiff]
  induction k with
  | zero =>
    intro j M x A p r hj hp h x6 x9 hr hs
    obtain rfl : j = 5 := by omega
    by_cases c : p = n
    · rw [zpRs]
      dsimp only
      rw [if_pos c]
      exact ⟨M, x, A, stop h x6 x9 (by omega) (by omega) c, ⟨h, fun _ _ _ => rfl, fun _ _ _ _ => rfl, zFr.rf⟩, x6, x9, hr⟩
    · rw [zpRs]
      dsimp only
      rw [if_neg c]
      exact m_riders_no h x6 x9 (by omega) (by omega) hb hs (Or.inr (by omega)) (Or.inl rfl)
  | succ k ih =>
    intro j M x A p r hj hp h x6 x9 hr hs
    have o44 := h.1
    have hz44 : zoc (mget M 44) = some 8 := by rw [h.1]; exact coMod
    rw [zpRs]
    by_cases q : j = 0 ∨ znx g n p = 59
    · rw [if_pos q]
      have hg : j < 1 ∨ p < n := by
        rcases q with q | q
        · left; omega
        · right
          by_cases z : p < n
          · exact z
          · unfold znx at q
            rw [if_neg z] at q
            exact absurd q (by decide)
      have E := m_readsRider h x6 x9 (by omega) (by omega) hb hs
      have ent : ∀ {e : Option (Option Value × zMem)} {M1 : zMem} {v : Int32}, ev 132 0 [some (.ref 44), some (.int (nI b)), some (.int (nI n)), none, none, none] [] M = some (some (.int v), M1) → ev 133 72 [some (.ref 44), some (.int (nI b)), some (.int (nI n)), some (.int v)] [] M1 = e → ev 133 72 [some (.ref 44), some (.int (nI b)), some (.int (nI n)), some (.int 1)] [] M = e := fun he hf => by
        rw [← hf, e133_72]
        by_cases c : j < 1
        · have c1 : nI j < 1 := nI_lt (b := 1) c (by omega)
          have c2 : ¬ 1 ≤ nI j := Int32.not_le.mpr c1
          simp only [e133_0, e133_0n, e133_1, e133_2, e133_5, e133_5n, e133_6, e133_7, e133_10, e133_10n, e133_11, e133_12, e133_15, e133_15n, e133_16, e133_17, e133_18, e133_21, e133_23, e133_26, e133_27, e133_28, e133_28n, e133_29, e133_30, e133_33, e133_34, e133_35, e133_38, e133_38n, e133_39, e133_39n, e133_40, e133_41, e133_42, e133_43, e133_44, e133_47, e133_50, e133_50n, e133_51, e133_54, e133_57, e133_57n, e133_58, e133_59, e133_60, e133_63, e133_66, e133_67, e133_70, e133_71, e133_73, e133_76, e133_76n, e133_77, e133_80, e133_81, e133_84, e133_84n, e133_85, e133_88, e133_89, e133_92, e133_92n, e133_93, e133_94, e133_95, e133_98, e133_99, e133_102, e133_103, ↓reduceIte, zth_v, zth_n, zthv_s, zthi_s, zthm_s, true_or, or_true, eq_self, ne_eq, not_false_eq_true, not_true_eq_false, and_self, and_true, true_and, false_and, and_false, foMod_0, foMod_1, foMod_2, foMod_3, foMod_4, foMod_5, foMod_6, foMod_7, foMod_8, foMod_9, foMod_10, foMod_11, foMod_12, foMod_13, foMod_14, foMod_15, foMod_16, foMod_17, foMod_18, foMod_19, foMod_20, foMod_21, foMod_22, foMod_23, foMod_24, foMod_25, foMod_26, foMod_27, foMod_28, foMod_29, foMod_30, foMod_31, foMod_32, foMod_33, foMod_34, foMod_35, foMod_36, foMod_37, foMod_38, poMod_0, poMod_1, poMod_2, poMod_3, poMod_4, poMod_5, poMod_12, poMod_13, poMod_14, poMod_15, poMod_20, poMod_21, poMod_22, poMod_23, poMod_28, poMod_29, poMod_30, poMod_38, coMod, o44, hz44, x9, c1, c2, i10, he, Nat.reduceEqDiff]
        · have c1 : ¬ nI j < 1 := nI_nlt (b := 1) (by omega) (by omega)
          have c2 : 1 ≤ nI j := Int32.not_lt.mp c1
          have c3 : ¬ nI n ≤ nI p := ni_nle (hg.resolve_left c) (by omega)
          simp only [e133_0, e133_0n, e133_1, e133_2, e133_5, e133_5n, e133_6, e133_7, e133_10, e133_10n, e133_11, e133_12, e133_15, e133_15n, e133_16, e133_17, e133_18, e133_21, e133_23, e133_26, e133_27, e133_28, e133_28n, e133_29, e133_30, e133_33, e133_34, e133_35, e133_38, e133_38n, e133_39, e133_39n, e133_40, e133_41, e133_42, e133_43, e133_44, e133_47, e133_50, e133_50n, e133_51, e133_54, e133_57, e133_57n, e133_58, e133_59, e133_60, e133_63, e133_66, e133_67, e133_70, e133_71, e133_73, e133_76, e133_76n, e133_77, e133_80, e133_81, e133_84, e133_84n, e133_85, e133_88, e133_89, e133_92, e133_92n, e133_93, e133_94, e133_95, e133_98, e133_99, e133_102, e133_103, ↓reduceIte, zth_v, zth_n, zthv_s, zthi_s, zthm_s, true_or, or_true, eq_self, ne_eq, not_false_eq_true, not_true_eq_false, and_self, and_true, true_and, false_and, and_false, foMod_0, foMod_1, foMod_2, foMod_3, foMod_4, foMod_5, foMod_6, foMod_7, foMod_8, foMod_9, foMod_10, foMod_11, foMod_12, foMod_13, foMod_14, foMod_15, foMod_16, foMod_17, foMod_18, foMod_19, foMod_20, foMod_21, foMod_22, foMod_23, foMod_24, foMod_25, foMod_26, foMod_27, foMod_28, foMod_29, foMod_30, foMod_31, foMod_32, foMod_33, foMod_34, foMod_35, foMod_36, foMod_37, foMod_38, poMod_0, poMod_1, poMod_2, poMod_3, poMod_4, poMod_5, poMod_12, poMod_13, poMod_14, poMod_15, poMod_20, poMod_21, poMod_22, poMod_23, poMod_28, poMod_29, poMod_30, poMod_38, coMod, o44, hz44, x6, x9, c1, c2, c3, i10, he, Nat.reduceEqDiff]
      have out : ∀ {M1 : zMem}, ev 133 72 [some (.ref 44), some (.int (nI b)), some (.int (nI n)), some (.int 0)] [] M1 = some (some (.int 0), M1) := by
        intro M1
        rw [e133_72]
        simp only [e133_0, e133_0n, e133_1, e133_2, e133_5, e133_5n, e133_6, e133_7, e133_10, e133_10n, e133_11, e133_12, e133_15, e133_15n, e133_16, e133_17, e133_18, e133_21, e133_23, e133_26, e133_27, e133_28, e133_28n, e133_29, e133_30, e133_33, e133_34, e133_35, e133_38, e133_38n, e133_39, e133_39n, e133_40, e133_41, e133_42, e133_43, e133_44, e133_47, e133_50, e133_50n, e133_51, e133_54, e133_57, e133_57n, e133_58, e133_59, e133_60, e133_63, e133_66, e133_67, e133_70, e133_71, e133_73, e133_76, e133_76n, e133_77, e133_80, e133_81, e133_84, e133_84n, e133_85, e133_88, e133_89, e133_92, e133_92n, e133_93, e133_94, e133_95, e133_98, e133_99, e133_102, e133_103, ↓reduceIte, zth_v, zth_n, zthv_s, zthi_s, zthm_s, true_or, or_true, eq_self, ne_eq, not_false_eq_true, not_true_eq_false, and_self, and_true, true_and, false_and, and_false]
      revert E
      match hL : zpR g n p with
      | (p', none) =>
        rintro ⟨M', y, B, a1, a2, a3⟩
        exact ⟨M', y, B, ent a1 out, a2, a3⟩
      | (p', some (kd, u, v)) =>
        rintro ⟨M', y, B, a1, a2, a3, a4, a5, a6, a7⟩
        have i1 := ih (j + 1) M' y B p' (va_up r j (kd, u, v, 0, 0, 0)) (by omega) (zpR_le hL) a2.1 a3 a4 (fun i hi => by
          rw [a5, a6, a7]
          by_cases e : i = j
          · subst e; rw [pk_us, pk_us, pk_us, va_up_self]; exact ⟨rfl, rfl, rfl⟩
          · rw [pk_un e, pk_un e, pk_un e, va_up_ne _ _ e]; exact hr i (by omega)) (fun q hq => by rw [a2.2.2.1 64 (by omega) (by omega) (by omega)]; exact hs q hq)
        have ad : ∀ {M2 : zMem} {y2 : Nat → Int32} {B2 : Nat → Nat → Int32}, zRdA M' M2 y y2 B B2 → zRdA M M2 x y2 A B2 := fun z => ⟨z.1, fun i h6 h9 => (z.2.1 i h6 h9).trans (a2.2.1 i h6 h9), fun a c2 c3 c4 => (z.2.2.1 a c2 c3 c4).trans (a2.2.2.1 a c2 c3 c4), zFr.tr a2.2.2.2 z.2.2.2⟩
        dsimp only
        revert i1
        match zpRs g n k (j + 1) p' (va_up r j (kd, u, v, 0, 0, 0)) with
        | (true, p2, j2, r2) =>
          dsimp only
          by_cases c : p2 = n
          · rw [if_pos c, if_pos c]
            rintro ⟨M2, y2, B2, b1, b2, b3⟩
            exact ⟨M2, y2, B2, ent a1 b1, ad b2, b3⟩
          · rw [if_neg c, if_neg c]
            rintro ⟨M2, y2, B2, b1, b2, b3⟩
            exact ⟨M2, y2, B2, ent a1 b1, ad b2, b3⟩
        | (false, p2, _, _) =>
          rintro ⟨M2, y2, B2, b1, b2, b3⟩
          exact ⟨M2, y2, B2, ent a1 b1, ad b2, b3⟩
    · rw [if_neg q]
      dsimp only
      have q1 : ¬ j = 0 := fun z => q (Or.inl z)
      have q2 : ¬ znx g n p = 59 := fun z => q (Or.inr z)
      by_cases c : p = n
      · rw [if_pos c]
        exact ⟨M, x, A, stop h x6 x9 (by omega) (by omega) c, ⟨h, fun _ _ _ => rfl, fun _ _ _ _ => rfl, zFr.rf⟩, x6, x9, hr⟩
      · rw [if_neg c]
        refine m_riders_no h x6 x9 (by omega) (by omega) hb hs (Or.inr (by omega)) (Or.inr ⟨p, ?_, rfl⟩)
        unfold zpR
        rw [if_neg q2]
abbrev zRdB (M M' : zMem) (x y : Nat → Int32) (A B : Nat → Nat → Int32) : Prop := zMdl M' y B ∧ (∀ i, i ≠ 6 → i ≠ 7 → i ≠ 8 → i ≠ 9 → y i = x i) ∧ (∀ a, a ≠ 51 → a ≠ 52 → a ≠ 53 → a ≠ 54 → B a = A a) ∧ zFr M M' 44 65
theorem m_readsNursery {M : zMem} {x : Nat → Int32} {A : Nat → Nat → Int32} (h : zMdl M x A) (hn : n ≤ 60) (hb : b + n ≤ 240) (hs : ∀ q, q < n → A 64 (b + q) = g q) (F : Nat → Int32) (r : Nat → zRD) :
    match zpF g n F r with
    | (p', some (c, nl, F', nr, r')) => ∃ M' y B, ev 133 0 [some (.ref 44), some (.int (nI b)), some (.int (nI n)), none] [] M = some (some (.int 1), M') ∧ zRdB M M' x y A B ∧ y 7 = c ∧ y 8 = nI nl ∧ y 9 = nI nr ∧ (∀ i, i < nl → B 51 i = F' i) ∧ zRr B r' nr
    | (p', none) => ∃ M' y B, ev 133 0 [some (.ref 44), some (.int (nI b)), some (.int (nI n)), none] [] M = some (some (.int 0), M') ∧ zRdB M M' x y A B ∧ y 6 = nI p' := by
  have o44 := h.1
  have h0 := h.setX (upd (upd (upd x 6 0) 8 0) 9 0)
  have c0 := m_codeAt h0 (p := 0) rfl (by omega) hb hs
  have hz0 : zoc (mget (mset M 44 (oM (upd (upd (upd x 6 0) 8 0) 9 0))) 44) = some 8 := by rw [h0.1]; exact coMod
  have st0 : ev 133 0 [some (.ref 44), some (.int (nI b)), some (.int (nI n)), none] [] M = ev 133 15 [some (.ref 44), some (.int (nI b)), some (.int (nI n)), none] [] (mset M 44 (oM (upd (upd (upd x 6 0) 8 0) 9 0))) := by
    simp only [e133_0, e133_0n, e133_1, e133_2, e133_5, e133_5n, e133_6, e133_7, e133_10, e133_10n, e133_11, e133_12, e133_16, e133_17, e133_18, e133_21, e133_23, e133_26, e133_27, e133_28, e133_28n, e133_29, e133_30, e133_33, e133_34, e133_35, e133_38, e133_38n, e133_39, e133_39n, e133_40, e133_41, e133_42, e133_43, e133_44, e133_47, e133_50, e133_50n, e133_51, e133_54, e133_57, e133_57n, e133_58, e133_59, e133_60, e133_63, e133_66, e133_67, e133_70, e133_71, e133_72, e133_73, e133_76, e133_76n, e133_77, e133_80, e133_81, e133_84, e133_84n, e133_85, e133_88, e133_89, e133_92, e133_92n, e133_93, e133_94, e133_95, e133_98, e133_99, e133_102, e133_103, ↓reduceIte, zth_v, zth_n, zthv_s, zthi_s, zthm_s, true_or, or_true, eq_self, ne_eq, not_false_eq_true, not_true_eq_false, and_self, and_true, true_and, false_and, and_false, foMod_0, foMod_1, foMod_2, foMod_3, foMod_4, foMod_5, foMod_6, foMod_7, foMod_8, foMod_9, foMod_10, foMod_11, foMod_12, foMod_13, foMod_14, foMod_15, foMod_16, foMod_17, foMod_18, foMod_19, foMod_20, foMod_21, foMod_22, foMod_23, foMod_24, foMod_25, foMod_26, foMod_27, foMod_28, foMod_29, foMod_30, foMod_31, foMod_32, foMod_33, foMod_34, foMod_35, foMod_36, foMod_37, foMod_38, poMod_0, poMod_1, poMod_2, poMod_3, poMod_4, poMod_5, poMod_12, poMod_13, poMod_14, poMod_15, poMod_20, poMod_21, poMod_22, poMod_23, poMod_28, poMod_29, poMod_30, poMod_38, coMod, o44, mget_self, mset_mset, Nat.reduceEqDiff]
    rfl
  have o0 := h0.1
  unfold zpF
  by_cases q1 : znx g n 0 = 114
  · rw [if_pos q1]
    rw [q1] at c0
    have h1 := h.setX (upd (upd (upd (upd x 6 0) 8 0) 9 0) 6 (nI 1))
    have f1 := m_figure h1 (p := 1) rfl (by omega) hb hs (bf := 0) (lo := 1) (by decide) (Or.inr rfl)
    have hz1 : zoc (mget (mset M 44 (oM (upd (upd (upd (upd x 6 0) 8 0) 9 0) 6 (nI 1)))) 44) = some 8 := by rw [h1.1]; exact coMod
    have st1 : ev 133 0 [some (.ref 44), some (.int (nI b)), some (.int (nI n)), none] [] M = ev 133 38 [some (.ref 44), some (.int (nI b)), some (.int (nI n)), none] [] (mset M 44 (oM (upd (upd (upd (upd x 6 0) 8 0) 9 0) 6 (nI 1)))) := by
      rw [st0]
      simp only [e133_0, e133_0n, e133_1, e133_2, e133_5, e133_5n, e133_6, e133_7, e133_10, e133_10n, e133_11, e133_12, e133_15, e133_15n, e133_16, e133_17, e133_18, e133_21, e133_23, e133_26, e133_27, e133_28, e133_28n, e133_29, e133_30, e133_33, e133_34, e133_35, e133_39, e133_39n, e133_40, e133_41, e133_42, e133_43, e133_44, e133_47, e133_50, e133_50n, e133_51, e133_54, e133_57, e133_57n, e133_58, e133_59, e133_60, e133_63, e133_66, e133_67, e133_70, e133_71, e133_72, e133_73, e133_76, e133_76n, e133_77, e133_80, e133_81, e133_84, e133_84n, e133_85, e133_88, e133_89, e133_92, e133_92n, e133_93, e133_94, e133_95, e133_98, e133_99, e133_102, e133_103, ↓reduceIte, zth_v, zth_n, zthv_s, zthi_s, zthm_s, true_or, or_true, eq_self, ne_eq, not_false_eq_true, not_true_eq_false, and_self, and_true, true_and, false_and, and_false, foMod_0, foMod_1, foMod_2, foMod_3, foMod_4, foMod_5, foMod_6, foMod_7, foMod_8, foMod_9, foMod_10, foMod_11, foMod_12, foMod_13, foMod_14, foMod_15, foMod_16, foMod_17, foMod_18, foMod_19, foMod_20, foMod_21, foMod_22, foMod_23, foMod_24, foMod_25, foMod_26, foMod_27, foMod_28, foMod_29, foMod_30, foMod_31, foMod_32, foMod_33, foMod_34, foMod_35, foMod_36, foMod_37, foMod_38, poMod_0, poMod_1, poMod_2, poMod_3, poMod_4, poMod_5, poMod_12, poMod_13, poMod_14, poMod_15, poMod_20, poMod_21, poMod_22, poMod_23, poMod_28, poMod_29, poMod_30, poMod_38, coMod, o0, hz0, c0, mset_mset, Nat.reduceEqDiff]
      rfl
    revert f1
    match hd : zdig g n 1 1 with
    | none =>
      intro f1
      simp only [mset_mset] at f1
      have h2 := h.setX (upd (upd (upd (upd (upd x 6 0) 8 0) 9 0) 6 (nI 1)) 6 (nI 1))
      have o2 := h2.1
      have h3 := h.setX (upd (upd (upd (upd (upd (upd x 6 0) 8 0) 9 0) 6 (nI 1)) 6 (nI 1)) 7 (-9))
      have o3 := h3.1
      refine ⟨_, _, _, ?_, ⟨h3, fun i i6 i7 i8 i9 => by rw [pk_un i7, pk_un i6, pk_un i6, pk_un i9, pk_un i8, pk_un i6], fun _ _ _ _ _ => rfl, zFr.rf.set (by omega) (by omega)⟩, rfl⟩
      have em : mset M 44 (oM (upd (upd (upd (upd (upd (upd x 6 0) 8 0) 9 0) 6 (nI 1)) 6 (nI 1)) 7 (-9))) = mset M 44 (oMod (x 0) (x 1) (x 2) (x 3) (x 4) (x 5) (nI 1) (-9) 0 0 (x 10) (x 11) (x 12) (x 13) (x 14) (x 15) (x 16) (x 17)) := rfl
      have e2 : mset M 44 (oM (upd (upd (upd (upd (upd x 6 0) 8 0) 9 0) 6 (nI 1)) 6 (nI 1))) = mset M 44 (oMod (x 0) (x 1) (x 2) (x 3) (x 4) (x 5) (nI 1) (x 7) 0 0 (x 10) (x 11) (x 12) (x 13) (x 14) (x 15) (x 16) (x 17)) := rfl
      rw [st1, em]
      rw [e2] at f1
      simp only [e133_0, e133_0n, e133_1, e133_2, e133_5, e133_5n, e133_6, e133_7, e133_10, e133_10n, e133_11, e133_12, e133_15, e133_15n, e133_16, e133_17, e133_18, e133_21, e133_23, e133_26, e133_27, e133_28, e133_28n, e133_29, e133_30, e133_33, e133_34, e133_35, e133_38, e133_38n, e133_39, e133_39n, e133_40, e133_41, e133_42, e133_43, e133_44, e133_47, e133_50, e133_50n, e133_51, e133_54, e133_57, e133_57n, e133_58, e133_59, e133_60, e133_63, e133_66, e133_67, e133_70, e133_71, e133_73, e133_76, e133_76n, e133_77, e133_80, e133_81, e133_84, e133_84n, e133_85, e133_88, e133_89, e133_92, e133_92n, e133_93, e133_94, e133_95, e133_98, e133_99, e133_102, e133_103, ↓reduceIte, zth_v, zth_n, zthv_s, zthi_s, zthm_s, true_or, or_true, eq_self, ne_eq, not_false_eq_true, not_true_eq_false, and_self, and_true, true_and, false_and, and_false, foMod_0, foMod_1, foMod_2, foMod_3, foMod_4, foMod_5, foMod_6, foMod_7, foMod_8, foMod_9, foMod_10, foMod_11, foMod_12, foMod_13, foMod_14, foMod_15, foMod_16, foMod_17, foMod_18, foMod_19, foMod_20, foMod_21, foMod_22, foMod_23, foMod_24, foMod_25, foMod_26, foMod_27, foMod_28, foMod_29, foMod_30, foMod_31, foMod_32, foMod_33, foMod_34, foMod_35, foMod_36, foMod_37, foMod_38, poMod_0, poMod_1, poMod_2, poMod_3, poMod_4, poMod_5, poMod_12, poMod_13, poMod_14, poMod_15, poMod_20, poMod_21, poMod_22, poMod_23, poMod_28, poMod_29, poMod_30, poMod_38, coMod, hz1, coM, f1, mget_self, mset_mset, show ¬ (0 : Int32) ≤ -9 from by decide, show (-9 : Int32) < 0 from by decide, Nat.reduceEqDiff]
      rw [e133_72]
      simp only [e133_0, e133_0n, e133_1, e133_2, e133_5, e133_5n, e133_6, e133_7, e133_10, e133_10n, e133_11, e133_12, e133_15, e133_15n, e133_16, e133_17, e133_18, e133_21, e133_23, e133_26, e133_27, e133_28, e133_28n, e133_29, e133_30, e133_33, e133_34, e133_35, e133_38, e133_38n, e133_39, e133_39n, e133_40, e133_41, e133_42, e133_43, e133_44, e133_47, e133_50, e133_50n, e133_51, e133_54, e133_57, e133_57n, e133_58, e133_59, e133_60, e133_63, e133_66, e133_67, e133_70, e133_71, e133_73, e133_76, e133_76n, e133_77, e133_80, e133_81, e133_84, e133_84n, e133_85, e133_88, e133_89, e133_92, e133_92n, e133_93, e133_94, e133_95, e133_98, e133_99, e133_102, e133_103, ↓reduceIte, zth_v, zth_n, zthv_s, zthi_s, zthm_s, true_or, or_true, eq_self, ne_eq, not_false_eq_true, not_true_eq_false, and_self, and_true, true_and, false_and, and_false]
    | some v =>
      intro f1
      simp only [mset_mset] at f1
      obtain ⟨dx, dx1, rfl, -, hn1⟩ := zdig_of (Or.inr rfl) hd
      have h2 := h.setX (upd (upd (upd (upd (upd x 6 0) 8 0) 9 0) 6 (nI 1)) 6 (nI (1 + 1)))
      have o2 := h2.1
      have h3 := h.setX (upd (upd (upd (upd (upd (upd x 6 0) 8 0) 9 0) 6 (nI 1)) 6 (nI (1 + 1))) 7 (nI dx))
      have o3 := h3.1
      have hz3 : zoc (mget (mset M 44 (oM (upd (upd (upd (upd (upd (upd x 6 0) 8 0) 9 0) 6 (nI 1)) 6 (nI (1 + 1))) 7 (nI dx)))) 44) = some 8 := by rw [h3.1]; exact coMod
      have m1 : ¬ nI dx < 0 := nI_pos (by omega)
      have m2 : 0 ≤ nI dx := Int32.not_lt.mp m1
      have em : mset M 44 (oM (upd (upd (upd (upd (upd (upd x 6 0) 8 0) 9 0) 6 (nI 1)) 6 (nI (1 + 1))) 7 (nI dx))) = mset M 44 (oMod (x 0) (x 1) (x 2) (x 3) (x 4) (x 5) (nI 2) (nI dx) 0 0 (x 10) (x 11) (x 12) (x 13) (x 14) (x 15) (x 16) (x 17)) := rfl
      have e2 : mset M 44 (oM (upd (upd (upd (upd (upd x 6 0) 8 0) 9 0) 6 (nI 1)) 6 (nI (1 + 1)))) = mset M 44 (oMod (x 0) (x 1) (x 2) (x 3) (x 4) (x 5) (nI 2) (x 7) 0 0 (x 10) (x 11) (x 12) (x 13) (x 14) (x 15) (x 16) (x 17)) := rfl
      have st3 : ev 133 38 [some (.ref 44), some (.int (nI b)), some (.int (nI n)), none] [] (mset M 44 (oM (upd (upd (upd (upd x 6 0) 8 0) 9 0) 6 (nI 1)))) = ev 133 57 [some (.ref 44), some (.int (nI b)), some (.int (nI n)), none] [] (mset M 44 (oM (upd (upd (upd (upd (upd (upd x 6 0) 8 0) 9 0) 6 (nI 1)) 6 (nI (1 + 1))) 7 (nI dx)))) := by
        rw [e2] at f1
        rw [em]
        simp only [e133_0, e133_0n, e133_1, e133_2, e133_5, e133_5n, e133_6, e133_7, e133_10, e133_10n, e133_11, e133_12, e133_15, e133_15n, e133_16, e133_17, e133_18, e133_21, e133_23, e133_26, e133_27, e133_28, e133_28n, e133_29, e133_30, e133_33, e133_34, e133_35, e133_38, e133_38n, e133_39, e133_39n, e133_40, e133_41, e133_42, e133_43, e133_44, e133_47, e133_50, e133_50n, e133_51, e133_54, e133_58, e133_59, e133_60, e133_63, e133_66, e133_67, e133_70, e133_71, e133_72, e133_73, e133_76, e133_76n, e133_77, e133_80, e133_81, e133_84, e133_84n, e133_85, e133_88, e133_89, e133_92, e133_92n, e133_93, e133_94, e133_95, e133_98, e133_99, e133_102, e133_103, ↓reduceIte, zth_v, zth_n, zthv_s, zthi_s, zthm_s, true_or, or_true, eq_self, ne_eq, not_false_eq_true, not_true_eq_false, and_self, and_true, true_and, false_and, and_false, foMod_0, foMod_1, foMod_2, foMod_3, foMod_4, foMod_5, foMod_6, foMod_7, foMod_8, foMod_9, foMod_10, foMod_11, foMod_12, foMod_13, foMod_14, foMod_15, foMod_16, foMod_17, foMod_18, foMod_19, foMod_20, foMod_21, foMod_22, foMod_23, foMod_24, foMod_25, foMod_26, foMod_27, foMod_28, foMod_29, foMod_30, foMod_31, foMod_32, foMod_33, foMod_34, foMod_35, foMod_36, foMod_37, foMod_38, poMod_0, poMod_1, poMod_2, poMod_3, poMod_4, poMod_5, poMod_12, poMod_13, poMod_14, poMod_15, poMod_20, poMod_21, poMod_22, poMod_23, poMod_28, poMod_29, poMod_30, poMod_38, coMod, hz1, coM, f1, mget_self, mset_mset, m1, m2, Nat.reduceEqDiff]
      have ex : ∀ i, i ≠ 6 → i ≠ 7 → i ≠ 8 → i ≠ 9 → (upd (upd (upd (upd (upd (upd x 6 0) 8 0) 9 0) 6 (nI 1)) 6 (nI (1 + 1))) 7 (nI dx)) i = x i := fun i i6 i7 i8 i9 => by rw [pk_un i7, pk_un i6, pk_un i6, pk_un i9, pk_un i8, pk_un i6]
      have fr0 : zFr M (mset M 44 (oM (upd (upd (upd (upd (upd (upd x 6 0) 8 0) 9 0) 6 (nI 1)) 6 (nI (1 + 1))) 7 (nI dx)))) 44 65 := zFr.rf.set (by omega) (by omega)
      have c2 := m_codeAt h3 (p := 2) rfl (by omega) hb hs
      have out : ∀ {M1 : zMem}, ev 133 72 [some (.ref 44), some (.int (nI b)), some (.int (nI n)), some (.int 0)] [] M1 = some (some (.int 0), M1) := by
        intro M1
        rw [e133_72]
        simp only [e133_0, e133_0n, e133_1, e133_2, e133_5, e133_5n, e133_6, e133_7, e133_10, e133_10n, e133_11, e133_12, e133_15, e133_15n, e133_16, e133_17, e133_18, e133_21, e133_23, e133_26, e133_27, e133_28, e133_28n, e133_29, e133_30, e133_33, e133_34, e133_35, e133_38, e133_38n, e133_39, e133_39n, e133_40, e133_41, e133_42, e133_43, e133_44, e133_47, e133_50, e133_50n, e133_51, e133_54, e133_57, e133_57n, e133_58, e133_59, e133_60, e133_63, e133_66, e133_67, e133_70, e133_71, e133_73, e133_76, e133_76n, e133_77, e133_80, e133_81, e133_84, e133_84n, e133_85, e133_88, e133_89, e133_92, e133_92n, e133_93, e133_94, e133_95, e133_98, e133_99, e133_102, e133_103, ↓reduceIte, zth_v, zth_n, zthv_s, zthi_s, zthm_s, true_or, or_true, eq_self, ne_eq, not_false_eq_true, not_true_eq_false, and_self, and_true, true_and, false_and, and_false]
      dsimp only
      by_cases q2 : znx g n 2 = 44
      · rw [q2] at c2
        have L := m_lands_loop (g := g) (b := b) hn hb 5 0 _ _ A 2 F none none (by omega) (by omega) h3 rfl rfl (fun i hi => by omega) hs (fun _ => q2)
        have stL : ev 131 0 [some (.ref 44), some (.int (nI b)), some (.int (nI n)), none, none, none] [] (mset M 44 (oM (upd (upd (upd (upd (upd (upd x 6 0) 8 0) 9 0) 6 (nI 1)) 6 (nI (1 + 1))) 7 (nI dx)))) = ev 131 17 [some (.ref 44), some (.int (nI b)), some (.int (nI n)), some (.int 1), none, none] [] (mset M 44 (oM (upd (upd (upd (upd (upd (upd x 6 0) 8 0) 9 0) 6 (nI 1)) 6 (nI (1 + 1))) 7 (nI dx)))) := by
          simp only [e131_0, e131_0n, e131_1, e131_2, e131_3, e131_6, e131_8, e131_11, e131_12, e131_15, e131_16, e131_18, e131_21, e131_21n, e131_22, e131_25, e131_26, e131_29, e131_29n, e131_30, e131_31, e131_32, e131_35, e131_37, e131_40, e131_40n, e131_41, e131_42, e131_45, e131_46, e131_47, e131_50, e131_50n, e131_51, e131_52, e131_53, e131_54, e131_55, e131_58, e131_60, e131_60n, e131_61, e131_62, e131_63, e131_65, e131_67, e131_70, e131_71, e131_74, e131_75, e131_78, e131_80, e131_80n, e131_81, e131_84, e131_84n, e131_85, e131_88, e131_90, e131_92, e131_93, e131_95, e131_96, e131_97, e131_97n, e131_98, e131_99, e131_102, e131_103, e131_104, e131_107, e131_109, e131_112, e131_113, e131_116, e131_117, e131_118, e131_121, e131_122, ↓reduceIte, zth_v, zth_n, zthv_s, zthi_s, zthm_s, true_or, or_true, eq_self, ne_eq, not_false_eq_true, not_true_eq_false, and_self, and_true, true_and, false_and, and_false, hz3, c2, Nat.reduceEqDiff]
        revert L
        match zpLs g n 5 0 2 F with
        | (false, p2, j2, F2) =>
          rintro ⟨M2, y, B, a1, a2, a3, a7, a8, a9⟩
          refine ⟨M2, y, B, ?_, ⟨a2, fun i i6 i7 i8 i9 => (a7 i i6 i8).trans (ex i i6 i7 i8 i9), fun a b1 _ _ _ => a8 a b1, zFr.tr fr0 a9⟩, a3⟩
          rw [← stL] at a1
          rw [st1, st3]
          simp only [e133_0, e133_0n, e133_1, e133_2, e133_5, e133_5n, e133_6, e133_7, e133_10, e133_10n, e133_11, e133_12, e133_15, e133_15n, e133_16, e133_17, e133_18, e133_21, e133_23, e133_26, e133_27, e133_28, e133_28n, e133_29, e133_30, e133_33, e133_34, e133_35, e133_38, e133_38n, e133_39, e133_39n, e133_40, e133_41, e133_42, e133_43, e133_44, e133_47, e133_50, e133_50n, e133_51, e133_54, e133_57, e133_57n, e133_58, e133_59, e133_60, e133_63, e133_66, e133_67, e133_70, e133_71, e133_73, e133_76, e133_76n, e133_77, e133_80, e133_81, e133_84, e133_84n, e133_85, e133_88, e133_89, e133_92, e133_92n, e133_93, e133_94, e133_95, e133_98, e133_99, e133_102, e133_103, ↓reduceIte, zth_v, zth_n, zthv_s, zthi_s, zthm_s, true_or, or_true, eq_self, ne_eq, not_false_eq_true, not_true_eq_false, and_self, and_true, true_and, false_and, and_false, hz3, a1, Nat.reduceEqDiff]
          exact out
        | (true, p2, j2, F2) =>
          rintro ⟨M2, y, B, a1, a2, a3, a4, a5, a6, a7, a8, a9⟩
          have y9 : y 9 = nI 0 := (a7 9 (by omega) (by omega)).trans rfl
          have y7 : y 7 = nI dx := (a7 7 (by omega) (by omega)).trans rfl
          have Rr := m_riders_loop (g := g) (b := b) hn hb 5 0 M2 y B p2 r (by omega) a6 a2 a3 y9 (fun i hi => by omega) (fun q hq => by rw [a8 64 (by omega)]; exact hs q hq)
          have st4 : ev 133 57 [some (.ref 44), some (.int (nI b)), some (.int (nI n)), none] [] (mset M 44 (oM (upd (upd (upd (upd (upd (upd x 6 0) 8 0) 9 0) 6 (nI 1)) 6 (nI (1 + 1))) 7 (nI dx)))) = ev 133 72 [some (.ref 44), some (.int (nI b)), some (.int (nI n)), some (.int 1)] [] M2 := by
            rw [← stL] at a1
            simp only [e133_0, e133_0n, e133_1, e133_2, e133_5, e133_5n, e133_6, e133_7, e133_10, e133_10n, e133_11, e133_12, e133_15, e133_15n, e133_16, e133_17, e133_18, e133_21, e133_23, e133_26, e133_27, e133_28, e133_28n, e133_29, e133_30, e133_33, e133_34, e133_35, e133_38, e133_38n, e133_39, e133_39n, e133_40, e133_41, e133_42, e133_43, e133_44, e133_47, e133_50, e133_50n, e133_51, e133_54, e133_57, e133_57n, e133_58, e133_59, e133_60, e133_63, e133_66, e133_67, e133_70, e133_71, e133_73, e133_76, e133_76n, e133_77, e133_80, e133_81, e133_84, e133_84n, e133_85, e133_88, e133_89, e133_92, e133_92n, e133_93, e133_94, e133_95, e133_98, e133_99, e133_102, e133_103, ↓reduceIte, zth_v, zth_n, zthv_s, zthi_s, zthm_s, true_or, or_true, eq_self, ne_eq, not_false_eq_true, not_true_eq_false, and_self, and_true, true_and, false_and, and_false, hz3, a1, i10, Nat.reduceEqDiff]
          have ad : ∀ {M3 : zMem} {y2 : Nat → Int32} {B2 : Nat → Nat → Int32}, zRdA M2 M3 y y2 B B2 → zRdB M M3 x y2 A B2 := fun z => ⟨z.1, fun i i6 i7 i8 i9 => (z.2.1 i i6 i9).trans ((a7 i i6 i8).trans (ex i i6 i7 i8 i9)), fun a b1 b2 b3 b4 => (z.2.2.1 a b2 b3 b4).trans (a8 a b1), zFr.tr (zFr.tr fr0 a9) z.2.2.2⟩
          dsimp only
          revert Rr
          match zpRs g n 5 0 p2 r with
          | (false, p3, j3, r3) =>
            rintro ⟨M3, y3, B3, b1, b2, b3⟩
            exact ⟨M3, y3, B3, st1.trans (st3.trans (st4.trans b1)), ad b2, b3⟩
          | (true, p3, j3, r3) =>
            dsimp only
            by_cases q3 : p3 = n
            · rw [if_pos q3, if_pos q3]
              rintro ⟨M3, y3, B3, b1, b2, b3, b4, b5⟩
              exact ⟨M3, y3, B3, st1.trans (st3.trans (st4.trans b1)), ad b2, (b2.2.1 7 (by omega) (by omega)).trans y7, (b2.2.1 8 (by omega) (by omega)).trans a4, b4, fun i hi => by rw [b2.2.2.1 51 (by omega) (by omega) (by omega)]; exact a5 i hi, b5⟩
            · rw [if_neg q3, if_neg q3]
              rintro ⟨M3, y3, B3, b1, b2, b3⟩
              exact ⟨M3, y3, B3, st1.trans (st3.trans (st4.trans b1)), ad b2, b3⟩
      · have eL : zpLs g n 5 0 2 F = (false, 2, 0, F) := by
          rw [zpLs, if_pos (Or.inl rfl)]
          unfold zpL
          rw [if_neg q2]
        rw [eL]
        refine ⟨_, _, _, ?_, ⟨h3, ex, fun _ _ _ _ _ => rfl, fr0⟩, rfl⟩
        rw [st1, st3]
        simp only [e133_0, e133_0n, e133_1, e133_2, e133_5, e133_5n, e133_6, e133_7, e133_10, e133_10n, e133_11, e133_12, e133_15, e133_15n, e133_16, e133_17, e133_18, e133_21, e133_23, e133_26, e133_27, e133_28, e133_28n, e133_29, e133_30, e133_33, e133_34, e133_35, e133_38, e133_38n, e133_39, e133_39n, e133_40, e133_41, e133_42, e133_43, e133_44, e133_47, e133_50, e133_50n, e133_51, e133_54, e133_57, e133_57n, e133_58, e133_59, e133_60, e133_63, e133_66, e133_67, e133_70, e133_71, e133_73, e133_76, e133_76n, e133_77, e133_80, e133_81, e133_84, e133_84n, e133_85, e133_88, e133_89, e133_92, e133_92n, e133_93, e133_94, e133_95, e133_98, e133_99, e133_102, e133_103, e131_0, e131_0n, e131_1, e131_2, e131_3, e131_6, e131_8, e131_11, e131_12, e131_15, e131_16, e131_18, e131_21, e131_21n, e131_22, e131_25, e131_26, e131_29, e131_29n, e131_30, e131_31, e131_32, e131_35, e131_37, e131_40, e131_40n, e131_41, e131_42, e131_45, e131_46, e131_47, e131_50, e131_50n, e131_51, e131_52, e131_53, e131_54, e131_55, e131_58, e131_60, e131_60n, e131_61, e131_62, e131_63, e131_65, e131_67, e131_70, e131_71, e131_74, e131_75, e131_78, e131_80, e131_80n, e131_81, e131_84, e131_84n, e131_85, e131_88, e131_90, e131_92, e131_93, e131_95, e131_96, e131_97, e131_97n, e131_98, e131_99, e131_102, e131_103, e131_104, e131_107, e131_109, e131_112, e131_113, e131_116, e131_117, e131_118, e131_121, e131_122, e131_17, ↓reduceIte, zth_v, zth_n, zthv_s, zthi_s, zthm_s, true_or, or_true, eq_self, ne_eq, not_false_eq_true, not_true_eq_false, and_self, and_true, true_and, false_and, and_false, hz3, c2, q2, Nat.reduceEqDiff]
        exact out
  · rw [if_neg q1]
    refine ⟨_, _, _, ?_, ⟨h0, fun i i6 i7 i8 i9 => by rw [pk_un i9, pk_un i8, pk_un i6], fun _ _ _ _ _ => rfl, zFr.rf.set (by omega) (by omega)⟩, rfl⟩
    rw [st0]
    simp only [e133_0, e133_0n, e133_1, e133_2, e133_5, e133_5n, e133_6, e133_7, e133_10, e133_10n, e133_11, e133_12, e133_15, e133_15n, e133_16, e133_17, e133_18, e133_21, e133_23, e133_26, e133_27, e133_28, e133_28n, e133_29, e133_30, e133_33, e133_34, e133_35, e133_38, e133_38n, e133_39, e133_39n, e133_40, e133_41, e133_42, e133_43, e133_44, e133_47, e133_50, e133_50n, e133_51, e133_54, e133_57, e133_57n, e133_58, e133_59, e133_60, e133_63, e133_66, e133_67, e133_70, e133_71, e133_72, e133_73, e133_76, e133_76n, e133_77, e133_80, e133_81, e133_84, e133_84n, e133_85, e133_88, e133_89, e133_92, e133_92n, e133_93, e133_94, e133_95, e133_98, e133_99, e133_102, e133_103, ↓reduceIte, zth_v, zth_n, zthv_s, zthi_s, zthm_s, true_or, or_true, eq_self, ne_eq, not_false_eq_true, not_true_eq_false, and_self, and_true, true_and, false_and, and_false, hz0, c0, q1, Nat.reduceEqDiff]
end RF
