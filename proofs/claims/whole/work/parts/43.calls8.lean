/-! Call by call, eight: comes, waits -/
theorem zcA_or (g : Nat → Bool) : ∀ k m, zcA g k m = -9 ∨ ∃ v, m ≤ v ∧ v < m + k ∧ zcA g k m = nI v := by
  intro k
  induction k with
  | zero => intro m; exact Or.inl rfl
  | succ k ih =>
    intro m
    rw [zcA]
    split
    · exact Or.inr ⟨m, by omega, by omega, rfl⟩
    · rcases ih (m + 1) with e | ⟨v, h1, h2, e⟩
      · exact Or.inl e
      · exact Or.inr ⟨v, by omega, by omega, e⟩
def zLa (r : Nat → zRD) (j : Nat) : Nat := (r j).2.2.1.toNatClampNeg
theorem zT_ok {c : Int32} {nl nr : Nat} {F : Nat → Int32} {r : Nat → zRD} (h : zInN c nl nr F r) : ∀ j, j < nr → (r j).2.2.1 = nI (zLa r j) ∧ zLa r j ≤ 9 := by
  intro j hj
  obtain ⟨-, -, t, u, h1, h2, -, h3, -⟩ := h.2.2 j hj
  have e : zLa r j = t := by unfold zLa; rw [h3, nI_clamp (by omega)]
  rw [e]
  exact ⟨h3, h2⟩
theorem n9v {v : Nat} (h : v ≤ 9) : ¬ nI v = -9 := nI_n9 h
theorem nI_p1 (s : Nat) : nI (s + 1) + (-1) = nI s := zdn_1 (s + 1)
/-- all of the nursery's side that the model's loops read -/
def zMR (x : Nat → Int32) (A : Nat → Nat → Int32) (q nl nr : Nat) (F : Nat → Int32) (r : Nat → zRD) : Prop := x 1 = nI nl ∧ x 2 = nI nr ∧ x 3 = nI q ∧ 1 ≤ q ∧ q ≤ 9 ∧ nl ≤ 5 ∧ nr ≤ 5 ∧ zRlN A nl nr F r ∧ zInN (nI q) nl nr F r
section CH
variable {M : zMem} {x : Nat → Int32} {A : Nat → Nat → Int32} {q nl nr : Nat} {F : Nat → Int32} {r : Nat → zRD}
theorem m_comesTo_loop (h : zMdl M x A) (z : zMR x A q nl nr F r) {j l : Nat} (hj : j < nr) (hl : l < nl) {T : Nat} (hT : T ≤ 9) : ∀ t, t ≤ T → ev 154 11 [some (.ref 44), some (.int (nI j)), some (.int (nI l)), some (.int (zcA (zgo (nI q) F (r j) l) (T - t) (t + 1))), some (.int (nI t))] [] M = some (some (.int (zcA (zgo (nI q) F (r j) l) T 1)), M) := by
  obtain ⟨x1, x2, x3, q1, q2, hl5, hr5, hN, hI⟩ := z
  have o44 := h.1
  have hz44 : zoc (mget M 44) = some 8 := by rw [h.1]; exact coMod
  have o45 := h.2 45 (by omega) (by omega)
  have z45 := zia_in (n := zsz 45) (f := A 45) (j := l) (show l < 5 by omega) (show 5 < 2 ^ 31 by omega)
  rw [hN.1 l hl] at z45
  have pc := m_paceOf h (j := j) (by omega)
  obtain ⟨y46, y47, y48, y49, y50⟩ := hN.2 j hj
  rw [y46, y47] at pc
  have g2 : ¬ nI q = 0 := nI_ne0 (by omega) (by omega)
  intro t
  induction t with
  | zero =>
    intro ht
    have g1 : nI 0 ≤ 0 := by decide
    simp only [e154_0, e154_2, e154_3, e154_3n, e154_4, e154_7, e154_8, e154_9, e154_11, e154_13, e154_16, e154_18, e154_18n, e154_19, e154_20, e154_23, e154_24, e154_24n, e154_25, e154_28, e154_29, e154_29n, e154_30, e154_33, e154_34, e154_35, e154_38, e154_40, e154_43, e154_44, e154_45, e154_48, e154_51, e154_52, ↓reduceIte, zth_v, zth_n, zthv_s, zthi_s, zthm_s, true_or, or_true, eq_self, ne_eq, not_false_eq_true, not_true_eq_false, and_self, and_true, true_and, false_and, and_false, g1, Nat.sub_zero, Nat.zero_add]
  | succ t ih =>
    intro ht
    have ih := ih (by omega)
    have g1 : ¬ nI (t + 1) ≤ 0 := ni_nle (b := t + 1) (a := 0) (by omega) (by omega)
    have hgo : zgo (nI q) F (r j) l (t + 1) = decide (F l ≤ nI (t + 1) * zpace (r j).1 (r j).2.1 / nI q) := by
      unfold zgo
      rw [zquo_q q1 q2]
    rw [show T - t = (T - (t + 1)) + 1 from by omega, zcA, hgo] at ih
    rw [← ih]
    rw [e154_11]
    by_cases c : F l ≤ nI (t + 1) * zpace (r j).1 (r j).2.1 / nI q
    · have c2 : ¬ nI (t + 1) * zpace (r j).1 (r j).2.1 / nI q < F l := Int32.not_lt.mpr c
      simp only [e154_0, e154_2, e154_3, e154_3n, e154_4, e154_7, e154_8, e154_9, e154_13, e154_16, e154_18, e154_18n, e154_19, e154_20, e154_23, e154_24, e154_24n, e154_25, e154_28, e154_29, e154_29n, e154_30, e154_33, e154_34, e154_35, e154_38, e154_40, e154_43, e154_44, e154_45, e154_48, e154_51, e154_52, ↓reduceIte, zth_v, zth_n, zthv_s, zthi_s, zthm_s, true_or, or_true, eq_self, ne_eq, not_false_eq_true, not_true_eq_false, and_self, and_true, true_and, false_and, and_false, foMod_0, foMod_1, foMod_2, foMod_3, foMod_4, foMod_5, foMod_6, foMod_7, foMod_8, foMod_9, foMod_10, foMod_11, foMod_12, foMod_13, foMod_14, foMod_15, foMod_16, foMod_17, foMod_18, foMod_19, foMod_20, foMod_21, foMod_22, foMod_23, foMod_24, foMod_25, foMod_26, foMod_27, foMod_28, foMod_29, foMod_30, foMod_31, foMod_32, foMod_33, foMod_34, foMod_35, foMod_36, foMod_37, foMod_38, poMod_0, poMod_1, poMod_2, poMod_3, poMod_4, poMod_5, poMod_12, poMod_13, poMod_14, poMod_15, poMod_20, poMod_21, poMod_22, poMod_23, poMod_28, poMod_29, poMod_30, poMod_38, coMod, o44, hz44, o45, z45, pc, x3, g1, g2, c, c2, nI_p1, decide_true, Nat.reduceEqDiff]
    · have c2 : nI (t + 1) * zpace (r j).1 (r j).2.1 / nI q < F l := Int32.not_le.mp c
      simp only [e154_0, e154_2, e154_3, e154_3n, e154_4, e154_7, e154_8, e154_9, e154_13, e154_16, e154_18, e154_18n, e154_19, e154_20, e154_23, e154_24, e154_24n, e154_25, e154_28, e154_29, e154_29n, e154_30, e154_33, e154_34, e154_35, e154_38, e154_40, e154_43, e154_44, e154_45, e154_48, e154_51, e154_52, ↓reduceIte, zth_v, zth_n, zthv_s, zthi_s, zthm_s, true_or, or_true, eq_self, ne_eq, not_false_eq_true, not_true_eq_false, and_self, and_true, true_and, false_and, and_false, foMod_0, foMod_1, foMod_2, foMod_3, foMod_4, foMod_5, foMod_6, foMod_7, foMod_8, foMod_9, foMod_10, foMod_11, foMod_12, foMod_13, foMod_14, foMod_15, foMod_16, foMod_17, foMod_18, foMod_19, foMod_20, foMod_21, foMod_22, foMod_23, foMod_24, foMod_25, foMod_26, foMod_27, foMod_28, foMod_29, foMod_30, foMod_31, foMod_32, foMod_33, foMod_34, foMod_35, foMod_36, foMod_37, foMod_38, poMod_0, poMod_1, poMod_2, poMod_3, poMod_4, poMod_5, poMod_12, poMod_13, poMod_14, poMod_15, poMod_20, poMod_21, poMod_22, poMod_23, poMod_28, poMod_29, poMod_30, poMod_38, coMod, o44, hz44, o45, z45, pc, x3, g1, g2, c, c2, nI_p1, decide_false, Nat.reduceEqDiff, Bool.false_eq_true]
theorem m_comesTo (h : zMdl M x A) (z : zMR x A q nl nr F r) {j l : Nat} (hj : j < nr) (hl : l < nl) : ev 154 0 [some (.ref 44), some (.int (nI j)), some (.int (nI l)), none, none] [] M = some (some (.int (zcome (nI q) F (r j) (zLa r j) l)), M) := by
  have hT := zT_ok z.2.2.2.2.2.2.2.2 j hj
  have zz := m_comesTo_loop h z hj hl hT.2 (zLa r j) (Nat.le_refl _)
  obtain ⟨x1, x2, x3, q1, q2, hl5, hr5, hN, hI⟩ := z
  have o44 := h.1
  have o48 := h.2 48 (by omega) (by omega)
  have z48 := zia_in (n := zsz 48) (f := A 48) (j := j) (show j < 5 by omega) (show 5 < 2 ^ 31 by omega)
  rw [(hN.2 j hj).2.2.1, hT.1] at z48
  rw [Nat.sub_self, zcA] at zz
  simp only [e154_0, e154_2, e154_3, e154_3n, e154_4, e154_7, e154_8, e154_9, e154_13, e154_16, e154_18, e154_18n, e154_19, e154_20, e154_23, e154_24, e154_24n, e154_25, e154_28, e154_29, e154_29n, e154_30, e154_33, e154_34, e154_35, e154_38, e154_40, e154_43, e154_44, e154_45, e154_48, e154_51, e154_52, ↓reduceIte, zth_v, zth_n, zthv_s, zthi_s, zthm_s, true_or, or_true, eq_self, ne_eq, not_false_eq_true, not_true_eq_false, and_self, and_true, true_and, false_and, and_false, foMod_0, foMod_1, foMod_2, foMod_3, foMod_4, foMod_5, foMod_6, foMod_7, foMod_8, foMod_9, foMod_10, foMod_11, foMod_12, foMod_13, foMod_14, foMod_15, foMod_16, foMod_17, foMod_18, foMod_19, foMod_20, foMod_21, foMod_22, foMod_23, foMod_24, foMod_25, foMod_26, foMod_27, foMod_28, foMod_29, foMod_30, foMod_31, foMod_32, foMod_33, foMod_34, foMod_35, foMod_36, foMod_37, foMod_38, poMod_0, poMod_1, poMod_2, poMod_3, poMod_4, poMod_5, poMod_12, poMod_13, poMod_14, poMod_15, poMod_20, poMod_21, poMod_22, poMod_23, poMod_28, poMod_29, poMod_30, poMod_38, coMod, o44, o48, z48, Nat.reduceEqDiff]
  exact zz
theorem m_waits_loop (h : zMdl M x A) (z : zMR x A q nl nr F r) {l : Nat} (hl : l < nl) {y : Option Value} : ∀ k j acc d, j + k = nr → (acc = -9 ∨ ∃ a, a ≤ 9 ∧ acc = nI a) → ∃ d', ev 157 23 [some (.ref 44), some (.int (nI l)), y, some (.int acc), some (.int (nI j)), d] [] M = ev 157 74 [some (.ref 44), some (.int (nI l)), y, some (.int (if acc = -9 then -9 else zlat (fun j => zcome (nI q) F (r j) (zLa r j) l) k j acc)), some (.int (nI nr)), d'] [] M := by
  have o44 := h.1
  have hz44 : zoc (mget M 44) = some 8 := by rw [h.1]; exact coMod
  have ct := fun j (hj : j < nr) => m_comesTo h z hj hl
  have zz := z
  obtain ⟨x1, x2, x3, q1, q2, hl5, hr5, hN, hI⟩ := z
  have m9 : (-9 : Int32) < 0 := by decide
  have m9' : ¬ (0 : Int32) ≤ -9 := by decide
  intro k
  induction k with
  | zero =>
    intro j acc d hj ha
    obtain rfl : j = nr := by omega
    have g1 : nI j ≤ nI j := ni_ge (Nat.le_refl _) (by omega)
    refine ⟨d, ?_⟩
    simp only [e157_0, e157_0n, e157_1, e157_2, e157_5, e157_8, e157_8n, e157_9, e157_10, e157_13, e157_16, e157_17, e157_18, e157_19, e157_20, e157_21, e157_23, e157_25, e157_25n, e157_26, e157_29, e157_32, e157_32n, e157_33, e157_35, e157_36, e157_39, e157_41, e157_42, e157_45, e157_47, e157_50, e157_52, e157_55, e157_57, e157_58, e157_61, e157_63, e157_66, e157_67, e157_68, e157_71, e157_75, e157_78, e157_80, e157_83, e157_84, e157_84n, e157_85, e157_86, e157_87, e157_90, e157_91, ↓reduceIte, zth_v, zth_n, zthv_s, zthi_s, zthm_s, true_or, or_true, eq_self, ne_eq, not_false_eq_true, not_true_eq_false, and_self, and_true, true_and, false_and, and_false, foMod_0, foMod_1, foMod_2, foMod_3, foMod_4, foMod_5, foMod_6, foMod_7, foMod_8, foMod_9, foMod_10, foMod_11, foMod_12, foMod_13, foMod_14, foMod_15, foMod_16, foMod_17, foMod_18, foMod_19, foMod_20, foMod_21, foMod_22, foMod_23, foMod_24, foMod_25, foMod_26, foMod_27, foMod_28, foMod_29, foMod_30, foMod_31, foMod_32, foMod_33, foMod_34, foMod_35, foMod_36, foMod_37, foMod_38, poMod_0, poMod_1, poMod_2, poMod_3, poMod_4, poMod_5, poMod_12, poMod_13, poMod_14, poMod_15, poMod_20, poMod_21, poMod_22, poMod_23, poMod_28, poMod_29, poMod_30, poMod_38, coMod, o44, x2, g1, zlat, Nat.reduceEqDiff]
    rcases ha with rfl | ⟨a, h1, rfl⟩
    · rfl
    · rw [if_neg (n9v h1)]
  | succ k ih =>
    intro j acc d hj ha
    have g1 : ¬ nI nr ≤ nI j := ni_nle (by omega) (by omega)
    have ct := ct j (by omega)
    have hcm : zcome (nI q) F (r j) (zLa r j) l = -9 ∨ ∃ v, v ≤ 9 ∧ zcome (nI q) F (r j) (zLa r j) l = nI v := by
      have hT := zT_ok hI j (by omega)
      rcases zcA_or (zgo (nI q) F (r j) l) (zLa r j) 1 with e | ⟨v, h1, h2, e⟩
      · exact Or.inl e
      · exact Or.inr ⟨v, by omega, e⟩
    rw [zlat]
    rcases ha with rfl | ⟨a, h1, rfl⟩
    · obtain ⟨d', i1⟩ := ih (j + 1) (-9) (some (.int (zcome (nI q) F (r j) (zLa r j) l))) (by omega) (Or.inl rfl)
      refine ⟨d', ?_⟩
      simp only [if_true] at i1 ⊢
      rw [← i1, e157_23]
      simp only [e157_0, e157_0n, e157_1, e157_2, e157_5, e157_8, e157_8n, e157_9, e157_10, e157_13, e157_16, e157_17, e157_18, e157_19, e157_20, e157_21, e157_25, e157_25n, e157_26, e157_29, e157_32, e157_32n, e157_33, e157_35, e157_36, e157_39, e157_41, e157_42, e157_45, e157_47, e157_50, e157_52, e157_55, e157_57, e157_58, e157_61, e157_63, e157_66, e157_67, e157_68, e157_71, e157_75, e157_78, e157_80, e157_83, e157_84, e157_84n, e157_85, e157_86, e157_87, e157_90, e157_91, ↓reduceIte, zth_v, zth_n, zthv_s, zthi_s, zthm_s, true_or, or_true, eq_self, ne_eq, not_false_eq_true, not_true_eq_false, and_self, and_true, true_and, false_and, and_false, foMod_0, foMod_1, foMod_2, foMod_3, foMod_4, foMod_5, foMod_6, foMod_7, foMod_8, foMod_9, foMod_10, foMod_11, foMod_12, foMod_13, foMod_14, foMod_15, foMod_16, foMod_17, foMod_18, foMod_19, foMod_20, foMod_21, foMod_22, foMod_23, foMod_24, foMod_25, foMod_26, foMod_27, foMod_28, foMod_29, foMod_30, foMod_31, foMod_32, foMod_33, foMod_34, foMod_35, foMod_36, foMod_37, foMod_38, poMod_0, poMod_1, poMod_2, poMod_3, poMod_4, poMod_5, poMod_12, poMod_13, poMod_14, poMod_15, poMod_20, poMod_21, poMod_22, poMod_23, poMod_28, poMod_29, poMod_30, poMod_38, coMod, o44, hz44, x2, g1, ct, m9, nI_1, Nat.reduceEqDiff]
    · have a9 := n9v h1
      have a0 : ¬ nI a < 0 := nI_pos (by omega)
      rw [if_neg a9]
      rcases hcm with e | ⟨v, v9, e⟩
      · rw [e] at ct
        simp only [e, if_true]
        obtain ⟨d', i1⟩ := ih (j + 1) (-9) (some (.int (-9))) (by omega) (Or.inl rfl)
        refine ⟨d', ?_⟩
        simp only [if_true] at i1
        rw [← i1, e157_23]
        simp only [e157_0, e157_0n, e157_1, e157_2, e157_5, e157_8, e157_8n, e157_9, e157_10, e157_13, e157_16, e157_17, e157_18, e157_19, e157_20, e157_21, e157_25, e157_25n, e157_26, e157_29, e157_32, e157_32n, e157_33, e157_35, e157_36, e157_39, e157_41, e157_42, e157_45, e157_47, e157_50, e157_52, e157_55, e157_57, e157_58, e157_61, e157_63, e157_66, e157_67, e157_68, e157_71, e157_75, e157_78, e157_80, e157_83, e157_84, e157_84n, e157_85, e157_86, e157_87, e157_90, e157_91, ↓reduceIte, zth_v, zth_n, zthv_s, zthi_s, zthm_s, true_or, or_true, eq_self, ne_eq, not_false_eq_true, not_true_eq_false, and_self, and_true, true_and, false_and, and_false, foMod_0, foMod_1, foMod_2, foMod_3, foMod_4, foMod_5, foMod_6, foMod_7, foMod_8, foMod_9, foMod_10, foMod_11, foMod_12, foMod_13, foMod_14, foMod_15, foMod_16, foMod_17, foMod_18, foMod_19, foMod_20, foMod_21, foMod_22, foMod_23, foMod_24, foMod_25, foMod_26, foMod_27, foMod_28, foMod_29, foMod_30, foMod_31, foMod_32, foMod_33, foMod_34, foMod_35, foMod_36, foMod_37, foMod_38, poMod_0, poMod_1, poMod_2, poMod_3, poMod_4, poMod_5, poMod_12, poMod_13, poMod_14, poMod_15, poMod_20, poMod_21, poMod_22, poMod_23, poMod_28, poMod_29, poMod_30, poMod_38, coMod, o44, hz44, x2, g1, ct, m9', a0, nI_1, Nat.reduceEqDiff]
      · rw [e] at ct
        have v0 : (0 : Int32) ≤ nI v := ni_ge (b := 0) (by omega) (by omega)
        simp only [e, if_neg (n9v v9)]
        by_cases c : nI a < nI v
        · have c2 : ¬ nI v ≤ nI a := Int32.not_le.mpr c
          obtain ⟨d', i1⟩ := ih (j + 1) (nI v) (some (.int (nI v))) (by omega) (Or.inr ⟨v, v9, rfl⟩)
          refine ⟨d', ?_⟩
          simp only [if_neg (n9v v9)] at i1
          simp only [if_pos c]
          rw [← i1, e157_23]
          simp only [e157_0, e157_0n, e157_1, e157_2, e157_5, e157_8, e157_8n, e157_9, e157_10, e157_13, e157_16, e157_17, e157_18, e157_19, e157_20, e157_21, e157_25, e157_25n, e157_26, e157_29, e157_32, e157_32n, e157_33, e157_35, e157_36, e157_39, e157_41, e157_42, e157_45, e157_47, e157_50, e157_52, e157_55, e157_57, e157_58, e157_61, e157_63, e157_66, e157_67, e157_68, e157_71, e157_75, e157_78, e157_80, e157_83, e157_84, e157_84n, e157_85, e157_86, e157_87, e157_90, e157_91, ↓reduceIte, zth_v, zth_n, zthv_s, zthi_s, zthm_s, true_or, or_true, eq_self, ne_eq, not_false_eq_true, not_true_eq_false, and_self, and_true, true_and, false_and, and_false, foMod_0, foMod_1, foMod_2, foMod_3, foMod_4, foMod_5, foMod_6, foMod_7, foMod_8, foMod_9, foMod_10, foMod_11, foMod_12, foMod_13, foMod_14, foMod_15, foMod_16, foMod_17, foMod_18, foMod_19, foMod_20, foMod_21, foMod_22, foMod_23, foMod_24, foMod_25, foMod_26, foMod_27, foMod_28, foMod_29, foMod_30, foMod_31, foMod_32, foMod_33, foMod_34, foMod_35, foMod_36, foMod_37, foMod_38, poMod_0, poMod_1, poMod_2, poMod_3, poMod_4, poMod_5, poMod_12, poMod_13, poMod_14, poMod_15, poMod_20, poMod_21, poMod_22, poMod_23, poMod_28, poMod_29, poMod_30, poMod_38, coMod, o44, hz44, x2, g1, ct, a0, v0, c, c2, nI_1, Nat.reduceEqDiff]
        · have c2 : nI v ≤ nI a := Int32.not_lt.mp c
          obtain ⟨d', i1⟩ := ih (j + 1) (nI a) (some (.int (nI v))) (by omega) (Or.inr ⟨a, h1, rfl⟩)
          refine ⟨d', ?_⟩
          simp only [if_neg a9] at i1
          simp only [if_neg c]
          rw [← i1, e157_23]
          simp only [e157_0, e157_0n, e157_1, e157_2, e157_5, e157_8, e157_8n, e157_9, e157_10, e157_13, e157_16, e157_17, e157_18, e157_19, e157_20, e157_21, e157_25, e157_25n, e157_26, e157_29, e157_32, e157_32n, e157_33, e157_35, e157_36, e157_39, e157_41, e157_42, e157_45, e157_47, e157_50, e157_52, e157_55, e157_57, e157_58, e157_61, e157_63, e157_66, e157_67, e157_68, e157_71, e157_75, e157_78, e157_80, e157_83, e157_84, e157_84n, e157_85, e157_86, e157_87, e157_90, e157_91, ↓reduceIte, zth_v, zth_n, zthv_s, zthi_s, zthm_s, true_or, or_true, eq_self, ne_eq, not_false_eq_true, not_true_eq_false, and_self, and_true, true_and, false_and, and_false, foMod_0, foMod_1, foMod_2, foMod_3, foMod_4, foMod_5, foMod_6, foMod_7, foMod_8, foMod_9, foMod_10, foMod_11, foMod_12, foMod_13, foMod_14, foMod_15, foMod_16, foMod_17, foMod_18, foMod_19, foMod_20, foMod_21, foMod_22, foMod_23, foMod_24, foMod_25, foMod_26, foMod_27, foMod_28, foMod_29, foMod_30, foMod_31, foMod_32, foMod_33, foMod_34, foMod_35, foMod_36, foMod_37, foMod_38, poMod_0, poMod_1, poMod_2, poMod_3, poMod_4, poMod_5, poMod_12, poMod_13, poMod_14, poMod_15, poMod_20, poMod_21, poMod_22, poMod_23, poMod_28, poMod_29, poMod_30, poMod_38, coMod, o44, hz44, x2, g1, ct, a0, v0, c, c2, nI_1, Nat.reduceEqDiff]
theorem zlat_or (cm : Nat → Int32) (h : ∀ j, j < nr → cm j = -9 ∨ ∃ v, v ≤ 9 ∧ cm j = nI v) : ∀ k j acc, j + k = nr → (∃ a, a ≤ 9 ∧ acc = nI a) → zlat cm k j acc = -9 ∨ ∃ a, a ≤ 9 ∧ zlat cm k j acc = nI a := by
  intro k
  induction k with
  | zero => intro j acc hj ha; exact Or.inr ha
  | succ k ih =>
    intro j acc hj ha
    rw [zlat]
    rcases h j (by omega) with e | ⟨v, v9, e⟩
    · rw [if_pos e]; exact Or.inl rfl
    · rw [if_neg (by rw [e]; exact n9v v9)]
      apply ih (j + 1) _ (by omega)
      split
      · exact ⟨v, v9, e⟩
      · exact ha
end CH
section CI
variable {M : zMem}
theorem p_comes (g : zGood M) {k l : Int32} : zPI 82 155 [some (.int k), some (.int l), none] [some (.int k), some (.int l)] M := by
  have g0 := g
  obtain ⟨h65, c, nl, nr, m, F, r, n, o, mm, w, ln, sn, f, tr, ft, hC, ⟨x, A, hx, hX, hN, hR, hS⟩, hI, hJ, hK⟩ := g
  have hC0 := hC
  have hX0 := hX
  obtain ⟨k0, kN, kR, kS, kP⟩ := hC
  have hz2 : zoc (mget M 2) = some 1 := by rw [kN.2.2.2.1]; exact coNur
  have hz1 : zoc (mget M 1) = some 7 := by rw [k0]; exact coRR
  have hz44 : zoc (mget M 44) = some 8 := by rw [hx.1]; exact coMod
  have hl5 := kN.2.1
  have hr5 := kN.2.2.1
  have hn8 := kR.2.1
  obtain ⟨x0, x1, x2, x3, x4, x5, x16, x17⟩ := hX
  have o44 := hx.1
  rcases kr_or k (n := nr) (by omega) with h | ⟨j, hj, rfl⟩
  · have h9 := n_riderAt_out kN h
    have h8 := m_noRider_out hx x2 hr5 h
    refine ⟨-1, M, M, ?_, ?_, zSkip hz44 g0⟩
    · simp only [e82_0, e82_0n, e82_1, e82_4, e82_5, e82_8, e82_8n, e82_9, e82_9n, e82_10, e82_10n, e82_13, e82_13n, e82_14, e82_17, e82_18, e82_21, e82_24, e82_25, e82_26, e82_26n, e82_27, e82_30, e82_30n, e82_31, e82_32, e82_35, ↓reduceIte, zth_v, zth_n, zthv_s, zthi_s, zthm_s, true_or, or_true, eq_self, ne_eq, not_false_eq_true, not_true_eq_false, and_self, and_true, true_and, false_and, and_false, foRR_0, foRR_1, foRR_2, foRR_3, foRR_4, foRR_5, foRR_6, foRR_7, poRR_6, poRR_7, coRR, k0, hz2, h9, Nat.reduceEqDiff]
    · simp only [e155_0, e155_0n, e155_1, e155_2, e155_5, e155_8, e155_8n, e155_9, e155_10, e155_13, e155_16, e155_17, e155_20, e155_20n, e155_21, e155_22, e155_23, e155_26, ↓reduceIte, zth_v, zth_n, zthv_s, zthi_s, zthm_s, true_or, or_true, eq_self, ne_eq, not_false_eq_true, not_true_eq_false, and_self, and_true, true_and, false_and, and_false, hz44, h8, i10, Nat.reduceEqDiff]
  have h9 := n_riderAt_in kN hj
  have h8 := m_noRider_in hx x2 hr5 hj
  rcases kr_or l (n := nl) (by omega) with h | ⟨l, hl, rfl⟩
  · have h7 := n_isLand_out kN h
    have h6 := m_noLand_out hx x1 hl5 h
    refine ⟨-1, M, M, ?_, ?_, zSkip hz44 g0⟩
    · simp only [e82_0, e82_0n, e82_1, e82_4, e82_5, e82_8, e82_8n, e82_9, e82_9n, e82_10, e82_10n, e82_13, e82_13n, e82_14, e82_17, e82_18, e82_21, e82_24, e82_25, e82_26, e82_26n, e82_27, e82_30, e82_30n, e82_31, e82_32, e82_35, ↓reduceIte, zth_v, zth_n, zthv_s, zthi_s, zthm_s, true_or, or_true, eq_self, ne_eq, not_false_eq_true, not_true_eq_false, and_self, and_true, true_and, false_and, and_false, foRR_0, foRR_1, foRR_2, foRR_3, foRR_4, foRR_5, foRR_6, foRR_7, poRR_6, poRR_7, coRR, k0, hz2, h9, h7, Nat.reduceEqDiff]
    · simp only [e155_0, e155_0n, e155_1, e155_2, e155_5, e155_8, e155_8n, e155_9, e155_10, e155_13, e155_16, e155_17, e155_20, e155_20n, e155_21, e155_22, e155_23, e155_26, ↓reduceIte, zth_v, zth_n, zthv_s, zthi_s, zthm_s, true_or, or_true, eq_self, ne_eq, not_false_eq_true, not_true_eq_false, and_self, and_true, true_and, false_and, and_false, hz44, h8, h6, i10, Nat.reduceEqDiff]
  have h7 := n_isLand_in kN hl
  have h6 := m_noLand_in hx x1 hl5 hl
  obtain ⟨q, q1, q2, rfl⟩ := hI_q hI (by omega)
  have hT := zT_ok hI j hj
  have c1 := n_comingOf kN (kN.2.2.2.2.2.2.1 j (by omega)) (show 2 + 3 + j ≠ 0 by omega) hT.1 hT.2 hl
  have c2 := m_comesTo hx ⟨x1, x2, x3, q1, q2, hl5, hr5, hN, hI⟩ hj hl
  have n3 : 2 + 3 + j ≠ 0 := by omega
  refine ⟨zcome (nI q) F (r j) (zLa r j) l, M, M, ?_, ?_, zSkip hz44 g0⟩
  · simp only [e82_0, e82_0n, e82_1, e82_4, e82_5, e82_8, e82_8n, e82_9, e82_9n, e82_10, e82_10n, e82_13, e82_13n, e82_14, e82_17, e82_18, e82_21, e82_24, e82_25, e82_26, e82_26n, e82_27, e82_30, e82_30n, e82_31, e82_32, e82_35, ↓reduceIte, zth_v, zth_n, zthv_s, zthi_s, zthm_s, true_or, or_true, eq_self, ne_eq, not_false_eq_true, not_true_eq_false, and_self, and_true, true_and, false_and, and_false, foRR_0, foRR_1, foRR_2, foRR_3, foRR_4, foRR_5, foRR_6, foRR_7, poRR_6, poRR_7, coRR, k0, hz2, h9, h7, c1, n3, i10, Nat.reduceEqDiff]
  · simp only [e155_0, e155_0n, e155_1, e155_2, e155_5, e155_8, e155_8n, e155_9, e155_10, e155_13, e155_16, e155_17, e155_20, e155_20n, e155_21, e155_22, e155_23, e155_26, ↓reduceIte, zth_v, zth_n, zthv_s, zthi_s, zthm_s, true_or, or_true, eq_self, ne_eq, not_false_eq_true, not_true_eq_false, and_self, and_true, true_and, false_and, and_false, hz44, h8, h6, c2, Nat.reduceEqDiff]
theorem p_waits (g : zGood M) {k l : Int32} : zPI 84 157 [some (.int l), some (.int k), none, none] [some (.int l), some (.int k), none, none, none] M := by
  have g0 := g
  obtain ⟨h65, c, nl, nr, m, F, r, n, o, mm, w, ln, sn, f, tr, ft, hC, ⟨x, A, hx, hX, hN, hR, hS⟩, hI, hJ, hK⟩ := g
  have hC0 := hC
  have hX0 := hX
  obtain ⟨k0, kN, kR, kS, kP⟩ := hC
  have hz2 : zoc (mget M 2) = some 1 := by rw [kN.2.2.2.1]; exact coNur
  have hz1 : zoc (mget M 1) = some 7 := by rw [k0]; exact coRR
  have hz44 : zoc (mget M 44) = some 8 := by rw [hx.1]; exact coMod
  have hl5 := kN.2.1
  have hr5 := kN.2.2.1
  have hn8 := kR.2.1
  obtain ⟨x0, x1, x2, x3, x4, x5, x16, x17⟩ := hX
  have o44 := hx.1
  rcases kr_or l (n := nl) (by omega) with h | ⟨l, hl, rfl⟩
  · have h7 := n_isLand_out kN h
    have h6 := m_noLand_out hx x1 hl5 h
    have e6 : ∃ u, ev 16 0 [some (.ref 2), some (.int k)] [] M = some (some u, M) ∧ (u = .null ∨ ∃ a, u = .ref a) := by
      rcases kr_or k (n := nr) (by omega) with h | ⟨j, hj, rfl⟩
      · exact ⟨_, n_riderAt_out kN h, Or.inl rfl⟩
      · exact ⟨_, n_riderAt_in kN hj, Or.inr ⟨_, rfl⟩⟩
    refine ⟨-1, M, M, ?_, ?_, zSkip hz44 g0⟩
    · obtain ⟨u, e6, rfl | ⟨a, rfl⟩⟩ := e6
      · simp only [e84_0, e84_0n, e84_1, e84_4, e84_5, e84_8, e84_8n, e84_9, e84_9n, e84_10, e84_13, e84_14, e84_17, e84_20, e84_20n, e84_21, e84_21n, e84_24, e84_25, e84_26, e84_26n, e84_27, e84_30, e84_31, e84_34, e84_36, e84_38, e84_40, e84_43, e84_45, e84_48, e84_50, e84_50n, e84_51, e84_54, e84_54n, e84_55, e84_56, e84_59, e84_60, ↓reduceIte, zth_v, zth_n, zthv_s, zthi_s, zthm_s, true_or, or_true, eq_self, ne_eq, not_false_eq_true, not_true_eq_false, and_self, and_true, true_and, false_and, and_false, foRR_0, foRR_1, foRR_2, foRR_3, foRR_4, foRR_5, foRR_6, foRR_7, poRR_6, poRR_7, coRR, k0, hz2, h7, e6, Nat.reduceEqDiff]
      · simp only [e84_0, e84_0n, e84_1, e84_4, e84_5, e84_8, e84_8n, e84_9, e84_9n, e84_10, e84_13, e84_14, e84_17, e84_20, e84_20n, e84_21, e84_21n, e84_24, e84_25, e84_26, e84_26n, e84_27, e84_30, e84_31, e84_34, e84_36, e84_38, e84_40, e84_43, e84_45, e84_48, e84_50, e84_50n, e84_51, e84_54, e84_54n, e84_55, e84_56, e84_59, e84_60, ↓reduceIte, zth_v, zth_n, zthv_s, zthi_s, zthm_s, true_or, or_true, eq_self, ne_eq, not_false_eq_true, not_true_eq_false, and_self, and_true, true_and, false_and, and_false, foRR_0, foRR_1, foRR_2, foRR_3, foRR_4, foRR_5, foRR_6, foRR_7, poRR_6, poRR_7, coRR, k0, hz2, h7, e6, Nat.reduceEqDiff]
    · simp only [e157_0, e157_0n, e157_1, e157_2, e157_5, e157_8, e157_8n, e157_9, e157_10, e157_13, e157_16, e157_17, e157_18, e157_19, e157_20, e157_21, e157_23, e157_25, e157_25n, e157_26, e157_29, e157_32, e157_32n, e157_33, e157_35, e157_36, e157_39, e157_41, e157_42, e157_45, e157_47, e157_50, e157_52, e157_55, e157_57, e157_58, e157_61, e157_63, e157_66, e157_67, e157_68, e157_71, e157_74, e157_75, e157_78, e157_80, e157_83, e157_84, e157_84n, e157_85, e157_86, e157_87, e157_90, e157_91, ↓reduceIte, zth_v, zth_n, zthv_s, zthi_s, zthm_s, true_or, or_true, eq_self, ne_eq, not_false_eq_true, not_true_eq_false, and_self, and_true, true_and, false_and, and_false, hz44, h6, i10, Nat.reduceEqDiff]
  have h7 := n_isLand_in kN hl
  have h6 := m_noLand_in hx x1 hl5 hl
  rcases kr_or k (n := nr) (by omega) with h | ⟨j, hj, rfl⟩
  · have h9 := n_riderAt_out kN h
    have h8 := m_noRider_out hx x2 hr5 h
    refine ⟨-1, M, M, ?_, ?_, zSkip hz44 g0⟩
    · simp only [e84_0, e84_0n, e84_1, e84_4, e84_5, e84_8, e84_8n, e84_9, e84_9n, e84_10, e84_13, e84_14, e84_17, e84_20, e84_20n, e84_21, e84_21n, e84_24, e84_25, e84_26, e84_26n, e84_27, e84_30, e84_31, e84_34, e84_36, e84_38, e84_40, e84_43, e84_45, e84_48, e84_50, e84_50n, e84_51, e84_54, e84_54n, e84_55, e84_56, e84_59, e84_60, ↓reduceIte, zth_v, zth_n, zthv_s, zthi_s, zthm_s, true_or, or_true, eq_self, ne_eq, not_false_eq_true, not_true_eq_false, and_self, and_true, true_and, false_and, and_false, foRR_0, foRR_1, foRR_2, foRR_3, foRR_4, foRR_5, foRR_6, foRR_7, poRR_6, poRR_7, coRR, k0, hz2, h9, h7, i10, Nat.reduceEqDiff]
    · simp only [e157_0, e157_0n, e157_1, e157_2, e157_5, e157_8, e157_8n, e157_9, e157_10, e157_13, e157_16, e157_17, e157_18, e157_19, e157_20, e157_21, e157_23, e157_25, e157_25n, e157_26, e157_29, e157_32, e157_32n, e157_33, e157_35, e157_36, e157_39, e157_41, e157_42, e157_45, e157_47, e157_50, e157_52, e157_55, e157_57, e157_58, e157_61, e157_63, e157_66, e157_67, e157_68, e157_71, e157_74, e157_75, e157_78, e157_80, e157_83, e157_84, e157_84n, e157_85, e157_86, e157_87, e157_90, e157_91, ↓reduceIte, zth_v, zth_n, zthv_s, zthi_s, zthm_s, true_or, or_true, eq_self, ne_eq, not_false_eq_true, not_true_eq_false, and_self, and_true, true_and, false_and, and_false, hz44, h8, h6, i10, Nat.reduceEqDiff]
  have h9 := n_riderAt_in kN hj
  have h8 := m_noRider_in hx x2 hr5 hj
  obtain ⟨q, q1, q2, rfl⟩ := hI_q hI (by omega)
  have hT := zT_ok hI
  have n3 : 2 + 3 + j ≠ 0 := by omega
  have mr : zMR x A q nl nr F r := ⟨x1, x2, x3, q1, q2, hl5, hr5, hN, hI⟩
  have c1 := n_comingOf kN (kN.2.2.2.2.2.2.1 j (by omega)) n3 (hT j hj).1 (hT j hj).2 hl
  have c2 := m_comesTo hx mr hj hl
  have c3 := n_latestComing kN hT hl
  obtain ⟨d', c4⟩ := m_waits_loop hx mr hl (y := some (.int (nI j))) nr 0 0 none (by omega) (Or.inr ⟨0, by omega, rfl⟩)
  rw [if_neg (by decide), nI_0] at c4
  have st : ev 157 0 [some (.ref 44), some (.int (nI l)), some (.int (nI j)), none, none, none] [] M = ev 157 23 [some (.ref 44), some (.int (nI l)), some (.int (nI j)), some (.int 0), some (.int 0), none] [] M := by
    simp only [e157_0, e157_0n, e157_1, e157_2, e157_5, e157_8, e157_8n, e157_9, e157_10, e157_13, e157_16, e157_17, e157_18, e157_19, e157_20, e157_21, e157_25, e157_25n, e157_26, e157_29, e157_32, e157_32n, e157_33, e157_35, e157_36, e157_39, e157_41, e157_42, e157_45, e157_47, e157_50, e157_52, e157_55, e157_57, e157_58, e157_61, e157_63, e157_66, e157_67, e157_68, e157_71, e157_74, e157_75, e157_78, e157_80, e157_83, e157_84, e157_84n, e157_85, e157_86, e157_87, e157_90, e157_91, ↓reduceIte, zth_v, zth_n, zthv_s, zthi_s, zthm_s, true_or, or_true, eq_self, ne_eq, not_false_eq_true, not_true_eq_false, and_self, and_true, true_and, false_and, and_false, hz44, h8, h6, Nat.reduceEqDiff]
  have hz := zlat_or (nr := nr) (fun j => zcome (nI q) F (r j) (zLa r j) l) (fun j hj => by
    rcases zcA_or (zgo (nI q) F (r j) l) (zLa r j) 1 with e | ⟨v, h1, h2, e⟩
    · exact Or.inl e
    · exact Or.inr ⟨v, by have := (hT j hj).2; omega, e⟩) nr 0 0 (by omega) ⟨0, by omega, rfl⟩
  rcases hz with e | ⟨a, a9, e⟩
  · rw [e] at c3 c4
    refine ⟨-9, M, M, ?_, ?_, zSkip hz44 g0⟩
    · simp only [e84_0, e84_0n, e84_1, e84_4, e84_5, e84_8, e84_8n, e84_9, e84_9n, e84_10, e84_13, e84_14, e84_17, e84_20, e84_20n, e84_21, e84_21n, e84_24, e84_25, e84_26, e84_26n, e84_27, e84_30, e84_31, e84_34, e84_36, e84_38, e84_40, e84_43, e84_45, e84_48, e84_50, e84_50n, e84_51, e84_54, e84_54n, e84_55, e84_56, e84_59, e84_60, ↓reduceIte, zth_v, zth_n, zthv_s, zthi_s, zthm_s, true_or, or_true, eq_self, ne_eq, not_false_eq_true, not_true_eq_false, and_self, and_true, true_and, false_and, and_false, foRR_0, foRR_1, foRR_2, foRR_3, foRR_4, foRR_5, foRR_6, foRR_7, poRR_6, poRR_7, coRR, k0, hz2, h9, h7, c3, n3, i10, Nat.reduceEqDiff]
    · rw [st, c4]
      simp only [e157_0, e157_0n, e157_1, e157_2, e157_5, e157_8, e157_8n, e157_9, e157_10, e157_13, e157_16, e157_17, e157_18, e157_19, e157_20, e157_21, e157_23, e157_25, e157_25n, e157_26, e157_29, e157_32, e157_32n, e157_33, e157_35, e157_36, e157_39, e157_41, e157_42, e157_45, e157_47, e157_50, e157_52, e157_55, e157_57, e157_58, e157_61, e157_63, e157_66, e157_67, e157_68, e157_71, e157_74, e157_75, e157_78, e157_80, e157_83, e157_84, e157_84n, e157_85, e157_86, e157_87, e157_90, e157_91, ↓reduceIte, zth_v, zth_n, zthv_s, zthi_s, zthm_s, true_or, or_true, eq_self, ne_eq, not_false_eq_true, not_true_eq_false, and_self, and_true, true_and, false_and, and_false, show ¬ (0 : Int32) ≤ -9 from by decide, show (-9 : Int32) < 0 from by decide]
  · rw [e] at c3 c4
    have a1 := n9v a9
    have a2 : ¬ nI a < 0 := nI_pos (by omega)
    have a3 : (0 : Int32) ≤ nI a := Int32.not_lt.mp a2
    refine ⟨nI a - zcome (nI q) F (r j) (zLa r j) l, M, M, ?_, ?_, zSkip hz44 g0⟩
    · simp only [e84_0, e84_0n, e84_1, e84_4, e84_5, e84_8, e84_8n, e84_9, e84_9n, e84_10, e84_13, e84_14, e84_17, e84_20, e84_20n, e84_21, e84_21n, e84_24, e84_25, e84_26, e84_26n, e84_27, e84_30, e84_31, e84_34, e84_36, e84_38, e84_40, e84_43, e84_45, e84_48, e84_50, e84_50n, e84_51, e84_54, e84_54n, e84_55, e84_56, e84_59, e84_60, ↓reduceIte, zth_v, zth_n, zthv_s, zthi_s, zthm_s, true_or, or_true, eq_self, ne_eq, not_false_eq_true, not_true_eq_false, and_self, and_true, true_and, false_and, and_false, foRR_0, foRR_1, foRR_2, foRR_3, foRR_4, foRR_5, foRR_6, foRR_7, poRR_6, poRR_7, coRR, k0, hz2, h9, h7, c1, c3, n3, a1, i10, Nat.reduceEqDiff]
    · rw [st, c4]
      simp only [e157_0, e157_0n, e157_1, e157_2, e157_5, e157_8, e157_8n, e157_9, e157_10, e157_13, e157_16, e157_17, e157_18, e157_19, e157_20, e157_21, e157_23, e157_25, e157_25n, e157_26, e157_29, e157_32, e157_32n, e157_33, e157_35, e157_36, e157_39, e157_41, e157_42, e157_45, e157_47, e157_50, e157_52, e157_55, e157_57, e157_58, e157_61, e157_63, e157_66, e157_67, e157_68, e157_71, e157_74, e157_75, e157_78, e157_80, e157_83, e157_84, e157_84n, e157_85, e157_86, e157_87, e157_90, e157_91, ↓reduceIte, zth_v, zth_n, zthv_s, zthi_s, zthm_s, true_or, or_true, eq_self, ne_eq, not_false_eq_true, not_true_eq_false, and_self, and_true, true_and, false_and, and_false, hz44, c2, a2, a3, Nat.reduceEqDiff]
end CI
