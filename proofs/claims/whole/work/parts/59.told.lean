/-! An afternoon: bars and answers -/
def zb1 (nr : Nat) (a w : Int32) : Int32 := if w < 0 ∨ 2 < w then -2 else if w = 2 then (if a < 0 ∨ 20 < a then -2 else 0) else if a < 0 ∨ nI nr ≤ a then -1 else 0
def zbp (nr : Nat) (f : Nat → Int32) (i : Nat) : Nat → Nat → Int32
  | 0, _ => 0
  | k + 1, j => if zb1 nr (f (i + 2 * j)) (f (i + 2 * j + 1)) = 0 then zbp nr f i k (j + 1) else zb1 nr (f (i + 2 * j)) (f (i + 2 * j + 1))
theorem zb1_ok {nr : Nat} (hr : nr ≤ 5) {a w : Int32} (h : zb1 nr a w = 0) : zactOk nr a w := by
  unfold zb1 at h
  rcases pk2 w with q | q
  · rw [if_pos q] at h; exact absurd h (by decide)
  · rw [if_neg (by rcases q with rfl | rfl | rfl <;> decide)] at h
    by_cases w2 : w = 2
    · rw [if_pos w2] at h
      by_cases c : a < 0 ∨ 20 < a
      · rw [if_pos c] at h; exact absurd h (by decide)
      · left
        refine ⟨w2, ?_⟩
        rcases kr60 a (n := 21) (by omega) with z | ⟨t, ht, e⟩
        · exfalso
          have e1 := nI_tI (n := 21) (by omega)
          rw [Int32.le_iff_toInt_le, e1] at z
          rw [Int32.lt_iff_toInt_lt, Int32.lt_iff_toInt_lt, show (20 : Int32).toInt = 20 from by decide] at c
          rw [Int32.lt_iff_toInt_lt] at z
          omega
        · exact ⟨t, by omega, e⟩
    · rw [if_neg w2] at h
      right
      refine ⟨by rcases q with h | h | h; exact Or.inl h; exact Or.inr h; exact absurd h w2, ?_⟩
      rcases kr_or a (n := nr) (by omega) with z | z
      · rw [if_pos z] at h; exact absurd h (by decide)
      · exact z
theorem zb1_or (nr : Nat) (a w : Int32) : zb1 nr a w = 0 ∨ zb1 nr a w = -1 ∨ zb1 nr a w = -2 := by
  unfold zb1
  repeat' split
  all_goals simp
theorem zbp_or (nr : Nat) (f : Nat → Int32) (i : Nat) : ∀ k j, zbp nr f i k j = 0 ∨ zbp nr f i k j = -1 ∨ zbp nr f i k j = -2 := by
  intro k
  induction k with
  | zero => intro j; exact Or.inl rfl
  | succ k ih =>
    intro j
    rw [zbp]
    split
    · exact ih _
    · exact zb1_or _ _ _
theorem zbp_ok {nr : Nat} (hr : nr ≤ 5) {f : Nat → Int32} {i : Nat} : ∀ k j, zbp nr f i k j = 0 → ∀ p, j ≤ p → p < j + k → zactOk nr (f (i + 2 * p)) (f (i + 2 * p + 1)) := by
  intro k
  induction k with
  | zero => intro j _ p h1 h2; omega
  | succ k ih =>
    intro j h p h1 h2
    rw [zbp] at h
    split at h
    · rename_i c
      by_cases e : p = j
      · subst e; exact zb1_ok hr c
      · exact ih (j + 1) h p (by omega) (by omega)
    · rename_i c
      exact absurd h c
section BA
variable {M : zMem}
theorem t_refusal1 {tr ft c m : Int32} {nl nr : Nat} {F : Nat → Int32} {r : Nat → zRD} (k0 : mget M 1 = some (oRR 2 10 18 27 31 35 tr ft)) (kN : zNur M 2 c nl nr m F r) {a w : Int32} : ev 79 0 [some (.ref 1), some (.int a), some (.int w)] [] M = some (some (.int (zb1 nr a w)), M) := by
  have hz2 : zoc (mget M 2) = some 1 := by rw [kN.2.2.2.1]; exact coNur
  have hr5 := kN.2.2.1
  unfold zb1
  rcases pk2 w with q | q
  · rw [if_pos q]
    by_cases q1 : w < 0
    · simp only [e79_0, e79_1, e79_4, e79_5, e79_6, e79_9, e79_11, e79_12, e79_13, e79_14, e79_17, e79_18, e79_21, e79_22, e79_24, e79_27, e79_29, e79_32, e79_33, e79_34, e79_34n, e79_35, e79_38, e79_39, e79_42, e79_42n, e79_45, e79_46, e79_49, e79_50, ↓reduceIte, zth_v, zth_n, zthv_s, zthi_s, zthm_s, true_or, or_true, eq_self, ne_eq, not_false_eq_true, not_true_eq_false, and_self, and_true, true_and, false_and, and_false, q1]
    · have q2 := q.resolve_left q1
      have q3 : ¬ w ≤ 2 := Int32.not_le.mpr q2
      simp only [e79_0, e79_1, e79_4, e79_5, e79_6, e79_9, e79_11, e79_12, e79_13, e79_14, e79_17, e79_18, e79_21, e79_22, e79_24, e79_27, e79_29, e79_32, e79_33, e79_34, e79_34n, e79_35, e79_38, e79_39, e79_42, e79_42n, e79_45, e79_46, e79_49, e79_50, ↓reduceIte, zth_v, zth_n, zthv_s, zthi_s, zthm_s, true_or, or_true, eq_self, ne_eq, not_false_eq_true, not_true_eq_false, and_self, and_true, true_and, false_and, and_false, q1, q2, q3]
  · rw [if_neg (by rcases q with rfl | rfl | rfl <;> decide)]
    have q1 : ¬ w < 0 := by rcases q with rfl | rfl | rfl <;> decide
    have q3 : w ≤ 2 := by rcases q with rfl | rfl | rfl <;> decide
    have q2 : ¬ 2 < w := Int32.not_lt.mpr q3
    by_cases w2 : w = 2
    · rw [if_pos w2]
      by_cases c1 : a < 0
      · rw [if_pos (Or.inl c1)]
        simp only [e79_0, e79_1, e79_4, e79_5, e79_6, e79_9, e79_11, e79_12, e79_13, e79_14, e79_17, e79_18, e79_21, e79_22, e79_24, e79_27, e79_29, e79_32, e79_33, e79_34, e79_34n, e79_35, e79_38, e79_39, e79_42, e79_42n, e79_45, e79_46, e79_49, e79_50, ↓reduceIte, zth_v, zth_n, zthv_s, zthi_s, zthm_s, true_or, or_true, eq_self, ne_eq, not_false_eq_true, not_true_eq_false, and_self, and_true, true_and, false_and, and_false, q1, q2, q3, w2, c1]
        try simp only [e79_0, e79_1, e79_4, e79_5, e79_6, e79_9, e79_11, e79_12, e79_13, e79_14, e79_17, e79_18, e79_21, e79_22, e79_24, e79_27, e79_29, e79_32, e79_33, e79_34, e79_34n, e79_35, e79_38, e79_39, e79_42, e79_42n, e79_45, e79_46, e79_49, e79_50, ↓reduceIte, zth_v, zth_n, zthv_s, zthi_s, zthm_s, true_or, or_true, eq_self, ne_eq, not_false_eq_true, not_true_eq_false, and_self, and_true, true_and, false_and, and_false, c1, show ¬ (2 : Int32) < 0 from by decide, show (2 : Int32) ≤ 2 from by decide, show ¬ (2 : Int32) < 2 from by decide]
      · by_cases c2 : 20 < a
        · rw [if_pos (Or.inr c2)]
          have c3 : ¬ a ≤ 20 := Int32.not_le.mpr c2
          simp only [e79_0, e79_1, e79_4, e79_5, e79_6, e79_9, e79_11, e79_12, e79_13, e79_14, e79_17, e79_18, e79_21, e79_22, e79_24, e79_27, e79_29, e79_32, e79_33, e79_34, e79_34n, e79_35, e79_38, e79_39, e79_42, e79_42n, e79_45, e79_46, e79_49, e79_50, ↓reduceIte, zth_v, zth_n, zthv_s, zthi_s, zthm_s, true_or, or_true, eq_self, ne_eq, not_false_eq_true, not_true_eq_false, and_self, and_true, true_and, false_and, and_false, q1, q2, q3, w2, c1, c2, c3]
          try simp only [e79_0, e79_1, e79_4, e79_5, e79_6, e79_9, e79_11, e79_12, e79_13, e79_14, e79_17, e79_18, e79_21, e79_22, e79_24, e79_27, e79_29, e79_32, e79_33, e79_34, e79_34n, e79_35, e79_38, e79_39, e79_42, e79_42n, e79_45, e79_46, e79_49, e79_50, ↓reduceIte, zth_v, zth_n, zthv_s, zthi_s, zthm_s, true_or, or_true, eq_self, ne_eq, not_false_eq_true, not_true_eq_false, and_self, and_true, true_and, false_and, and_false, c1, c2, c3, show ¬ (2 : Int32) < 0 from by decide, show (2 : Int32) ≤ 2 from by decide, show ¬ (2 : Int32) < 2 from by decide]
        · rw [if_neg (by rintro (z | z); exact c1 z; exact c2 z)]
          have c3 : a ≤ 20 := Int32.not_lt.mp c2
          simp only [e79_0, e79_1, e79_4, e79_5, e79_6, e79_9, e79_11, e79_12, e79_13, e79_14, e79_17, e79_18, e79_21, e79_22, e79_24, e79_27, e79_29, e79_32, e79_33, e79_34, e79_34n, e79_35, e79_38, e79_39, e79_42, e79_42n, e79_45, e79_46, e79_49, e79_50, ↓reduceIte, zth_v, zth_n, zthv_s, zthi_s, zthm_s, true_or, or_true, eq_self, ne_eq, not_false_eq_true, not_true_eq_false, and_self, and_true, true_and, false_and, and_false, q1, q2, q3, w2, c1, c2, c3]
          try simp only [e79_0, e79_1, e79_4, e79_5, e79_6, e79_9, e79_11, e79_12, e79_13, e79_14, e79_17, e79_18, e79_21, e79_22, e79_24, e79_27, e79_29, e79_32, e79_33, e79_34, e79_34n, e79_35, e79_38, e79_39, e79_42, e79_42n, e79_45, e79_46, e79_49, e79_50, ↓reduceIte, zth_v, zth_n, zthv_s, zthi_s, zthm_s, true_or, or_true, eq_self, ne_eq, not_false_eq_true, not_true_eq_false, and_self, and_true, true_and, false_and, and_false, c1, c2, c3, show ¬ (2 : Int32) < 0 from by decide, show (2 : Int32) ≤ 2 from by decide, show ¬ (2 : Int32) < 2 from by decide]
    · rw [if_neg w2]
      rcases kr_or a (n := nr) (by omega) with z | ⟨j, hj, rfl⟩
      · have h9 := n_riderAt_out kN z
        rw [if_pos z]
        simp only [e79_0, e79_1, e79_4, e79_5, e79_6, e79_9, e79_11, e79_12, e79_13, e79_14, e79_17, e79_18, e79_21, e79_22, e79_24, e79_27, e79_29, e79_32, e79_33, e79_34, e79_34n, e79_35, e79_38, e79_39, e79_42, e79_42n, e79_45, e79_46, e79_49, e79_50, ↓reduceIte, zth_v, zth_n, zthv_s, zthi_s, zthm_s, true_or, or_true, eq_self, ne_eq, not_false_eq_true, not_true_eq_false, and_self, and_true, true_and, false_and, and_false, foRR_0, foRR_1, foRR_2, foRR_3, foRR_4, foRR_5, foRR_6, foRR_7, poRR_6, poRR_7, coRR, k0, hz2, h9, q1, q2, q3, w2, Nat.reduceEqDiff]
      · have h9 := n_riderAt_in kN hj
        have n3 : 2 + 3 + j ≠ 0 := by omega
        rw [if_neg (by rintro (z | z); exact nI_pos (by omega) z; exact ni_nle hj (by omega) z)]
        simp only [e79_0, e79_1, e79_4, e79_5, e79_6, e79_9, e79_11, e79_12, e79_13, e79_14, e79_17, e79_18, e79_21, e79_22, e79_24, e79_27, e79_29, e79_32, e79_33, e79_34, e79_34n, e79_35, e79_38, e79_39, e79_42, e79_42n, e79_45, e79_46, e79_49, e79_50, ↓reduceIte, zth_v, zth_n, zthv_s, zthi_s, zthm_s, true_or, or_true, eq_self, ne_eq, not_false_eq_true, not_true_eq_false, and_self, and_true, true_and, false_and, and_false, foRR_0, foRR_1, foRR_2, foRR_3, foRR_4, foRR_5, foRR_6, foRR_7, poRR_6, poRR_7, coRR, k0, hz2, h9, n3, q1, q2, q3, w2, Nat.reduceEqDiff]
theorem t_refusals_loop {tr ft c m : Int32} {nl nr : Nat} {F : Nat → Int32} {r : Nat → zRD} (k0 : mget M 1 = some (oRR 2 10 18 27 31 35 tr ft)) (kN : zNur M 2 c nl nr m F r) {b n : Nat} {ln : Int32} {f : Nat → Int32} (hS : zSh M b ln n f) {i t : Nat} (ht : t ≤ 20) (hit : i + 2 * t ≤ n) : ∀ k j d, j + k = t → ev 78 3 [some (.ref 1), some (.ref b), some (.int (nI i)), some (.int (nI t)), some (.int (nI j)), d] [] M = some (some (.int (zbp nr f i k j)), M) := by
  have hz1 : zoc (mget M 1) = some 7 := by rw [k0]; exact coRR
  obtain ⟨hb0, hn, k1, k2⟩ := hS
  have hzb : zoc (mget M b) = some 4 := by rw [k1]; exact coSheet
  intro k
  induction k with
  | zero =>
    intro j d hj
    obtain rfl : j = t := by omega
    have g1 : nI j ≤ nI j := ni_ge (Nat.le_refl _) (by omega)
    simp only [e78_0, e78_1, e78_3, e78_5, e78_6, e78_9, e78_9n, e78_10, e78_10n, e78_11, e78_12, e78_13, e78_15, e78_16, e78_17, e78_20, e78_20n, e78_21, e78_22, e78_23, e78_25, e78_26, e78_27, e78_28, e78_29, e78_32, e78_35, e78_37, e78_39, e78_42, e78_44, e78_45, e78_48, e78_51, e78_52, ↓reduceIte, zth_v, zth_n, zthv_s, zthi_s, zthm_s, true_or, or_true, eq_self, ne_eq, not_false_eq_true, not_true_eq_false, and_self, and_true, true_and, false_and, and_false, g1, zbp]
  | succ k ih =>
    intro j d hj
    have g1 : ¬ nI t ≤ nI j := ni_nle (by omega) (by omega)
    have s1 := s_at_in k1 k2 hn hb0 (j := i + 2 * j) (by omega)
    have s2 := s_at_in k1 k2 hn hb0 (j := i + 2 * j + 1) (by omega)
    have t1 := t_refusal1 k0 kN (a := f (i + 2 * j)) (w := f (i + 2 * j + 1))
    have i1 := ih (j + 1) (some (.int (zb1 nr (f (i + 2 * j)) (f (i + 2 * j + 1))))) (by omega)
    rw [zbp]
    by_cases c : zb1 nr (f (i + 2 * j)) (f (i + 2 * j + 1)) = 0
    · rw [if_pos c, ← i1, e78_3]
      simp only [e78_0, e78_1, e78_5, e78_6, e78_9, e78_9n, e78_10, e78_10n, e78_11, e78_12, e78_13, e78_15, e78_16, e78_17, e78_20, e78_20n, e78_21, e78_22, e78_23, e78_25, e78_26, e78_27, e78_28, e78_29, e78_32, e78_35, e78_37, e78_39, e78_42, e78_44, e78_45, e78_48, e78_51, e78_52, ↓reduceIte, zth_v, zth_n, zthv_s, zthi_s, zthm_s, true_or, or_true, eq_self, ne_eq, not_false_eq_true, not_true_eq_false, and_self, and_true, true_and, false_and, and_false, hzb, hz1, hb0, g1, ni2, s1, s2, t1, c, nI_1, Nat.reduceEqDiff]
    · rw [if_neg c, e78_3]
      simp only [e78_0, e78_1, e78_5, e78_6, e78_9, e78_9n, e78_10, e78_10n, e78_11, e78_12, e78_13, e78_15, e78_16, e78_17, e78_20, e78_20n, e78_21, e78_22, e78_23, e78_25, e78_26, e78_27, e78_28, e78_29, e78_32, e78_35, e78_37, e78_39, e78_42, e78_44, e78_45, e78_48, e78_51, e78_52, ↓reduceIte, zth_v, zth_n, zthv_s, zthi_s, zthm_s, true_or, or_true, eq_self, ne_eq, not_false_eq_true, not_true_eq_false, and_self, and_true, true_and, false_and, and_false, hzb, hz1, hb0, g1, ni2, s1, s2, t1, c, nI_1, Nat.reduceEqDiff]
theorem m_pairs_loop {x : Nat → Int32} {A : Nat → Nat → Int32} (h : zMdl M x A) {nr : Nat} (x2 : x 2 = nI nr) (hr5 : nr ≤ 5) {f : Nat → Int32} {b i t : Nat} (ht : t ≤ 20) (hb : b + 2 * t ≤ 240) (hs : ∀ p, p < 2 * t → A 64 (b + p) = f (i + p)) : ∀ k j d d', j + k = t → ev 150 2 [some (.ref 44), some (.int (nI b)), some (.int (nI t)), some (.int (nI j)), d, d'] [] M = some (some (.int (zbp nr f i k j)), M) := by
  have o44 := h.1
  have hz44 : zoc (mget M 44) = some 8 := by rw [h.1]; exact coMod
  have o64 := h.2 64 (by omega) (by omega)
  intro k
  induction k with
  | zero =>
    intro j d d' hj
    obtain rfl : j = t := by omega
    have g1 : nI j ≤ nI j := ni_ge (Nat.le_refl _) (by omega)
    simp only [e150_0, e150_1, e150_2, e150_3, e150_4, e150_7, e150_7n, e150_8, e150_11, e150_12, e150_13, e150_14, e150_15, e150_16, e150_17, e150_19, e150_19n, e150_20, e150_23, e150_24, e150_25, e150_26, e150_27, e150_28, e150_29, e150_30, e150_31, e150_33, e150_35, e150_36, e150_37, e150_40, e150_43, e150_46, e150_48, e150_49, e150_52, e150_54, e150_55, e150_56, e150_59, e150_62, e150_65, e150_67, e150_68, e150_70, e150_71, e150_74, e150_74n, e150_75, e150_77, e150_80, e150_83, e150_84, e150_85, e150_88, e150_91, e150_92, ↓reduceIte, zth_v, zth_n, zthv_s, zthi_s, zthm_s, true_or, or_true, eq_self, ne_eq, not_false_eq_true, not_true_eq_false, and_self, and_true, true_and, false_and, and_false, g1, zbp]
  | succ k ih =>
    intro j d d' hj
    have g1 : ¬ nI t ≤ nI j := ni_nle (by omega) (by omega)
    have za := zia_in (n := zsz 64) (f := A 64) (j := b + 2 * j) (show b + 2 * j < 240 by omega) (show 240 < 2 ^ 31 by omega)
    have zb := zia_in (n := zsz 64) (f := A 64) (j := b + 2 * j + 1) (show b + 2 * j + 1 < 240 by omega) (show 240 < 2 ^ 31 by omega)
    rw [hs (2 * j) (by omega)] at za
    rw [show b + 2 * j + 1 = b + (2 * j + 1) from by omega, hs (2 * j + 1) (by omega), ← Nat.add_assoc, ← Nat.add_assoc] at zb
    have i1 := ih (j + 1) (some (.int (f (i + 2 * j)))) (some (.int (f (i + 2 * j + 1)))) (by omega)
    rw [zbp, e150_2]
    generalize f (i + 2 * j) = a at *
    generalize f (i + 2 * j + 1) = w at *
    unfold zb1
    rcases pk2 w with q | q
    · rw [if_pos q, if_neg (by decide)]
      simp only [e150_0, e150_1, e150_3, e150_4, e150_7, e150_7n, e150_8, e150_11, e150_12, e150_13, e150_14, e150_15, e150_16, e150_17, e150_19, e150_19n, e150_20, e150_23, e150_24, e150_25, e150_26, e150_27, e150_28, e150_29, e150_30, e150_31, e150_33, e150_35, e150_36, e150_37, e150_40, e150_43, e150_46, e150_48, e150_49, e150_52, e150_54, e150_55, e150_56, e150_59, e150_62, e150_65, e150_67, e150_68, e150_70, e150_71, e150_74, e150_74n, e150_75, e150_77, e150_80, e150_83, e150_84, e150_85, e150_88, e150_91, e150_92, ↓reduceIte, zth_v, zth_n, zthv_s, zthi_s, zthm_s, true_or, or_true, eq_self, ne_eq, not_false_eq_true, not_true_eq_false, and_self, and_true, true_and, false_and, and_false, foMod_0, foMod_1, foMod_2, foMod_3, foMod_4, foMod_5, foMod_6, foMod_7, foMod_8, foMod_9, foMod_10, foMod_11, foMod_12, foMod_13, foMod_14, foMod_15, foMod_16, foMod_17, foMod_18, foMod_19, foMod_20, foMod_21, foMod_22, foMod_23, foMod_24, foMod_25, foMod_26, foMod_27, foMod_28, foMod_29, foMod_30, foMod_31, foMod_32, foMod_33, foMod_34, foMod_35, foMod_36, foMod_37, foMod_38, poMod_0, poMod_1, poMod_2, poMod_3, poMod_4, poMod_5, poMod_12, poMod_13, poMod_14, poMod_15, poMod_20, poMod_21, poMod_22, poMod_23, poMod_28, poMod_29, poMod_30, poMod_38, coMod, o44, hz44, o64, za, zb, ni2, nI_1, g1, m_in_0_2, q, Nat.reduceEqDiff]
    · have q0 : ¬ (w < 0 ∨ 2 < w) := by rcases q with rfl | rfl | rfl <;> decide
      rw [if_neg q0]
      by_cases w2 : w = 2
      · subst w2
        rw [if_pos rfl]
        have q5 : (2 : Int32) ≤ 2 := by decide
        by_cases c : a < 0 ∨ 20 < a
        · rw [if_pos c, if_neg (by decide)]
          simp only [e150_0, e150_1, e150_3, e150_4, e150_7, e150_7n, e150_8, e150_11, e150_12, e150_13, e150_14, e150_15, e150_16, e150_17, e150_19, e150_19n, e150_20, e150_23, e150_24, e150_25, e150_26, e150_27, e150_28, e150_29, e150_30, e150_31, e150_33, e150_35, e150_36, e150_37, e150_40, e150_43, e150_46, e150_48, e150_49, e150_52, e150_54, e150_55, e150_56, e150_59, e150_62, e150_65, e150_67, e150_68, e150_70, e150_71, e150_74, e150_74n, e150_75, e150_77, e150_80, e150_83, e150_84, e150_85, e150_88, e150_91, e150_92, ↓reduceIte, zth_v, zth_n, zthv_s, zthi_s, zthm_s, true_or, or_true, eq_self, ne_eq, not_false_eq_true, not_true_eq_false, and_self, and_true, true_and, false_and, and_false, foMod_0, foMod_1, foMod_2, foMod_3, foMod_4, foMod_5, foMod_6, foMod_7, foMod_8, foMod_9, foMod_10, foMod_11, foMod_12, foMod_13, foMod_14, foMod_15, foMod_16, foMod_17, foMod_18, foMod_19, foMod_20, foMod_21, foMod_22, foMod_23, foMod_24, foMod_25, foMod_26, foMod_27, foMod_28, foMod_29, foMod_30, foMod_31, foMod_32, foMod_33, foMod_34, foMod_35, foMod_36, foMod_37, foMod_38, poMod_0, poMod_1, poMod_2, poMod_3, poMod_4, poMod_5, poMod_12, poMod_13, poMod_14, poMod_15, poMod_20, poMod_21, poMod_22, poMod_23, poMod_28, poMod_29, poMod_30, poMod_38, coMod, o44, hz44, o64, za, zb, ni2, nI_1, g1, m_in_0_2, m_in_0_20, q0, c, q5, i10, Nat.reduceEqDiff]
        · rw [if_neg c, if_pos rfl, ← i1]
          simp only [e150_0, e150_1, e150_3, e150_4, e150_7, e150_7n, e150_8, e150_11, e150_12, e150_13, e150_14, e150_15, e150_16, e150_17, e150_19, e150_19n, e150_20, e150_23, e150_24, e150_25, e150_26, e150_27, e150_28, e150_29, e150_30, e150_31, e150_33, e150_35, e150_36, e150_37, e150_40, e150_43, e150_46, e150_48, e150_49, e150_52, e150_54, e150_55, e150_56, e150_59, e150_62, e150_65, e150_67, e150_68, e150_70, e150_71, e150_74, e150_74n, e150_75, e150_77, e150_80, e150_83, e150_84, e150_85, e150_88, e150_91, e150_92, ↓reduceIte, zth_v, zth_n, zthv_s, zthi_s, zthm_s, true_or, or_true, eq_self, ne_eq, not_false_eq_true, not_true_eq_false, and_self, and_true, true_and, false_and, and_false, foMod_0, foMod_1, foMod_2, foMod_3, foMod_4, foMod_5, foMod_6, foMod_7, foMod_8, foMod_9, foMod_10, foMod_11, foMod_12, foMod_13, foMod_14, foMod_15, foMod_16, foMod_17, foMod_18, foMod_19, foMod_20, foMod_21, foMod_22, foMod_23, foMod_24, foMod_25, foMod_26, foMod_27, foMod_28, foMod_29, foMod_30, foMod_31, foMod_32, foMod_33, foMod_34, foMod_35, foMod_36, foMod_37, foMod_38, poMod_0, poMod_1, poMod_2, poMod_3, poMod_4, poMod_5, poMod_12, poMod_13, poMod_14, poMod_15, poMod_20, poMod_21, poMod_22, poMod_23, poMod_28, poMod_29, poMod_30, poMod_38, coMod, o44, hz44, o64, za, zb, ni2, nI_1, g1, m_in_0_2, m_in_0_20, q0, c, q5, i10, Nat.reduceEqDiff]
      · rw [if_neg w2]
        have q5 : ¬ (2 : Int32) ≤ w := by
          rcases q with rfl | rfl | rfl
          · decide
          · decide
          · exact absurd rfl w2
        rcases kr_or a (n := nr) (by omega) with z | ⟨p, hp, rfl⟩
        · have h8 := m_noRider_out h x2 hr5 z
          rw [if_pos z, if_neg (by decide)]
          simp only [e150_0, e150_1, e150_3, e150_4, e150_7, e150_7n, e150_8, e150_11, e150_12, e150_13, e150_14, e150_15, e150_16, e150_17, e150_19, e150_19n, e150_20, e150_23, e150_24, e150_25, e150_26, e150_27, e150_28, e150_29, e150_30, e150_31, e150_33, e150_35, e150_36, e150_37, e150_40, e150_43, e150_46, e150_48, e150_49, e150_52, e150_54, e150_55, e150_56, e150_59, e150_62, e150_65, e150_67, e150_68, e150_70, e150_71, e150_74, e150_74n, e150_75, e150_77, e150_80, e150_83, e150_84, e150_85, e150_88, e150_91, e150_92, ↓reduceIte, zth_v, zth_n, zthv_s, zthi_s, zthm_s, true_or, or_true, eq_self, ne_eq, not_false_eq_true, not_true_eq_false, and_self, and_true, true_and, false_and, and_false, foMod_0, foMod_1, foMod_2, foMod_3, foMod_4, foMod_5, foMod_6, foMod_7, foMod_8, foMod_9, foMod_10, foMod_11, foMod_12, foMod_13, foMod_14, foMod_15, foMod_16, foMod_17, foMod_18, foMod_19, foMod_20, foMod_21, foMod_22, foMod_23, foMod_24, foMod_25, foMod_26, foMod_27, foMod_28, foMod_29, foMod_30, foMod_31, foMod_32, foMod_33, foMod_34, foMod_35, foMod_36, foMod_37, foMod_38, poMod_0, poMod_1, poMod_2, poMod_3, poMod_4, poMod_5, poMod_12, poMod_13, poMod_14, poMod_15, poMod_20, poMod_21, poMod_22, poMod_23, poMod_28, poMod_29, poMod_30, poMod_38, coMod, o44, hz44, o64, za, zb, ni2, nI_1, g1, m_in_0_2, q0, w2, q5, h8, i10, Nat.reduceEqDiff]
        · have h8 := m_noRider_in h x2 hr5 hp
          have qz : ¬ (nI p < 0 ∨ nI nr ≤ nI p) := by rintro (z | z); exact nI_pos (by omega) z; exact ni_nle hp (by omega) z
          rw [if_neg qz, if_pos rfl, ← i1]
          simp only [e150_0, e150_1, e150_3, e150_4, e150_7, e150_7n, e150_8, e150_11, e150_12, e150_13, e150_14, e150_15, e150_16, e150_17, e150_19, e150_19n, e150_20, e150_23, e150_24, e150_25, e150_26, e150_27, e150_28, e150_29, e150_30, e150_31, e150_33, e150_35, e150_36, e150_37, e150_40, e150_43, e150_46, e150_48, e150_49, e150_52, e150_54, e150_55, e150_56, e150_59, e150_62, e150_65, e150_67, e150_68, e150_70, e150_71, e150_74, e150_74n, e150_75, e150_77, e150_80, e150_83, e150_84, e150_85, e150_88, e150_91, e150_92, ↓reduceIte, zth_v, zth_n, zthv_s, zthi_s, zthm_s, true_or, or_true, eq_self, ne_eq, not_false_eq_true, not_true_eq_false, and_self, and_true, true_and, false_and, and_false, foMod_0, foMod_1, foMod_2, foMod_3, foMod_4, foMod_5, foMod_6, foMod_7, foMod_8, foMod_9, foMod_10, foMod_11, foMod_12, foMod_13, foMod_14, foMod_15, foMod_16, foMod_17, foMod_18, foMod_19, foMod_20, foMod_21, foMod_22, foMod_23, foMod_24, foMod_25, foMod_26, foMod_27, foMod_28, foMod_29, foMod_30, foMod_31, foMod_32, foMod_33, foMod_34, foMod_35, foMod_36, foMod_37, foMod_38, poMod_0, poMod_1, poMod_2, poMod_3, poMod_4, poMod_5, poMod_12, poMod_13, poMod_14, poMod_15, poMod_20, poMod_21, poMod_22, poMod_23, poMod_28, poMod_29, poMod_30, poMod_38, coMod, o44, hz44, o64, za, zb, ni2, nI_1, g1, m_in_0_2, q0, w2, q5, h8, i10, Nat.reduceEqDiff]
end BA
