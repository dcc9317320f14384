/-! Sets of places; the model's land -/
def bset (p : Nat → Bool) : Nat → Nat
  | 0 => 0
  | j + 1 => if p j = true then bset p j ||| 2 ^ j else bset p j
theorem bset_lt (p : Nat → Bool) : ∀ n, n ≤ 5 → bset p n < 32 := by
  intro n
  induction n with
  | zero => intro _; show 0 < 32; omega
  | succ n ih =>
    intro h
    rw [bset]
    split
    · exact bt_lt _ (ih (by omega)) n (by omega)
    · exact ih (by omega)
theorem bset_test (p : Nat → Bool) (j : Nat) : ∀ n, (bset p n).testBit j = (decide (j < n) && p j) := by
  intro n
  induction n with
  | zero => simp [bset]
  | succ n ih =>
    rw [bset]
    by_cases h : p n = true
    · rw [if_pos h, Nat.testBit_or, ih, Nat.testBit_two_pow]
      by_cases e : n = j
      · subst e; simp [h]
      · have e2 : decide (n = j) = false := by simp [e]
        have e3 : decide (j < n + 1) = decide (j < n) := by
          apply decide_eq_decide.mpr; omega
        rw [e2, e3]; simp
    · rw [if_neg h, ih]
      by_cases e : j = n
      · subst e; simp [h]
      · have e3 : decide (j < n + 1) = decide (j < n) := by
          apply decide_eq_decide.mpr; omega
        rw [e3]
def rShutB (r : Nat → zRD) (j : Nat) : Bool := decide (¬ (r j).2.2.2.2.2 = 0)
theorem zbit_or {t l : Nat} (ht : t < 32) (hl : l < 5) : nI t ||| zbit l = nI (t ||| 2 ^ l) := bt_or t ht l hl
theorem zshut_set (r : Nat → zRD) : ∀ n, n ≤ 5 → zshut r n = nI (bset (rShutB r) n) := by
  intro n
  induction n with
  | zero => intro _; rfl
  | succ n ih =>
    intro h
    rw [zshut, bset, ih (by omega)]
    unfold rShutB
    by_cases e : (r n).2.2.2.2.2 = 0
    · rw [if_pos e, if_neg (by simp [e])]
    · rw [if_neg e, if_pos (by simp [e])]
      exact zbit_or (bset_lt _ n (by omega)) (by omega)
theorem bt_get2 : ∀ t, t < 32 → ∀ l, l < 5 → (nI t >>> (nI l &&& 31)) &&& 1 = if t.testBit l = true then 1 else 0 := by decide +kernel
theorem zshut_get {r : Nat → zRD} {n j : Nat} (hn : n ≤ 5) (hj : j < n) (hr : rOk (r j)) : (zshut r n >>> (nI j &&& 31)) &&& 1 = (r j).2.2.2.2.2 := by
  rw [zshut_set r n hn, bt_get2 _ (bset_lt _ n hn) j (by omega), bset_test]
  unfold rShutB
  rcases hr with e | e
  · simp [hj, e]
  · simp [hj, e]
theorem zquo_q {w : Int32} {q : Nat} (h1 : 1 ≤ q) (h2 : q ≤ 9) : zquo w (nI q) = w / nI q := by
  unfold zquo
  rw [if_neg]
  exact nI_nlt (a := q) (b := 1) (by omega) (by omega)
theorem zlA_or (F : Nat → Int32) (v : Int32) : ∀ n, zlA F v n = (-9, 0) ∨ ∃ l, l < n ∧ zlA F v n = (nI l, F l) := by
  intro n
  induction n with
  | zero => exact Or.inl rfl
  | succ n ih =>
    rw [zlA]
    have ih' : zlA F v n = (-9, 0) ∨ ∃ l, l < n + 1 ∧ zlA F v n = (nI l, F l) := by
      rcases ih with e | ⟨l, hl, e⟩
      · exact Or.inl e
      · exact Or.inr ⟨l, by omega, e⟩
    split
    · exact ih'
    · split
      · exact ih'
      · exact Or.inr ⟨n, by omega, rfl⟩
section LB
variable {M : zMem} {x : Nat → Int32} {A : Nat → Nat → Int32}
theorem m_landBy_loop (h : zMdl M x A) {nl : Nat} (h1 : x 1 = nI nl) (hl : nl ≤ 5) {F : Nat → Int32} (hF : ∀ j, j < nl → A 45 j = F j) (hp : ∀ j, j < nl → ∃ d, 1 ≤ d ∧ d ≤ 99 ∧ F j = nI d) {q : Nat} (hc : x 3 = nI q) (q1 : 1 ≤ q) (q2 : q ≤ 9) {v : Int32} : ∀ k j d, j + k = nl → ev 137 5 [some (.ref 44), some (.int v), some (.int (zlA F (v / nI q) j).1), some (.int (nI j)), d] [] M = some (some (.int (zland F nl (v / nI q))), M) := by
  have o44 := h.1
  have o45 := h.2 45 (by omega) (by omega)
  intro k
  induction k with
  | zero =>
    intro j d hj
    obtain rfl : j = nl := by omega
    have g1 : nI j ≤ nI j := ni_ge (Nat.le_refl _) (by omega)
    simp only [e137_0, e137_2, e137_3, e137_4, e137_5, e137_6, e137_6n, e137_7, e137_10, e137_13, e137_13n, e137_14, e137_17, e137_18, e137_19, e137_20, e137_20n, e137_21, e137_24, e137_25, e137_28, e137_29, e137_32, e137_32n, e137_33, e137_36, e137_37, e137_38, e137_38n, e137_39, e137_42, e137_43, e137_44, e137_47, e137_48, e137_51, e137_52, e137_54, e137_56, e137_59, e137_60, e137_63, e137_64, e137_65, e137_68, e137_71, e137_72, ↓reduceIte, zth_v, zth_n, zthv_s, zthi_s, zthm_s, true_or, or_true, eq_self, ne_eq, not_false_eq_true, not_true_eq_false, and_self, and_true, true_and, false_and, and_false, foMod_0, foMod_1, foMod_2, foMod_3, foMod_4, foMod_5, foMod_6, foMod_7, foMod_8, foMod_9, foMod_10, foMod_11, foMod_12, foMod_13, foMod_14, foMod_15, foMod_16, foMod_17, foMod_18, foMod_19, foMod_20, foMod_21, foMod_22, foMod_23, foMod_24, foMod_25, foMod_26, foMod_27, foMod_28, foMod_29, foMod_30, foMod_31, foMod_32, foMod_33, foMod_34, foMod_35, foMod_36, foMod_37, foMod_38, poMod_0, poMod_1, poMod_2, poMod_3, poMod_4, poMod_5, poMod_12, poMod_13, poMod_14, poMod_15, poMod_20, poMod_21, poMod_22, poMod_23, poMod_28, poMod_29, poMod_30, poMod_38, coMod, o44, h1, g1, zland, Nat.reduceEqDiff]
  | succ k ih =>
    intro j d hj
    have ih := fun d => ih (j + 1) d (by omega)
    have g1 : ¬ nI nl ≤ nI j := ni_nle (by omega) (by omega)
    have g2 : ¬ nI q = 0 := nI_ne0 (by omega) (by omega)
    have z1 := zia_in (n := zsz 45) (f := A 45) (j := j) (show j < 5 by omega) (show 5 < 2 ^ 31 by omega)
    obtain ⟨dj, d1, d2, d3⟩ := hp j (by omega)
    rw [zlA] at ih
    rw [e137_5]
    by_cases c1 : v / nI q < F j
    · have c2 : ¬ F j ≤ v / nI q := Int32.not_le.mpr c1
      rw [if_pos c1] at ih
      simp only [e137_0, e137_2, e137_3, e137_4, e137_6, e137_6n, e137_7, e137_10, e137_13, e137_13n, e137_14, e137_17, e137_18, e137_19, e137_20, e137_20n, e137_21, e137_24, e137_25, e137_28, e137_29, e137_32, e137_32n, e137_33, e137_36, e137_37, e137_38, e137_38n, e137_39, e137_42, e137_43, e137_44, e137_47, e137_48, e137_51, e137_52, e137_54, e137_56, e137_59, e137_60, e137_63, e137_64, e137_65, e137_68, e137_71, e137_72, ↓reduceIte, zth_v, zth_n, zthv_s, zthi_s, zthm_s, true_or, or_true, eq_self, ne_eq, not_false_eq_true, not_true_eq_false, and_self, and_true, true_and, false_and, and_false, foMod_0, foMod_1, foMod_2, foMod_3, foMod_4, foMod_5, foMod_6, foMod_7, foMod_8, foMod_9, foMod_10, foMod_11, foMod_12, foMod_13, foMod_14, foMod_15, foMod_16, foMod_17, foMod_18, foMod_19, foMod_20, foMod_21, foMod_22, foMod_23, foMod_24, foMod_25, foMod_26, foMod_27, foMod_28, foMod_29, foMod_30, foMod_31, foMod_32, foMod_33, foMod_34, foMod_35, foMod_36, foMod_37, foMod_38, poMod_0, poMod_1, poMod_2, poMod_3, poMod_4, poMod_5, poMod_12, poMod_13, poMod_14, poMod_15, poMod_20, poMod_21, poMod_22, poMod_23, poMod_28, poMod_29, poMod_30, poMod_38, coMod, o44, o45, h1, hc, z1, hF j (by omega), g1, g2, c1, c2, ih, nI_1, Nat.reduceEqDiff]
    · have c2 : F j ≤ v / nI q := Int32.not_lt.mp c1
      rw [if_neg c1] at ih
      rcases zlA_or F (v / nI q) j with e | ⟨l, hl2, e⟩
      · rw [e] at ih ⊢
        have c3 : ¬ F j ≤ 0 := by rw [d3]; exact ni_nle (b := dj) (a := 0) d1 (by omega)
        have c4 : (-9 : Int32) < 0 := by decide
        simp only [if_neg c3] at ih
        simp only [e137_0, e137_2, e137_3, e137_4, e137_6, e137_6n, e137_7, e137_10, e137_13, e137_13n, e137_14, e137_17, e137_18, e137_19, e137_20, e137_20n, e137_21, e137_24, e137_25, e137_28, e137_29, e137_32, e137_32n, e137_33, e137_36, e137_37, e137_38, e137_38n, e137_39, e137_42, e137_43, e137_44, e137_47, e137_48, e137_51, e137_52, e137_54, e137_56, e137_59, e137_60, e137_63, e137_64, e137_65, e137_68, e137_71, e137_72, ↓reduceIte, zth_v, zth_n, zthv_s, zthi_s, zthm_s, true_or, or_true, eq_self, ne_eq, not_false_eq_true, not_true_eq_false, and_self, and_true, true_and, false_and, and_false, foMod_0, foMod_1, foMod_2, foMod_3, foMod_4, foMod_5, foMod_6, foMod_7, foMod_8, foMod_9, foMod_10, foMod_11, foMod_12, foMod_13, foMod_14, foMod_15, foMod_16, foMod_17, foMod_18, foMod_19, foMod_20, foMod_21, foMod_22, foMod_23, foMod_24, foMod_25, foMod_26, foMod_27, foMod_28, foMod_29, foMod_30, foMod_31, foMod_32, foMod_33, foMod_34, foMod_35, foMod_36, foMod_37, foMod_38, poMod_0, poMod_1, poMod_2, poMod_3, poMod_4, poMod_5, poMod_12, poMod_13, poMod_14, poMod_15, poMod_20, poMod_21, poMod_22, poMod_23, poMod_28, poMod_29, poMod_30, poMod_38, coMod, o44, o45, h1, hc, z1, hF j (by omega), g1, g2, c1, c2, c4, i10, ih, nI_1, Nat.reduceEqDiff]
      · rw [e] at ih ⊢
        have z2 := zia_in (n := zsz 45) (f := A 45) (j := l) (show l < 5 by omega) (show 5 < 2 ^ 31 by omega)
        have c4 : ¬ nI l < 0 := nI_pos (by omega)
        by_cases c3 : F j ≤ F l
        · simp only [if_pos c3] at ih
          simp only [e137_0, e137_2, e137_3, e137_4, e137_6, e137_6n, e137_7, e137_10, e137_13, e137_13n, e137_14, e137_17, e137_18, e137_19, e137_20, e137_20n, e137_21, e137_24, e137_25, e137_28, e137_29, e137_32, e137_32n, e137_33, e137_36, e137_37, e137_38, e137_38n, e137_39, e137_42, e137_43, e137_44, e137_47, e137_48, e137_51, e137_52, e137_54, e137_56, e137_59, e137_60, e137_63, e137_64, e137_65, e137_68, e137_71, e137_72, ↓reduceIte, zth_v, zth_n, zthv_s, zthi_s, zthm_s, true_or, or_true, eq_self, ne_eq, not_false_eq_true, not_true_eq_false, and_self, and_true, true_and, false_and, and_false, foMod_0, foMod_1, foMod_2, foMod_3, foMod_4, foMod_5, foMod_6, foMod_7, foMod_8, foMod_9, foMod_10, foMod_11, foMod_12, foMod_13, foMod_14, foMod_15, foMod_16, foMod_17, foMod_18, foMod_19, foMod_20, foMod_21, foMod_22, foMod_23, foMod_24, foMod_25, foMod_26, foMod_27, foMod_28, foMod_29, foMod_30, foMod_31, foMod_32, foMod_33, foMod_34, foMod_35, foMod_36, foMod_37, foMod_38, poMod_0, poMod_1, poMod_2, poMod_3, poMod_4, poMod_5, poMod_12, poMod_13, poMod_14, poMod_15, poMod_20, poMod_21, poMod_22, poMod_23, poMod_28, poMod_29, poMod_30, poMod_38, coMod, o44, o45, h1, hc, z1, z2, hF j (by omega), hF l (by omega), g1, g2, c1, c2, c3, c4, i10, ih, nI_1, Nat.reduceEqDiff]
        · simp only [if_neg c3] at ih
          simp only [e137_0, e137_2, e137_3, e137_4, e137_6, e137_6n, e137_7, e137_10, e137_13, e137_13n, e137_14, e137_17, e137_18, e137_19, e137_20, e137_20n, e137_21, e137_24, e137_25, e137_28, e137_29, e137_32, e137_32n, e137_33, e137_36, e137_37, e137_38, e137_38n, e137_39, e137_42, e137_43, e137_44, e137_47, e137_48, e137_51, e137_52, e137_54, e137_56, e137_59, e137_60, e137_63, e137_64, e137_65, e137_68, e137_71, e137_72, ↓reduceIte, zth_v, zth_n, zthv_s, zthi_s, zthm_s, true_or, or_true, eq_self, ne_eq, not_false_eq_true, not_true_eq_false, and_self, and_true, true_and, false_and, and_false, foMod_0, foMod_1, foMod_2, foMod_3, foMod_4, foMod_5, foMod_6, foMod_7, foMod_8, foMod_9, foMod_10, foMod_11, foMod_12, foMod_13, foMod_14, foMod_15, foMod_16, foMod_17, foMod_18, foMod_19, foMod_20, foMod_21, foMod_22, foMod_23, foMod_24, foMod_25, foMod_26, foMod_27, foMod_28, foMod_29, foMod_30, foMod_31, foMod_32, foMod_33, foMod_34, foMod_35, foMod_36, foMod_37, foMod_38, poMod_0, poMod_1, poMod_2, poMod_3, poMod_4, poMod_5, poMod_12, poMod_13, poMod_14, poMod_15, poMod_20, poMod_21, poMod_22, poMod_23, poMod_28, poMod_29, poMod_30, poMod_38, coMod, o44, o45, h1, hc, z1, z2, hF j (by omega), hF l (by omega), g1, g2, c1, c2, c3, c4, i10, ih, nI_1, Nat.reduceEqDiff]
theorem m_landBy (h : zMdl M x A) {nl : Nat} (h1 : x 1 = nI nl) (hl : nl ≤ 5) {F : Nat → Int32} (hF : ∀ j, j < nl → A 45 j = F j) (hp : ∀ j, j < nl → ∃ d, 1 ≤ d ∧ d ≤ 99 ∧ F j = nI d) {q : Nat} (hc : x 3 = nI q) (q1 : 1 ≤ q) (q2 : q ≤ 9) {v : Int32} : ev 137 0 [some (.ref 44), some (.int v), none, none, none] [] M = some (some (.int (zland F nl (zquo v (nI q)))), M) := by
  have z := m_landBy_loop h h1 hl hF hp hc q1 q2 (v := v) nl 0 none (by omega)
  simp only [nI_0, zlA] at z
  rw [zquo_q q1 q2]
  simp only [e137_0, e137_2, e137_3, e137_4, e137_6, e137_6n, e137_7, e137_10, e137_13, e137_13n, e137_14, e137_17, e137_18, e137_19, e137_20, e137_20n, e137_21, e137_24, e137_25, e137_28, e137_29, e137_32, e137_32n, e137_33, e137_36, e137_37, e137_38, e137_38n, e137_39, e137_42, e137_43, e137_44, e137_47, e137_48, e137_51, e137_52, e137_54, e137_56, e137_59, e137_60, e137_63, e137_64, e137_65, e137_68, e137_71, e137_72, ↓reduceIte, zth_v, zth_n, zthv_s, zthi_s, zthm_s, true_or, or_true, eq_self, ne_eq, not_false_eq_true, not_true_eq_false, and_self, and_true, true_and, false_and, and_false]
  exact z
end LB
