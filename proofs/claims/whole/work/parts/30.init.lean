/-! What the constructors leave -/
theorem nc4 : ((4 : Int32)).toNatClampNeg = 4 := by decide
theorem ng4 : (((4 : Int32)) < 0) = False := by decide
theorem nm4 : ((1000 : Nat) < 4) = False := by decide
theorem nc5 : ((5 : Int32)).toNatClampNeg = 5 := by decide
theorem ng5 : (((5 : Int32)) < 0) = False := by decide
theorem nm5 : ((1000 : Nat) < 5) = False := by decide
theorem nc8 : ((8 : Int32)).toNatClampNeg = 8 := by decide
theorem ng8 : (((8 : Int32)) < 0) = False := by decide
theorem nm8 : ((1000 : Nat) < 8) = False := by decide
theorem nc25 : ((25 : Int32)).toNatClampNeg = 25 := by decide
theorem ng25 : (((25 : Int32)) < 0) = False := by decide
theorem nm25 : ((1000 : Nat) < 25) = False := by decide
theorem nc60 : ((60 : Int32)).toNatClampNeg = 60 := by decide
theorem ng60 : (((60 : Int32)) < 0) = False := by decide
theorem nm60 : ((1000 : Nat) < 60) = False := by decide
theorem nc192 : ((192 : Int32)).toNatClampNeg = 192 := by decide
theorem ng192 : (((192 : Int32)) < 0) = False := by decide
theorem nm192 : ((1000 : Nat) < 192) = False := by decide
theorem nc240 : ((240 : Int32)).toNatClampNeg = 240 := by decide
theorem ng240 : (((240 : Int32)) < 0) = False := by decide
theorem nm240 : ((1000 : Nat) < 240) = False := by decide
theorem rawN_0 {v0 v1 v2 v3 v4 v5 : Value} {x : Nat} : zpf (some (.inr (.inr (1, [v0, v1, v2, v3, v4, v5])))) 1 0 (.ref x) = some (.inr (.inr (1, [.ref x, v1, v2, v3, v4, v5]))) := rfl
theorem rawN_1 {v0 v1 v2 v3 v4 v5 : Value} {x : Nat} : zpf (some (.inr (.inr (1, [v0, v1, v2, v3, v4, v5])))) 1 1 (.ref x) = some (.inr (.inr (1, [v0, .ref x, v2, v3, v4, v5]))) := rfl
theorem rawfN_0 {v0 v1 v2 v3 v4 v5 : Value} : zfd (some (.inr (.inr (1, [v0, v1, v2, v3, v4, v5])))) 1 0 = some v0 := rfl
theorem rawfN_1 {v0 v1 v2 v3 v4 v5 : Value} : zfd (some (.inr (.inr (1, [v0, v1, v2, v3, v4, v5])))) 1 1 = some v1 := rfl
theorem rawT_0 {v0 v1 v2 : Value} {x : Nat} : zpf (some (.inr (.inr (5, [v0, v1, v2])))) 5 0 (.ref x) = some (.inr (.inr (5, [.ref x, v1, v2]))) := rfl
theorem rawfT_0 {v0 v1 v2 : Value} : zfd (some (.inr (.inr (5, [v0, v1, v2])))) 5 0 = some v0 := rfl
theorem rawR_0 {v0 v1 v2 v3 : Value} {x : Nat} : zpf (some (.inr (.inr (2, [v0, v1, v2, v3])))) 2 0 (.ref x) = some (.inr (.inr (2, [.ref x, v1, v2, v3]))) := rfl
theorem rawR_1 {v0 v1 v2 v3 : Value} {x : Nat} : zpf (some (.inr (.inr (2, [v0, v1, v2, v3])))) 2 1 (.ref x) = some (.inr (.inr (2, [v0, .ref x, v2, v3]))) := rfl
theorem rawR_2 {v0 v1 v2 v3 : Value} {x : Nat} : zpf (some (.inr (.inr (2, [v0, v1, v2, v3])))) 2 2 (.ref x) = some (.inr (.inr (2, [v0, v1, .ref x, v3]))) := rfl
theorem rawfR_0 {v0 v1 v2 v3 : Value} : zfd (some (.inr (.inr (2, [v0, v1, v2, v3])))) 2 0 = some v0 := rfl
theorem rawfR_1 {v0 v1 v2 v3 : Value} : zfd (some (.inr (.inr (2, [v0, v1, v2, v3])))) 2 1 = some v1 := rfl
theorem rawfR_2 {v0 v1 v2 v3 : Value} : zfd (some (.inr (.inr (2, [v0, v1, v2, v3])))) 2 2 = some v2 := rfl
theorem rawG_0 {v0 v1 v2 v3 v4 : Value} {x : Nat} : zpf (some (.inr (.inr (0, [v0, v1, v2, v3, v4])))) 0 0 (.ref x) = some (.inr (.inr (0, [.ref x, v1, v2, v3, v4]))) := rfl
theorem rawG_1 {v0 v1 v2 v3 v4 : Value} {x : Nat} : zpf (some (.inr (.inr (0, [v0, v1, v2, v3, v4])))) 0 1 (.ref x) = some (.inr (.inr (0, [v0, .ref x, v2, v3, v4]))) := rfl
theorem rawG_2 {v0 v1 v2 v3 v4 : Value} {x : Nat} : zpf (some (.inr (.inr (0, [v0, v1, v2, v3, v4])))) 0 2 (.ref x) = some (.inr (.inr (0, [v0, v1, .ref x, v3, v4]))) := rfl
theorem rawfG_0 {v0 v1 v2 v3 v4 : Value} : zfd (some (.inr (.inr (0, [v0, v1, v2, v3, v4])))) 0 0 = some v0 := rfl
theorem rawfG_1 {v0 v1 v2 v3 v4 : Value} : zfd (some (.inr (.inr (0, [v0, v1, v2, v3, v4])))) 0 1 = some v1 := rfl
theorem rawfG_2 {v0 v1 v2 v3 v4 : Value} : zfd (some (.inr (.inr (0, [v0, v1, v2, v3, v4])))) 0 2 = some v2 := rfl
theorem rawS_0 {v0 v1 v2 : Value} {x : Nat} : zpf (some (.inr (.inr (4, [v0, v1, v2])))) 4 0 (.ref x) = some (.inr (.inr (4, [.ref x, v1, v2]))) := rfl
theorem rawfS_0 {v0 v1 v2 : Value} : zfd (some (.inr (.inr (4, [v0, v1, v2])))) 4 0 = some v0 := rfl
theorem rawX_0 {v0 v1 v2 v3 : Value} {x : Nat} : zpf (some (.inr (.inr (6, [v0, v1, v2, v3])))) 6 0 (.ref x) = some (.inr (.inr (6, [.ref x, v1, v2, v3]))) := rfl
theorem rawfX_0 {v0 v1 v2 v3 : Value} : zfd (some (.inr (.inr (6, [v0, v1, v2, v3])))) 6 0 = some v0 := rfl
theorem rawC_0 {v0 v1 v2 v3 v4 v5 v6 v7 : Value} {x : Nat} : zpf (some (.inr (.inr (7, [v0, v1, v2, v3, v4, v5, v6, v7])))) 7 0 (.ref x) = some (.inr (.inr (7, [.ref x, v1, v2, v3, v4, v5, v6, v7]))) := rfl
theorem rawC_1 {v0 v1 v2 v3 v4 v5 v6 v7 : Value} {x : Nat} : zpf (some (.inr (.inr (7, [v0, v1, v2, v3, v4, v5, v6, v7])))) 7 1 (.ref x) = some (.inr (.inr (7, [v0, .ref x, v2, v3, v4, v5, v6, v7]))) := rfl
theorem rawC_2 {v0 v1 v2 v3 v4 v5 v6 v7 : Value} {x : Nat} : zpf (some (.inr (.inr (7, [v0, v1, v2, v3, v4, v5, v6, v7])))) 7 2 (.ref x) = some (.inr (.inr (7, [v0, v1, .ref x, v3, v4, v5, v6, v7]))) := rfl
theorem rawC_3 {v0 v1 v2 v3 v4 v5 v6 v7 : Value} {x : Nat} : zpf (some (.inr (.inr (7, [v0, v1, v2, v3, v4, v5, v6, v7])))) 7 3 (.ref x) = some (.inr (.inr (7, [v0, v1, v2, .ref x, v4, v5, v6, v7]))) := rfl
theorem rawC_4 {v0 v1 v2 v3 v4 v5 v6 v7 : Value} {x : Nat} : zpf (some (.inr (.inr (7, [v0, v1, v2, v3, v4, v5, v6, v7])))) 7 4 (.ref x) = some (.inr (.inr (7, [v0, v1, v2, v3, .ref x, v5, v6, v7]))) := rfl
theorem rawC_5 {v0 v1 v2 v3 v4 v5 v6 v7 : Value} {x : Nat} : zpf (some (.inr (.inr (7, [v0, v1, v2, v3, v4, v5, v6, v7])))) 7 5 (.ref x) = some (.inr (.inr (7, [v0, v1, v2, v3, v4, .ref x, v6, v7]))) := rfl
theorem rawfC_0 {v0 v1 v2 v3 v4 v5 v6 v7 : Value} : zfd (some (.inr (.inr (7, [v0, v1, v2, v3, v4, v5, v6, v7])))) 7 0 = some v0 := rfl
theorem rawfC_1 {v0 v1 v2 v3 v4 v5 v6 v7 : Value} : zfd (some (.inr (.inr (7, [v0, v1, v2, v3, v4, v5, v6, v7])))) 7 1 = some v1 := rfl
theorem rawfC_2 {v0 v1 v2 v3 v4 v5 v6 v7 : Value} : zfd (some (.inr (.inr (7, [v0, v1, v2, v3, v4, v5, v6, v7])))) 7 2 = some v2 := rfl
theorem rawfC_3 {v0 v1 v2 v3 v4 v5 v6 v7 : Value} : zfd (some (.inr (.inr (7, [v0, v1, v2, v3, v4, v5, v6, v7])))) 7 3 = some v3 := rfl
theorem rawfC_4 {v0 v1 v2 v3 v4 v5 v6 v7 : Value} : zfd (some (.inr (.inr (7, [v0, v1, v2, v3, v4, v5, v6, v7])))) 7 4 = some v4 := rfl
theorem rawfC_5 {v0 v1 v2 v3 v4 v5 v6 v7 : Value} : zfd (some (.inr (.inr (7, [v0, v1, v2, v3, v4, v5, v6, v7])))) 7 5 = some v5 := rfl
theorem rawS_1 {v0 v1 v2 : Value} {x : Int32} : zpf (some (.inr (.inr (4, [v0, v1, v2])))) 4 1 (.int x) = some (.inr (.inr (4, [v0, .int x, v2]))) := rfl
theorem rawS_2 {v0 v1 v2 : Value} {x : Int32} : zpf (some (.inr (.inr (4, [v0, v1, v2])))) 4 2 (.int x) = some (.inr (.inr (4, [v0, v1, .int x]))) := rfl
theorem rawX_1 {v0 v1 v2 v3 : Value} {x : Int32} : zpf (some (.inr (.inr (6, [v0, v1, v2, v3])))) 6 1 (.int x) = some (.inr (.inr (6, [v0, .int x, v2, v3]))) := rfl
theorem rawX_2 {v0 v1 v2 v3 : Value} {x : Int32} : zpf (some (.inr (.inr (6, [v0, v1, v2, v3])))) 6 2 (.int x) = some (.inr (.inr (6, [v0, v1, .int x, v3]))) := rfl
theorem rawX_3 {v0 v1 v2 v3 : Value} {x : Int32} : zpf (some (.inr (.inr (6, [v0, v1, v2, v3])))) 6 3 (.int x) = some (.inr (.inr (6, [v0, v1, v2, .int x]))) := rfl
theorem s1ne (n : Nat) : (n + 1 = n) = False := propext ⟨fun z => by omega, fun z => z.elim⟩
theorem s1z (n : Nat) : (n + 1 = 0) = False := propext ⟨fun z => by omega, fun z => z.elim⟩
theorem i_rid {M : zMem} {a : Nat} : ev 38 0 [some (.ref a)] [] M = some (none, M) := by
  simp only [e38_0, e38_0n, e38_1, e38_4, ↓reduceIte, zth_v, zth_n, zthv_s, zthi_s, zthm_s, true_or, or_true, eq_self, ne_eq, not_false_eq_true, not_true_eq_false, and_self, and_true, true_and, false_and, and_false]
theorem i_nur_loop {B : Nat} (hB : B ≠ 0) : ∀ n j (M : zMem) g, j + n = 5 → M.1 = B + 2 + j → mget M B = some (oNur (B + 1) (B + 2) 0 (nI 0) (nI 0) 0) → mget M (B + 1) = some (.inl (5, fun _ => 0)) → mget M (B + 2) = some (.inr (.inl (3, 5, g))) → (∀ i, i < j → g i = some (B + 3 + i)) → (∀ i, i < j → mget M (B + 3 + i) = some (oRid (0, 0, 0, 0, 0, 0))) →
    ∃ M' : zMem, ev 10 21 [some (.ref B), some (.int (nI j))] [] M = some (none, M') ∧ zNur M' B 0 0 0 0 (fun _ => 0) (fun _ => (0, 0, 0, 0, 0, 0)) ∧ M'.1 = B + 7 ∧ M'.2.1 = M.2.1 + 6 * n ∧ ∀ b, b < B → mget M' b = mget M b := by
  intro n
  induction n with
  | zero =>
    intro j M g hj hM h1 h2 h3 hg hr
    obtain rfl : j = 5 := by omega
    refine ⟨M, ?_, ⟨hB, by omega, by omega, h1, h2, ⟨g, h3, hg⟩, hr, fun _ _ => Or.inl rfl⟩, hM, rfl, fun _ _ => rfl⟩
    have g1 : nI 5 ≤ nI 5 := ni_ge (Nat.le_refl _) (by omega)
    simp only [e10_0, e10_0n, e10_1, e10_4, e10_4n, e10_5, e10_6, e10_8, e10_11, e10_11n, e10_12, e10_13, e10_16, e10_19, e10_20, e10_21, e10_22, e10_22n, e10_23, e10_26, e10_27, e10_30, e10_30n, e10_31, e10_34, e10_35, e10_38, e10_39, e10_42, e10_43, e10_46, e10_49, ↓reduceIte, zth_v, zth_n, zthv_s, zthi_s, zthm_s, true_or, or_true, eq_self, ne_eq, not_false_eq_true, not_true_eq_false, and_self, and_true, true_and, false_and, and_false, foNur_0, foNur_1, foNur_2, foNur_3, foNur_4, foNur_5, poNur_2, poNur_3, poNur_4, poNur_5, coNur, h1, h3, hB, zal_r, g1]
  | succ n ih =>
    intro j M g hj hM h1 h2 h3 hg hr
    have g1 : ¬ nI 5 ≤ nI j := ni_nle (by omega) (by omega)
    have k1 : ∀ b, b ≤ B + 2 + j → mget (mnew M 6 (oRid (0, 0, 0, 0, 0, 0))) b = mget M b := fun b hb => by
      rw [mget_new, if_neg (by omega)]
    have k2 : ∀ b, b ≠ B + 2 → mget (mset (mnew M 6 (oRid (0, 0, 0, 0, 0, 0))) (B + 2) (.inr (.inl (3, 5, va_up g j (some (B + 3 + j)))))) b = mget (mnew M 6 (oRid (0, 0, 0, 0, 0, 0))) b := fun b hb => mget_ne hb
    have k3 : mget (mnew M 6 (oRid (0, 0, 0, 0, 0, 0))) (B + 3 + j) = some (oRid (0, 0, 0, 0, 0, 0)) := by
      rw [mget_new, if_pos (by omega)]
    have g6 : M.1 + 1 = B + 3 + j := by omega
    obtain ⟨M', i1, i2, i3, i4, i5⟩ := ih (j + 1) (mset (mnew M 6 (oRid (0, 0, 0, 0, 0, 0))) (B + 2) (.inr (.inl (3, 5, va_up g j (some (B + 3 + j)))))) (va_up g j (some (B + 3 + j))) (by omega)
      (by rw [mset_1, mnew_1]; omega) (by rw [k2 _ (by omega), k1 _ (by omega)]; exact h1) (by rw [k2 _ (by omega), k1 _ (by omega)]; exact h2) mget_self
      (fun i hi => by
        by_cases e : i = j
        · subst e; exact va_up_self _ _ _
        · rw [va_up_ne _ _ e]; exact hg i (by omega))
      (fun i hi => by
        by_cases e : i = j
        · subst e; rw [k2 _ (by omega)]; exact k3
        · rw [k2 _ (by omega), k1 _ (by omega)]; exact hr i (by omega))
    refine ⟨M', ?_, i2, i3, ?_, fun b hb => ?_⟩
    · have q1 : mget (mnew M 6 (oRid (0, 0, 0, 0, 0, 0))) (B + 2) = some (.inr (.inl (3, 5, g))) := by rw [k1 _ (by omega)]; exact h3
      have q2 : zas (some (.inr (.inl (3, 5, g)))) (nI j) (B + 3 + j) (some (oRid (0, 0, 0, 0, 0, 0))) = some (.inr (.inl (3, 5, va_up g j (some (B + 3 + j))))) := by
        simp only [zas]
        rw [if_neg, if_pos ⟨coRid, Or.inl trivial⟩, nI_clamp (by omega)]
        rintro (z | z)
        · exact nI_pos (by omega) z
        · rw [nI_clamp (by omega)] at z; omega
      have q3 : ¬ (B + 2 = 0 ∨ B + 3 + j = 0) := by omega
      rw [e10_21]
      have enew : (.inr (.inr (3, [.int 0, .int 0, .int 0, .int 0, .int 0, .int 0])) : zPC) = oRid (0, 0, 0, 0, 0, 0) := rfl
      simp only [e10_0, e10_0n, e10_1, e10_4, e10_4n, e10_5, e10_6, e10_8, e10_11, e10_11n, e10_12, e10_13, e10_16, e10_19, e10_20, e10_22, e10_22n, e10_23, e10_26, e10_27, e10_30, e10_30n, e10_31, e10_34, e10_35, e10_38, e10_39, e10_42, e10_43, e10_46, e10_49, ↓reduceIte, zth_v, zth_n, zthv_s, zthi_s, zthm_s, true_or, or_true, eq_self, ne_eq, not_false_eq_true, not_true_eq_false, and_self, and_true, true_and, false_and, and_false, foNur_0, foNur_1, foNur_2, foNur_3, foNur_4, foNur_5, poNur_2, poNur_3, poNur_4, poNur_5, coNur, h1, h3, hB, zal_r, g1, enew, g6, i_rid, q1, k3, q2, q3, nI_1]
      exact i1
    · rw [i4, mset_2, mnew_2]; omega
    · rw [i5 b hb, k2 _ (by omega), k1 _ (by omega)]
theorem i_nur {B : Nat} (hB : B ≠ 0) {M : zMem} (hM : M.1 = B) (h : mget M B = some (.inr (.inr (1, [.null, .null, .int 0, .int 0, .int 0, .int 0])))) :
    ∃ M' : zMem, ev 10 0 [some (.ref B), none] [] M = some (none, M') ∧ zNur M' B 0 0 0 0 (fun _ => 0) (fun _ => (0, 0, 0, 0, 0, 0)) ∧ M'.1 = B + 7 ∧ M'.2.1 = M.2.1 + 40 ∧ ∀ b, b < B → mget M' b = mget M b := by
  have e1 : B ≠ M.1 + 1 := by omega
  have e2 : B ≠ M.1 + 1 + 1 := by omega
  have e3 : B + 1 ≠ B := by omega
  have e4 : B + 2 ≠ B := by omega
  have e5 : B + 1 ≠ B + 2 := by omega
  have e6 : M.1 + 1 = B + 1 := by omega
  obtain ⟨M', i1, i2, i3, i4, i5⟩ := i_nur_loop hB 5 0 (mset (mnew (mset (mnew M 5 (.inl (5, fun _ => 0))) B (.inr (.inr (1, [.ref (B + 1), .null, .int 0, .int 0, .int 0, .int 0])))) 5 (.inr (.inl (3, 5, fun _ => none)))) B (.inr (.inr (1, [.ref (B + 1), .ref (B + 2), .int 0, .int 0, .int 0, .int 0])))) (fun _ => none) (by omega)
    (by rw [mset_1, mnew_1, mset_1, mnew_1]; omega) mget_self
    (by rw [mget_ne (by omega), mget_new, mset_1, mnew_1, if_neg (by omega), mget_ne (by omega), mget_new, if_pos (by omega)])
    (by rw [mget_ne (by omega), mget_new, mset_1, mnew_1, if_pos (by omega)])
    (fun i hi => by omega) (fun i hi => by omega)
  refine ⟨M', ?_, i2, i3, ?_, fun b hb => ?_⟩
  · rw [nI_0] at i1
    simp only [e10_0, e10_0n, e10_1, e10_4, e10_4n, e10_5, e10_6, e10_8, e10_11, e10_11n, e10_12, e10_13, e10_16, e10_19, e10_20, e10_22, e10_22n, e10_23, e10_26, e10_27, e10_30, e10_30n, e10_31, e10_34, e10_35, e10_38, e10_39, e10_42, e10_43, e10_46, e10_49, ↓reduceIte, zth_v, zth_n, zthv_s, zthi_s, zthm_s, true_or, or_true, eq_self, ne_eq, not_false_eq_true, not_true_eq_false, and_self, and_true, true_and, false_and, and_false, hB, nc4, ng4, nm4, nc5, ng5, nm5, nc8, ng8, nm8, nc25, ng25, nm25, nc60, ng60, nm60, nc192, ng192, nm192, nc240, ng240, nm240, or_self, mget_new, mget_set, mnew_1, mset_1, hM, h, s1ne, rawN_0, rawN_1, e4, Nat.add_assoc, Nat.reduceAdd, show (B = B + 1) = False from eq_false (by omega), show (B = B + 2) = False from eq_false (by omega)]
    exact i1
  · rw [i4, mset_2, mnew_2, mset_2, mnew_2]
  · rw [i5 b hb, mget_ne (by omega), mget_new, mset_1, mnew_1, if_neg (by omega), mget_ne (by omega), mget_new, if_neg (by omega)]
