/-! The class as it begins -/
theorem i_tale {B : Nat} (hB : B ≠ 0) {M : zMem} (hM : M.1 = B) (h : mget M B = some (.inr (.inr (5, [.null, .int 0, .int 0])))) :
    ∃ M' : zMem, ev 54 0 [some (.ref B)] [] M = some (none, M') ∧ zTale M' B 0 0 0 (fun _ => 0) (0, 0, fun _ => (0, 0, 0, 0, 0, 0)) ∧ M'.1 = B + 8 ∧ M'.2.1 = M.2.1 + 46 ∧ ∀ b, b < B → mget M' b = mget M b := by
  obtain ⟨M1, i1, i2, i3, i4, i5⟩ := i_nur (B := B + 1) (by omega) (M := mnew M 6 (.inr (.inr (1, [.null, .null, .int 0, .int 0, .int 0, .int 0])))) (by rw [mnew_1]; omega) (by rw [mget_new, if_pos (by omega)])
  have k1 : mget M1 B = some (.inr (.inr (5, [.null, .int 0, .int 0]))) := by rw [i5 B (by omega), mget_new, if_neg (by omega)]; exact h
  refine ⟨mset M1 B (oTale (B + 1) 0 0), ?_, ⟨hB, mget_self, 0, i2.fr fun a h1 h2 => mget_ne (by omega)⟩, by rw [mset_1, i3], by rw [mset_2, i4, mnew_2], fun b hb => by rw [mget_ne (by omega), i5 b (by omega), mget_new, if_neg (by omega)]⟩
  have e6 : M.1 + 1 = B + 1 := by omega
  have e7 : (.inr (.inr (5, [.ref (B + 1), .int 0, .int 0])) : zPC) = oTale (B + 1) 0 0 := rfl
  simp only [e54_0, e54_0n, e54_1, e54_4, e54_4n, e54_5, e54_8, e54_9, e54_12, e54_15, ↓reduceIte, zth_v, zth_n, zthv_s, zthi_s, zthm_s, true_or, or_true, eq_self, ne_eq, not_false_eq_true, not_true_eq_false, and_self, and_true, true_and, false_and, and_false, hB, e6, i1, k1, rawT_0, e7]
theorem i_read {B : Nat} (hB : B ≠ 0) {M : zMem} (hM : M.1 = B) (h : mget M B = some (.inr (.inr (2, [.null, .null, .null, .int 0])))) :
    ∃ M' : zMem, ev 33 0 [some (.ref B)] [] M = some (none, M') ∧ zRead M' B 0 (fun _ => 0) (fun _ => 0) (fun _ => 0) ∧ M'.1 = B + 3 ∧ M'.2.1 = M.2.1 + 24 ∧ ∀ b, b < B → mget M' b = mget M b := by
  let M3 : zMem := mset (mnew (mset (mnew (mset (mnew M 8 (.inl (8, fun _ => 0))) B (.inr (.inr (2, [.ref (B + 1), .null, .null, .int 0])))) 8 (.inl (8, fun _ => 0))) B (.inr (.inr (2, [.ref (B + 1), .ref (B + 2), .null, .int 0])))) 8 (.inl (8, fun _ => 0))) B (oRead (B + 1) (B + 2) (B + 3) (nI 0))
  have hz : ∀ b, mget M3 b = if b = B then some (oRead (B + 1) (B + 2) (B + 3) (nI 0)) else if b = B + 3 then some (.inl (8, fun _ => 0)) else if b = B + 2 then some (.inl (8, fun _ => 0)) else if b = B + 1 then some (.inl (8, fun _ => 0)) else mget M b := by
    intro b
    simp only [M3, mget_set, mget_new, mset_1, mnew_1, hM, Nat.add_assoc, Nat.reduceAdd]
    by_cases q : b = B
    · simp only [q, if_true]
    · simp only [q, if_false]
  refine ⟨M3, ?_, ⟨hB, by omega, ?_, ?_, ?_, ?_⟩, ?_, ?_, fun b hb => ?_⟩
  · simp only [e33_0, e33_0n, e33_1, e33_4, e33_4n, e33_5, e33_7, e33_9, e33_12, e33_12n, e33_13, e33_15, e33_17, e33_20, e33_20n, e33_21, e33_23, e33_25, e33_28, ↓reduceIte, zth_v, zth_n, zthv_s, zthi_s, zthm_s, true_or, or_true, eq_self, ne_eq, not_false_eq_true, not_true_eq_false, and_self, and_true, true_and, false_and, and_false, hB, nc4, ng4, nm4, nc5, ng5, nm5, nc8, ng8, nm8, nc25, ng25, nm25, nc60, ng60, nm60, nc192, ng192, nm192, nc240, ng240, nm240, or_self, mget_new, mget_set, mnew_1, mset_1, hM, h, rawR_0, rawR_1, rawR_2, Nat.add_assoc, Nat.reduceAdd, show (B = B + 1) = False from eq_false (by omega), show (B = B + 2) = False from eq_false (by omega), show (B = B + 3) = False from eq_false (by omega)]
    rfl
  · rw [hz, if_pos rfl]
  · rw [hz, if_neg (by omega), if_neg (by omega), if_neg (by omega), if_pos rfl]
  · rw [hz, if_neg (by omega), if_neg (by omega), if_pos rfl]
  · rw [hz, if_neg (by omega), if_pos rfl]
  · simp only [M3, mset_1, mnew_1, hM]
  · simp only [M3, mset_2, mnew_2]
  · rw [hz, if_neg (by omega), if_neg (by omega), if_neg (by omega), if_neg (by omega)]
theorem i_guid {B : Nat} (hB : B ≠ 0) {M : zMem} (hM : M.1 = B) (h : mget M B = some (.inr (.inr (0, [.null, .null, .null, .int 0, .int 0])))) :
    ∃ M' : zMem, ev 0 0 [some (.ref B)] [] M = some (none, M') ∧ zGu M' B 0 0 (fun _ => 0) (fun _ => 0) (fun _ => 0) ∧ M'.1 = B + 3 ∧ M'.2.1 = M.2.1 + 222 ∧ ∀ b, b < B → mget M' b = mget M b := by
  let M3 : zMem := mset (mnew (mset (mnew (mset (mnew M 25 (.inl (25, fun _ => 0))) B (.inr (.inr (0, [.ref (B + 1), .null, .null, .int 0, .int 0])))) 192 (.inl (192, fun _ => 0))) B (.inr (.inr (0, [.ref (B + 1), .ref (B + 2), .null, .int 0, .int 0])))) 5 (.inl (5, fun _ => 0))) B (oGuid (B + 1) (B + 2) (B + 3) 0 0)
  have hz : ∀ b, mget M3 b = if b = B then some (oGuid (B + 1) (B + 2) (B + 3) 0 0) else if b = B + 3 then some (.inl (5, fun _ => 0)) else if b = B + 2 then some (.inl (192, fun _ => 0)) else if b = B + 1 then some (.inl (25, fun _ => 0)) else mget M b := by
    intro b
    simp only [M3, mget_set, mget_new, mset_1, mnew_1, hM, Nat.add_assoc, Nat.reduceAdd]
    by_cases q : b = B
    · simp only [q, if_true]
    · simp only [q, if_false]
  refine ⟨M3, ?_, ⟨hB, ?_, ?_, ?_, ?_⟩, ?_, ?_, fun b hb => ?_⟩
  · simp only [e0_0, e0_0n, e0_1, e0_4, e0_4n, e0_5, e0_7, e0_9, e0_12, e0_12n, e0_13, e0_16, e0_18, e0_21, e0_21n, e0_22, e0_23, e0_25, e0_28, ↓reduceIte, zth_v, zth_n, zthv_s, zthi_s, zthm_s, true_or, or_true, eq_self, ne_eq, not_false_eq_true, not_true_eq_false, and_self, and_true, true_and, false_and, and_false, hB, nc4, ng4, nm4, nc5, ng5, nm5, nc8, ng8, nm8, nc25, ng25, nm25, nc60, ng60, nm60, nc192, ng192, nm192, nc240, ng240, nm240, or_self, mget_new, mget_set, mnew_1, mset_1, hM, h, rawG_0, rawG_1, rawG_2, Nat.add_assoc, Nat.reduceAdd, show (B = B + 1) = False from eq_false (by omega), show (B = B + 2) = False from eq_false (by omega), show (B = B + 3) = False from eq_false (by omega)]
    rfl
  · rw [hz, if_pos rfl]
  · rw [hz, if_neg (by omega), if_neg (by omega), if_neg (by omega), if_pos rfl]
  · rw [hz, if_neg (by omega), if_neg (by omega), if_pos rfl]
  · rw [hz, if_neg (by omega), if_pos rfl]
  · simp only [M3, mset_1, mnew_1, hM]
  · simp only [M3, mset_2, mnew_2]
  · rw [hz, if_neg (by omega), if_neg (by omega), if_neg (by omega), if_neg (by omega)]
theorem i_sheet {B : Nat} (hB : B ≠ 0) {M : zMem} (hM : M.1 = B) (h : mget M B = some (.inr (.inr (4, [.null, .int 0, .int 0])))) :
    ∃ M' : zMem, ev 44 0 [some (.ref B)] [] M = some (none, M') ∧ zSh M' B (-1) 0 (fun _ => 0) ∧ M'.1 = B + 1 ∧ M'.2.1 = M.2.1 + 60 ∧ ∀ b, b < B → mget M' b = mget M b := by
  let M3 : zMem := mset (mset (mnew M 60 (.inl (60, fun _ => 0))) B (.inr (.inr (4, [.ref (B + 1), .int 0, .int 0])))) B (oSheet (B + 1) (-1) (nI 0))
  refine ⟨M3, ?_, ⟨hB, by omega, mget_self, ?_⟩, ?_, ?_, fun b hb => ?_⟩
  · simp only [e44_0, e44_0n, e44_1, e44_4, e44_4n, e44_5, e44_7, e44_9, e44_12, e44_12n, e44_13, e44_14, e44_17, ↓reduceIte, zth_v, zth_n, zthv_s, zthi_s, zthm_s, true_or, or_true, eq_self, ne_eq, not_false_eq_true, not_true_eq_false, and_self, and_true, true_and, false_and, and_false, hB, nc4, ng4, nm4, nc5, ng5, nm5, nc8, ng8, nm8, nc25, ng25, nm25, nc60, ng60, nm60, nc192, ng192, nm192, nc240, ng240, nm240, or_self, mget_new, mget_set, mnew_1, mset_1, hM, h, rawS_0, rawS_1, Nat.add_assoc, Nat.reduceAdd, show (B = B + 1) = False from eq_false (by omega)]
    rfl
  · rw [mget_ne (by omega), mget_ne (by omega), mget_new, if_pos (by omega)]
  · simp only [M3, mset_1, mnew_1, hM]
  · simp only [M3, mset_2, mnew_2]
  · rw [mget_ne (by omega), mget_ne (by omega), mget_new, if_neg (by omega)]
def zShs (M : zMem) (ln : Nat → Int32) (sn : Nat → Nat) (f : Nat → Nat → Int32) : Prop := (∃ g, mget M 35 = some (.inr (.inl (4, 4, g))) ∧ ∀ k, k < 4 → g k = some (36 + 2 * k)) ∧ ∀ k, k < 4 → zSh M (36 + 2 * k) (ln k) (sn k) (f k)
def zSpare (M : zMem) : Prop := (∃ c nl nr m F r, zNur M 10 c nl nr m F r) ∧ (∃ c nl nr F s, zTale M 18 c nl nr F s) ∧ ∃ lg mt cm bs gv, zGu M 31 lg mt cm bs gv ∧ ∀ i, i < 32 → bs (160 + i) = 0
/-- what all calls before have left: the class's side -/
def zCl (M : zMem) (c : Int32) (nl nr : Nat) (m : Int32) (F : Nat → Int32) (r : Nat → zRD) (n : Nat) (o mm w : Nat → Int32) (ln : Nat → Int32) (sn : Nat → Nat) (f : Nat → Nat → Int32) (tr ft : Int32) : Prop := mget M 1 = some (oRR 2 10 18 27 31 35 tr ft) ∧ zNur M 2 c nl nr m F r ∧ zRead M 27 n o mm w ∧ zShs M ln sn f ∧ zSpare M
theorem i_shs_loop : ∀ n j (M : zMem) g, j + n = 4 → M.1 = 35 + 2 * j → mget M 1 = some (oRR 2 10 18 27 31 35 0 0) → mget M 35 = some (.inr (.inl (4, 4, g))) → (∀ i, i < j → g i = some (36 + 2 * i)) → (∀ i, i < j → zSh M (36 + 2 * i) (-1) 0 (fun _ => 0)) →
    ∃ M' : zMem, ev 67 69 [some (.ref 1), some (.int (nI j))] [] M = some (none, M') ∧ zShs M' (fun _ => -1) (fun _ => 0) (fun _ _ => 0) ∧ M'.1 = 43 ∧ M'.2.1 = M.2.1 + 63 * n ∧ ∀ b, b < 35 → mget M' b = mget M b := by
  intro n
  induction n with
  | zero =>
    intro j M g hj hM h1 h3 hg hr
    obtain rfl : j = 4 := by omega
    refine ⟨M, ?_, ⟨⟨g, h3, hg⟩, hr⟩, hM, rfl, fun _ _ => rfl⟩
    have g1 : nI 4 ≤ nI 4 := ni_ge (Nat.le_refl _) (by omega)
    simp only [e67_0, e67_0n, e67_1, e67_4, e67_4n, e67_5, e67_8, e67_9, e67_12, e67_15, e67_15n, e67_16, e67_19, e67_20, e67_23, e67_26, e67_26n, e67_27, e67_30, e67_31, e67_34, e67_37, e67_37n, e67_38, e67_41, e67_42, e67_45, e67_48, e67_48n, e67_49, e67_52, e67_53, e67_56, e67_59, e67_59n, e67_60, e67_61, e67_64, e67_67, e67_68, e67_69, e67_70, e67_70n, e67_71, e67_74, e67_75, e67_78, e67_78n, e67_79, e67_82, e67_83, e67_86, e67_87, e67_90, e67_91, e67_94, e67_97, ↓reduceIte, zth_v, zth_n, zthv_s, zthi_s, zthm_s, true_or, or_true, eq_self, ne_eq, not_false_eq_true, not_true_eq_false, and_self, and_true, true_and, false_and, and_false, foRR_0, foRR_1, foRR_2, foRR_3, foRR_4, foRR_5, foRR_6, foRR_7, poRR_6, poRR_7, coRR, h1, h3, zal_r, g1, Nat.reduceEqDiff]
  | succ n ih =>
    intro j M g hj hM h1 h3 hg hr
    have g1 : ¬ nI 4 ≤ nI j := ni_nle (by omega) (by omega)
    obtain ⟨M1, i1, i2, i3, i4, i5⟩ := i_sheet (B := 36 + 2 * j) (by omega) (M := mnew M 3 (.inr (.inr (4, [.null, .int 0, .int 0])))) (by rw [mnew_1]; omega) (by rw [mget_new, if_pos (by omega)])
    have k1 : ∀ b, b < 36 + 2 * j → mget M1 b = mget M b := fun b hb => by rw [i5 b hb, mget_new, if_neg (by omega)]
    have k3 := (k1 35 (by omega)).trans h3
    obtain ⟨M', j1, j2, j3, j4, j5⟩ := ih (j + 1) (mset M1 35 (.inr (.inl (4, 4, va_up g j (some (36 + 2 * j)))))) (va_up g j (some (36 + 2 * j))) (by omega) (by rw [mset_1, i3]; omega)
      (by rw [mget_ne (by omega), k1 _ (by omega)]; exact h1) mget_self
      (fun i hi => by
        by_cases e : i = j
        · subst e; exact va_up_self _ _ _
        · rw [va_up_ne _ _ e]; exact hg i (by omega))
      (fun i hi => by
        by_cases e : i = j
        · subst e; exact i2.fr (mget_ne (by omega)) (mget_ne (by omega))
        · exact (hr i (by omega)).fr ((mget_ne (by omega)).trans (k1 _ (by omega))) ((mget_ne (by omega)).trans (k1 _ (by omega))))
    refine ⟨M', ?_, j2, j3, by rw [j4, mset_2, i4, mnew_2]; omega, fun b hb => by rw [j5 b hb, mget_ne (by omega), k1 _ (by omega)]⟩
    have g6 : M.1 + 1 = 36 + 2 * j := by omega
    have q1 : ∀ x, zas (some (.inr (.inl (4, 4, g)))) (nI j) x (some (oSheet (36 + 2 * j + 1) (-1) (nI 0))) = some (.inr (.inl (4, 4, va_up g j (some x)))) := by
      intro x
      simp only [zas]
      rw [if_neg, if_pos ⟨coSheet, Or.inr trivial⟩, nI_clamp (by omega)]
      rintro (z | z)
      · exact nI_pos (by omega) z
      · rw [nI_clamp (by omega)] at z; omega
    have q3 : ¬ (36 + 2 * j = 0) := by omega
    have q4 := i2.2.2.1
    rw [e67_69]
    simp only [e67_0, e67_0n, e67_1, e67_4, e67_4n, e67_5, e67_8, e67_9, e67_12, e67_15, e67_15n, e67_16, e67_19, e67_20, e67_23, e67_26, e67_26n, e67_27, e67_30, e67_31, e67_34, e67_37, e67_37n, e67_38, e67_41, e67_42, e67_45, e67_48, e67_48n, e67_49, e67_52, e67_53, e67_56, e67_59, e67_59n, e67_60, e67_61, e67_64, e67_67, e67_68, e67_70, e67_70n, e67_71, e67_74, e67_75, e67_78, e67_78n, e67_79, e67_82, e67_83, e67_86, e67_87, e67_90, e67_91, e67_94, e67_97, ↓reduceIte, zth_v, zth_n, zthv_s, zthi_s, zthm_s, true_or, or_true, eq_self, ne_eq, not_false_eq_true, not_true_eq_false, and_self, and_true, true_and, false_and, and_false, foRR_0, foRR_1, foRR_2, foRR_3, foRR_4, foRR_5, foRR_6, foRR_7, poRR_6, poRR_7, coRR, h1, h3, k3, zal_r, g1, g6, i1, q1, q3, q4, or_self, nI_1, Nat.reduceEqDiff]
    exact j1
theorem i_rr {M : zMem} (hM : M.1 = 1) (h : mget M 1 = some (.inr (.inr (7, [.null, .null, .null, .null, .null, .null, .int 0, .int 0])))) :
    ∃ M' : zMem, ev 67 0 [some (.ref 1), none] [] M = some (none, M') ∧ zCl M' 0 0 0 0 (fun _ => 0) (fun _ => (0, 0, 0, 0, 0, 0)) 0 (fun _ => 0) (fun _ => 0) (fun _ => 0) (fun _ => -1) (fun _ => 0) (fun _ _ => 0) 0 0 ∧ M'.1 = 43 ∧ M'.2.1 ≤ M.2.1 + 1000 ∧ mget M' 0 = mget M 0 := by
  -- now
  obtain ⟨M1, a1, a2, a3, a4, a5⟩ := i_nur (B := 2) (by omega) (M := mnew M 6 (.inr (.inr (1, [.null, .null, .int 0, .int 0, .int 0, .int 0])))) (by rw [mnew_1]; omega) (by rw [mget_new, if_pos (by omega)])
  have ao : mget M1 1 = some (.inr (.inr (7, [.null, .null, .null, .null, .null, .null, .int 0, .int 0]))) := by rw [a5 _ (by omega), mget_new, if_neg (by omega)]; exact h
  have az : mget M1 0 = mget M 0 := by rw [a5 _ (by omega), mget_new, if_neg (by omega)]
  -- spare
  obtain ⟨M2, b1, b2, b3, b4, b5⟩ := i_nur (B := 10) (by omega) (M := mnew (mset M1 1 (.inr (.inr (7, [.ref 2, .null, .null, .null, .null, .null, .int 0, .int 0])))) 6 (.inr (.inr (1, [.null, .null, .int 0, .int 0, .int 0, .int 0])))) (by rw [mnew_1, mset_1, a3]) (by rw [mget_new, if_pos (by rw [mset_1, a3])])
  have bf : ∀ b, b < 10 → b ≠ 1 → mget M2 b = mget M1 b := fun b hb h1 => by rw [b5 _ hb, mget_new, if_neg (by rw [mset_1, a3]; omega), mget_ne h1]
  have bo : mget M2 1 = some (.inr (.inr (7, [.ref 2, .null, .null, .null, .null, .null, .int 0, .int 0]))) := by rw [b5 _ (by omega), mget_new, if_neg (by rw [mset_1, a3]; omega), mget_self]
  -- tale
  obtain ⟨M3, c1, c2, c3, c4, c5⟩ := i_tale (B := 18) (by omega) (M := mnew (mset M2 1 (.inr (.inr (7, [.ref 2, .ref 10, .null, .null, .null, .null, .int 0, .int 0])))) 3 (.inr (.inr (5, [.null, .int 0, .int 0])))) (by rw [mnew_1, mset_1, b3]) (by rw [mget_new, if_pos (by rw [mset_1, b3])])
  have cf : ∀ b, b < 18 → b ≠ 1 → mget M3 b = mget M2 b := fun b hb h1 => by rw [c5 _ hb, mget_new, if_neg (by rw [mset_1, b3]; omega), mget_ne h1]
  have co : mget M3 1 = some (.inr (.inr (7, [.ref 2, .ref 10, .null, .null, .null, .null, .int 0, .int 0]))) := by rw [c5 _ (by omega), mget_new, if_neg (by rw [mset_1, b3]; omega), mget_self]
  -- readings
  obtain ⟨M4, d1, d2, d3, d4, d5⟩ := i_read (B := 27) (by omega) (M := mnew (mset M3 1 (.inr (.inr (7, [.ref 2, .ref 10, .ref 18, .null, .null, .null, .int 0, .int 0])))) 4 (.inr (.inr (2, [.null, .null, .null, .int 0])))) (by rw [mnew_1, mset_1, c3]) (by rw [mget_new, if_pos (by rw [mset_1, c3])])
  have df : ∀ b, b < 27 → b ≠ 1 → mget M4 b = mget M3 b := fun b hb h1 => by rw [d5 _ hb, mget_new, if_neg (by rw [mset_1, c3]; omega), mget_ne h1]
  have dq : mget M4 1 = some (.inr (.inr (7, [.ref 2, .ref 10, .ref 18, .null, .null, .null, .int 0, .int 0]))) := by rw [d5 _ (by omega), mget_new, if_neg (by rw [mset_1, c3]; omega), mget_self]
  -- guiding
  obtain ⟨M5, e1, e2, e3, e4, e5⟩ := i_guid (B := 31) (by omega) (M := mnew (mset M4 1 (.inr (.inr (7, [.ref 2, .ref 10, .ref 18, .ref 27, .null, .null, .int 0, .int 0])))) 5 (.inr (.inr (0, [.null, .null, .null, .int 0, .int 0])))) (by rw [mnew_1, mset_1, d3]) (by rw [mget_new, if_pos (by rw [mset_1, d3])])
  have ef : ∀ b, b < 31 → b ≠ 1 → mget M5 b = mget M4 b := fun b hb h1 => by rw [e5 _ hb, mget_new, if_neg (by rw [mset_1, d3]; omega), mget_ne h1]
  have eo : mget M5 1 = some (.inr (.inr (7, [.ref 2, .ref 10, .ref 18, .ref 27, .null, .null, .int 0, .int 0]))) := by rw [e5 _ (by omega), mget_new, if_neg (by rw [mset_1, d3]; omega), mget_self]
  -- sheets
  obtain ⟨M6, f1, f2, f3, f4, f5⟩ := i_shs_loop 4 0 (mset (mnew (mset M5 1 (.inr (.inr (7, [.ref 2, .ref 10, .ref 18, .ref 27, .ref 31, .null, .int 0, .int 0])))) 4 (.inr (.inl (4, 4, fun _ => none)))) 1 (oRR 2 10 18 27 31 35 0 0)) (fun _ => none) (by omega) (by rw [mset_1, mnew_1, mset_1, e3]) mget_self
    (by rw [mget_ne (by omega), mget_new, if_pos (by rw [mset_1, e3])]) (fun i hi => by omega) (fun i hi => by omega)
  have ff : ∀ b, b < 35 → b ≠ 1 → mget M6 b = mget M5 b := fun b hb h1 => by rw [f5 _ hb, mget_ne h1, mget_new, if_neg (by rw [mset_1, e3]; omega), mget_ne h1]
  have sp1 : ∃ c nl nr m F r, zNur M6 10 c nl nr m F r := ⟨_, _, _, _, _, _, b2.fr fun b h1 h2 => by rw [ff b (by omega) (by omega), ef b (by omega) (by omega), df b (by omega) (by omega), cf b (by omega) (by omega)]⟩
  obtain ⟨cm9, hm9⟩ := c2.2.2
  have sp2 : ∃ c nl nr F s, zTale M6 18 c nl nr F s := ⟨0, 0, 0, fun _ => 0, (0, 0, fun _ => (0, 0, 0, 0, 0, 0)), c2.1, by rw [ff _ (by omega) (by omega), ef _ (by omega) (by omega), df _ (by omega) (by omega)]; exact c2.2.1, cm9, hm9.fr fun b h1 h2 => by rw [ff b (by omega) (by omega), ef b (by omega) (by omega), df b (by omega) (by omega)]⟩
  have sp3 : ∃ lg mt cm bs gv, zGu M6 31 lg mt cm bs gv ∧ ∀ i, i < 32 → bs (160 + i) = 0 := ⟨_, _, _, _, _, e2.fr fun b h1 h2 => by rw [ff b (by omega) (by omega)], fun _ _ => rfl⟩
  refine ⟨M6, ?_, ⟨(f5 1 (by omega)).trans mget_self, ?_, ?_, f2, sp1, sp2, sp3⟩, f3, ?_, ?_⟩
  · rw [nI_0] at f1
    have w0 : M.1 + 1 = 2 := by omega
    have w1 : M1.1 = 9 := a3
    have w2 : M2.1 = 17 := b3
    have w3 : M3.1 = 26 := c3
    have w4 : M4.1 = 30 := d3
    have w5 : M5.1 = 34 := e3
    have wR : ∀ v, (.inr (.inr (7, [.ref 2, .ref 10, .ref 18, .ref 27, .ref 31, .ref 35, .int 0, .int 0])) : zPC) = v → v = oRR 2 10 18 27 31 35 0 0 := fun v hv => hv.symm
    simp only [e67_0, e67_0n, e67_1, e67_4, e67_4n, e67_5, e67_8, e67_9, e67_12, e67_15, e67_15n, e67_16, e67_19, e67_20, e67_23, e67_26, e67_26n, e67_27, e67_30, e67_31, e67_34, e67_37, e67_37n, e67_38, e67_41, e67_42, e67_45, e67_48, e67_48n, e67_49, e67_52, e67_53, e67_56, e67_59, e67_59n, e67_60, e67_61, e67_64, e67_67, e67_68, e67_70, e67_70n, e67_71, e67_74, e67_75, e67_78, e67_78n, e67_79, e67_82, e67_83, e67_86, e67_87, e67_90, e67_91, e67_94, e67_97, ↓reduceIte, zth_v, zth_n, zthv_s, zthi_s, zthm_s, true_or, or_true, eq_self, ne_eq, not_false_eq_true, not_true_eq_false, and_self, and_true, true_and, false_and, and_false, nc4, ng4, nm4, nc5, ng5, nm5, nc8, ng8, nm8, nc25, ng25, nm25, nc60, ng60, nm60, nc192, ng192, nm192, nc240, ng240, nm240, or_self, w0, w1, w2, w3, w4, w5, mset_1, mnew_1, mget_set, mget_new, a1, ao, b1, bo, c1, co, d1, dq, e1, eo, rawC_0, rawC_1, rawC_2, rawC_3, rawC_4, rawC_5, Nat.reduceAdd, Nat.reduceEqDiff]
    exact f1
  · exact a2.fr fun b h1 h2 => by rw [ff b (by omega) (by omega), ef b (by omega) (by omega), df b (by omega) (by omega), cf b (by omega) (by omega), bf b (by omega) (by omega)]
  · exact d2.fr fun b h1 h2 => by rw [ff b (by omega) (by omega), ef b (by omega) (by omega)]
  · rw [f4, mset_2, mnew_2, mset_2, e4, mnew_2, mset_2, d4, mnew_2, mset_2, c4, mnew_2, mset_2, b4, mnew_2, mset_2, a4, mnew_2]; omega
  · rw [ff _ (by omega) (by omega), ef _ (by omega) (by omega), df _ (by omega) (by omega), cf _ (by omega) (by omega), bf _ (by omega) (by omega), az]
