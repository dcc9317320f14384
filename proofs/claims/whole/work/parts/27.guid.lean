/-! Guiding: its tables -/
theorem n5 (k l : Nat) : nI k * 5 + nI l = nI (k * 5 + l) := by rw [show (5 : Int32) = nI 5 from rfl, pk_mul, nI_add]
theorem n32 (k l : Nat) : nI k * 32 + nI l = nI (k * 32 + l) := by rw [show (32 : Int32) = nI 32 from rfl, pk_mul, nI_add]
theorem bt_get : ∀ t, t < 32 → ∀ l, l < 5 → ((nI t >>> (nI l &&& 31)) &&& 1 = 1) = (t.testBit l = true) := by
  intro t ht l hl
  have z : ∀ t, t < 32 → ∀ l, l < 5 → (((nI t >>> (nI l &&& 31)) &&& 1 = 1) ↔ (t.testBit l = true)) := by decide +kernel
  exact propext (z t ht l hl)
theorem bt_or : ∀ t, t < 32 → ∀ l, l < 5 → nI t ||| ((1 : Int32) <<< (nI l &&& 31)) = nI (t ||| 2 ^ l) := by decide +kernel
theorem bt_lt : ∀ t, t < 32 → ∀ l, l < 5 → t ||| 2 ^ l < 32 := by decide +kernel
def zGu (M : zMem) (a : Nat) (lg mt : Int32) (cm bs gv : Nat → Int32) : Prop := a ≠ 0 ∧ mget M a = some (oGuid (a + 1) (a + 2) (a + 3) lg mt) ∧ mget M (a + 1) = some (.inl (25, cm)) ∧ mget M (a + 2) = some (.inl (192, bs)) ∧ mget M (a + 3) = some (.inl (5, gv))
theorem zGu.fr {M M' : zMem} {a : Nat} {lg mt : Int32} {cm bs gv : Nat → Int32} (h : zGu M a lg mt cm bs gv) (hf : ∀ b, a ≤ b → b ≤ a + 3 → mget M' b = mget M b) : zGu M' a lg mt cm bs gv := ⟨h.1, (hf _ (by omega) (by omega)).trans h.2.1, (hf _ (by omega) (by omega)).trans h.2.2.1, (hf _ (by omega) (by omega)).trans h.2.2.2.1, (hf _ (by omega) (by omega)).trans h.2.2.2.2⟩
theorem zGu.setC {M : zMem} {a : Nat} {lg mt : Int32} {cm bs gv : Nat → Int32} (h : zGu M a lg mt cm bs gv) {x : Nat → Int32} : zGu (mset M (a + 1) (.inl (25, x))) a lg mt x bs gv := ⟨h.1, (mget_ne (by omega)).trans h.2.1, mget_self, (mget_ne (by omega)).trans h.2.2.2.1, (mget_ne (by omega)).trans h.2.2.2.2⟩
theorem zGu.setB {M : zMem} {a : Nat} {lg mt : Int32} {cm bs gv : Nat → Int32} (h : zGu M a lg mt cm bs gv) {x : Nat → Int32} : zGu (mset M (a + 2) (.inl (192, x))) a lg mt cm x gv := ⟨h.1, (mget_ne (by omega)).trans h.2.1, (mget_ne (by omega)).trans h.2.2.1, mget_self, (mget_ne (by omega)).trans h.2.2.2.2⟩
theorem zGu.setG {M : zMem} {a : Nat} {lg mt : Int32} {cm bs gv : Nat → Int32} (h : zGu M a lg mt cm bs gv) {x : Nat → Int32} : zGu (mset M (a + 3) (.inl (5, x))) a lg mt cm bs x := ⟨h.1, (mget_ne (by omega)).trans h.2.1, (mget_ne (by omega)).trans h.2.2.1, (mget_ne (by omega)).trans h.2.2.2.1, mget_self⟩
theorem zGu.setO {M : zMem} {a : Nat} {lg mt : Int32} {cm bs gv : Nat → Int32} (h : zGu M a lg mt cm bs gv) {lg' mt' : Int32} : zGu (mset M a (oGuid (a + 1) (a + 2) (a + 3) lg' mt')) a lg' mt' cm bs gv := ⟨h.1, mget_self, (mget_ne (by omega)).trans h.2.2.1, (mget_ne (by omega)).trans h.2.2.2.1, (mget_ne (by omega)).trans h.2.2.2.2⟩
def gW (cm bs : Nat → Int32) (k t l : Nat) : Int32 := if cm (k * 5 + l) = -9 then -1 else if t.testBit l = true then -1 else 100 - cm (k * 5 + l) + bs ((k + 1) * 32 + (t ||| 2 ^ l))
def gN (bs : Nat → Int32) (k t : Nat) : Int32 := bs ((k + 1) * 32 + t)
def gM (cm bs : Nat → Int32) (k t : Nat) : Nat → Int32 × Int32
  | 0 => (9, -1)
  | l + 1 => if gW cm bs k t l ≤ (gM cm bs k t l).2 then gM cm bs k t l else (nI l, gW cm bs k t l)
def gCh (cm bs : Nat → Int32) (k t : Nat) : Int32 := if gN bs k t ≤ (gM cm bs k t 5).2 then (gM cm bs k t 5).1 else 9
def gV (cm bs : Nat → Int32) (k t : Nat) : Int32 := if gCh cm bs k t = 9 then gN bs k t else gW cm bs k t (gCh cm bs k t).toNatClampNeg
section GU
variable {M : zMem} {a : Nat} {lg mt : Int32} {cm bs gv : Nat → Int32}
theorem g_comingOf (h : zGu M a lg mt cm bs gv) {k l : Nat} (hk : k < 5) (hl : l < 5) : ev 6 0 [some (.ref a), some (.int (nI k)), some (.int (nI l)), none] [] M = some (some (.int (cm (k * 5 + l))), M) := by
  obtain ⟨ha, h1, h2, h3, h4⟩ := h
  have g1 : ¬ nI 25 ≤ nI (k * 5 + l) := ni_nle (by omega) (by omega)
  have g2 : ¬ nI (k * 5 + l) < 0 := nI_pos (by omega)
  have g3 := zia_in (n := 25) (f := cm) (show k * 5 + l < 25 by omega) (by omega)
  simp only [e6_0, e6_1, e6_2, e6_3, e6_4, e6_5, e6_6, e6_7, e6_10, e6_11, e6_11n, e6_12, e6_15, e6_16, e6_19, e6_19n, e6_20, e6_23, e6_24, e6_25, e6_28, e6_30, ↓reduceIte, zth_v, zth_n, zthv_s, zthi_s, zthm_s, true_or, or_true, eq_self, ne_eq, not_false_eq_true, not_true_eq_false, and_self, and_true, true_and, false_and, and_false, foGuid_0, foGuid_1, foGuid_2, foGuid_3, foGuid_4, poGuid_3, poGuid_4, coGuid, h1, h2, ha, zal_i, g1, g2, g3, n5]
theorem g_bestFrom (h : zGu M a lg mt cm bs gv) {k t : Nat} (hk : k < 6) (ht : t < 32) : ev 7 0 [some (.ref a), some (.int (nI k)), some (.int (nI t)), none] [] M = some (some (.int (bs (k * 32 + t))), M) := by
  obtain ⟨ha, h1, h2, h3, h4⟩ := h
  have g1 : ¬ nI 192 ≤ nI (k * 32 + t) := ni_nle (by omega) (by omega)
  have g2 : ¬ nI (k * 32 + t) < 0 := nI_pos (by omega)
  have g3 := zia_in (n := 192) (f := bs) (show k * 32 + t < 192 by omega) (by omega)
  simp only [e7_0, e7_1, e7_3, e7_4, e7_5, e7_6, e7_7, e7_8, e7_11, e7_12, e7_12n, e7_13, e7_16, e7_17, e7_20, e7_20n, e7_21, e7_24, e7_25, e7_26, e7_29, e7_30, ↓reduceIte, zth_v, zth_n, zthv_s, zthi_s, zthm_s, true_or, or_true, eq_self, ne_eq, not_false_eq_true, not_true_eq_false, and_self, and_true, true_and, false_and, and_false, foGuid_0, foGuid_1, foGuid_2, foGuid_3, foGuid_4, poGuid_3, poGuid_4, coGuid, h1, h3, ha, zal_i, g1, g2, g3, n32]
theorem g_setBest (h : zGu M a lg mt cm bs gv) {k t : Nat} (hk : k < 5) (ht : t < 32) {x : Int32} : ev 8 0 [some (.ref a), some (.int (nI k)), some (.int (nI t)), some (.int x), none] [] M = some (none, mset M (a + 2) (.inl (192, upd bs (k * 32 + t) x))) := by
  obtain ⟨ha, h1, h2, h3, h4⟩ := h
  have g1 : ¬ nI 192 ≤ nI (k * 32 + t) := ni_nle (by omega) (by omega)
  have g2 : ¬ nI (k * 32 + t) < 0 := nI_pos (by omega)
  have g3 := zis_in (n := 192) (f := bs) (x := x) (show k * 32 + t < 192 by omega) (by omega)
  have g4 : a + 2 ≠ 0 := by omega
  simp only [e8_0, e8_1, e8_3, e8_4, e8_5, e8_6, e8_8, e8_10, e8_13, e8_15, e8_15n, e8_16, e8_19, e8_20, e8_23, e8_23n, e8_24, e8_27, e8_29, e8_30, e8_31, ↓reduceIte, zth_v, zth_n, zthv_s, zthi_s, zthm_s, true_or, or_true, eq_self, ne_eq, not_false_eq_true, not_true_eq_false, and_self, and_true, true_and, false_and, and_false, foGuid_0, foGuid_1, foGuid_2, foGuid_3, foGuid_4, poGuid_3, poGuid_4, coGuid, h1, h3, ha, zal_i, g1, g2, g3, g4, n32]
theorem g_landGivenTo_in (h : zGu M a lg mt cm bs gv) {k : Nat} (hk : k < 5) : ev 9 0 [some (.ref a), some (.int (nI k))] [] M = some (some (.int (gv k)), M) := by
  obtain ⟨ha, h1, h2, h3, h4⟩ := h
  have g1 : ¬ nI 5 ≤ nI k := ni_nle (by omega) (by omega)
  have g2 : ¬ nI k < 0 := nI_pos (by omega)
  have g3 := zia_in (n := 5) (f := gv) hk (by omega)
  simp only [e9_0, e9_1, e9_4, e9_5, e9_5n, e9_6, e9_9, e9_10, e9_13, e9_13n, e9_14, e9_17, e9_18, e9_19, e9_22, e9_24, ↓reduceIte, zth_v, zth_n, zthv_s, zthi_s, zthm_s, true_or, or_true, eq_self, ne_eq, not_false_eq_true, not_true_eq_false, and_self, and_true, true_and, false_and, and_false, foGuid_0, foGuid_1, foGuid_2, foGuid_3, foGuid_4, poGuid_3, poGuid_4, coGuid, h1, h4, ha, zal_i, g1, g2, g3]
theorem g_worth_none (h : zGu M a lg mt cm bs gv) {k t : Nat} (hk : k < 5) (ht : t < 32) : ev 5 0 [some (.ref a), some (.int (nI k)), some (.int (nI t)), some (.int 9), none] [] M = some (some (.int (gN bs k t)), M) := by
  have h9 := g_bestFrom h (k := k + 1) (by omega) ht
  obtain ⟨ha, h1, h2, h3, h4⟩ := h
  simp only [e5_0, e5_1, e5_3, e5_6, e5_6n, e5_7, e5_8, e5_9, e5_10, e5_11, e5_14, e5_15, e5_15n, e5_16, e5_17, e5_18, e5_21, e5_23, e5_25, e5_27, e5_30, e5_31, e5_32, e5_33, e5_34, e5_35, e5_36, e5_39, e5_40, e5_41, e5_43, e5_45, e5_46, e5_46n, e5_47, e5_48, e5_49, e5_50, e5_51, e5_52, e5_53, e5_54, e5_55, e5_58, e5_59, ↓reduceIte, zth_v, zth_n, zthv_s, zthi_s, zthm_s, true_or, or_true, eq_self, ne_eq, not_false_eq_true, not_true_eq_false, and_self, and_true, true_and, false_and, and_false, foGuid_0, foGuid_1, foGuid_2, foGuid_3, foGuid_4, poGuid_3, poGuid_4, coGuid, h1, ha, nI_1, h9, gN]
theorem g_worth_in (h : zGu M a lg mt cm bs gv) {k t l : Nat} (hk : k < 5) (ht : t < 32) (hl : l < 5) : ev 5 0 [some (.ref a), some (.int (nI k)), some (.int (nI t)), some (.int (nI l)), none] [] M = some (some (.int (gW cm bs k t l)), M) := by
  have h9 := g_bestFrom h (k := k + 1) (t := t ||| 2 ^ l) (by omega) (bt_lt t ht l hl)
  have h8 := g_comingOf h hk hl
  obtain ⟨ha, h1, h2, h3, h4⟩ := h
  have g1 : ¬ nI l = 9 := fun z => by have := (nI_eq (a := l) (b := 9) (by omega) (by omega)).mp z; omega
  simp only [e5_0, e5_1, e5_3, e5_6, e5_6n, e5_7, e5_8, e5_9, e5_10, e5_11, e5_14, e5_15, e5_15n, e5_16, e5_17, e5_18, e5_21, e5_23, e5_25, e5_27, e5_30, e5_31, e5_32, e5_33, e5_34, e5_35, e5_36, e5_39, e5_40, e5_41, e5_43, e5_45, e5_46, e5_46n, e5_47, e5_48, e5_49, e5_50, e5_51, e5_52, e5_53, e5_54, e5_55, e5_58, e5_59, ↓reduceIte, zth_v, zth_n, zthv_s, zthi_s, zthm_s, true_or, or_true, eq_self, ne_eq, not_false_eq_true, not_true_eq_false, and_self, and_true, true_and, false_and, and_false, foGuid_0, foGuid_1, foGuid_2, foGuid_3, foGuid_4, poGuid_3, poGuid_4, coGuid, h1, ha, nI_1, h9, h8, g1, bt_get t ht l hl, bt_or t ht l hl, gW]
  split
  · rfl
  · split <;> rfl
theorem g_choice_loop (h : zGu M a lg mt cm bs gv) {k t : Nat} (hk : k < 5) (ht : t < 32) : ∀ n j d, j + n = 5 → ev 4 9 [some (.ref a), some (.int (nI k)), some (.int (nI t)), some (.int (gM cm bs k t j).1), some (.int (gM cm bs k t j).2), some (.int (nI j)), d] [] M = some (some (.int (gCh cm bs k t)), M) := by
  have h9 := fun l (hl : l < 5) => g_worth_in h hk ht hl
  have h8 := g_worth_none h hk ht
  obtain ⟨ha, h1, h2, h3, h4⟩ := h
  intro n
  induction n with
  | zero =>
    intro j d hj
    obtain rfl : j = 5 := by omega
    have g1 : (5 : Int32) ≤ nI 5 := by decide
    simp only [e4_0, e4_2, e4_3, e4_4, e4_6, e4_7, e4_9, e4_11, e4_12, e4_15, e4_15n, e4_16, e4_17, e4_18, e4_20, e4_23, e4_25, e4_27, e4_29, e4_32, e4_34, e4_35, e4_37, e4_39, e4_42, e4_45, e4_45n, e4_46, e4_47, e4_48, e4_50, e4_53, e4_55, e4_58, e4_60, e4_63, e4_64, ↓reduceIte, zth_v, zth_n, zthv_s, zthi_s, zthm_s, true_or, or_true, eq_self, ne_eq, not_false_eq_true, not_true_eq_false, and_self, and_true, true_and, false_and, and_false, foGuid_0, foGuid_1, foGuid_2, foGuid_3, foGuid_4, poGuid_3, poGuid_4, coGuid, h1, ha, g1, h8, gCh]
    split <;> rfl
  | succ n ih =>
    intro j d hj
    have g1 : ¬ (5 : Int32) ≤ nI j := ni_nle (b := 5) (by omega) (by omega)
    have ih := ih (j + 1) (some (.int (gW cm bs k t j))) (by omega)
    rw [e4_9]
    simp only [e4_0, e4_2, e4_3, e4_4, e4_6, e4_7, e4_11, e4_12, e4_15, e4_15n, e4_16, e4_17, e4_18, e4_20, e4_23, e4_25, e4_27, e4_29, e4_32, e4_34, e4_35, e4_37, e4_39, e4_42, e4_45, e4_45n, e4_46, e4_47, e4_48, e4_50, e4_53, e4_55, e4_58, e4_60, e4_63, e4_64, ↓reduceIte, zth_v, zth_n, zthv_s, zthi_s, zthm_s, true_or, or_true, eq_self, ne_eq, not_false_eq_true, not_true_eq_false, and_self, and_true, true_and, false_and, and_false, foGuid_0, foGuid_1, foGuid_2, foGuid_3, foGuid_4, poGuid_3, poGuid_4, coGuid, h1, ha, g1, h9 j (by omega), nI_1]
    rw [← ih, gM]
    split <;> rfl
theorem g_choice (h : zGu M a lg mt cm bs gv) {k t : Nat} (hk : k < 5) (ht : t < 32) : ev 4 0 [some (.ref a), some (.int (nI k)), some (.int (nI t)), none, none, none, none] [] M = some (some (.int (gCh cm bs k t)), M) := by
  have h9 := g_choice_loop h hk ht 5 0 none (by omega)
  simp only [gM, nI_0] at h9
  simp only [e4_0, e4_2, e4_3, e4_4, e4_6, e4_7, e4_11, e4_12, e4_15, e4_15n, e4_16, e4_17, e4_18, e4_20, e4_23, e4_25, e4_27, e4_29, e4_32, e4_34, e4_35, e4_37, e4_39, e4_42, e4_45, e4_45n, e4_46, e4_47, e4_48, e4_50, e4_53, e4_55, e4_58, e4_60, e4_63, e4_64, ↓reduceIte, zth_v, zth_n, zthv_s, zthi_s, zthm_s, true_or, or_true, eq_self, ne_eq, not_false_eq_true, not_true_eq_false, and_self, and_true, true_and, false_and, and_false]
  exact h9
theorem gM_fst (k t : Nat) : ∀ j, j ≤ 5 → (gM cm bs k t j).1 = 9 ∨ ∃ l, l < j ∧ (gM cm bs k t j).1 = nI l := by
  intro j
  induction j with
  | zero => intro _; exact Or.inl rfl
  | succ j ih =>
    intro hj
    rw [gM]
    split
    · rcases ih (by omega) with e | ⟨l, hl, e⟩
      · exact Or.inl e
      · exact Or.inr ⟨l, by omega, e⟩
    · exact Or.inr ⟨j, by omega, rfl⟩
theorem gCh_or (cm bs : Nat → Int32) (k t : Nat) : gCh cm bs k t = 9 ∨ ∃ l, l < 5 ∧ gCh cm bs k t = nI l := by
  unfold gCh
  split
  · exact gM_fst k t 5 (by omega)
  · exact Or.inl rfl
theorem g_worth_choice (h : zGu M a lg mt cm bs gv) {k t : Nat} (hk : k < 5) (ht : t < 32) : ev 5 0 [some (.ref a), some (.int (nI k)), some (.int (nI t)), some (.int (gCh cm bs k t)), none] [] M = some (some (.int (gV cm bs k t)), M) := by
  unfold gV
  rcases gCh_or cm bs k t with e | ⟨l, hl, e⟩
  · rw [if_pos e, e]
    exact g_worth_none h hk ht
  · have g1 : ¬ nI l = 9 := fun z => by have := (nI_eq (a := l) (b := 9) (by omega) (by omega)).mp z; omega
    rw [e, if_neg g1, nI_clamp (by omega)]
    exact g_worth_in h hk ht hl
end GU
