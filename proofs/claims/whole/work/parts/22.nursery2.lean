/-! The class's nurseries: loops over riders and minutes -/
theorem zNur.setN {M : zMem} {B : Nat} {c : Int32} {nl nr : Nat} {m : Int32} {F : Nat → Int32} {r : Nat → zRD} (h : zNur M B c nl nr m F r) {c' m' : Int32} {nl' nr' : Nat} (g1 : nl' ≤ 5) (g2 : nr' ≤ 5) : zNur (mset M B (oNur (B + 1) (B + 2) c' (nI nl') (nI nr') m')) B c' nl' nr' m' F r := by
  obtain ⟨hB, hl, hr, h1, h2, ⟨g, h3, hg⟩, h4, h5⟩ := h
  exact ⟨hB, g1, g2, mget_self, by rw [mget_ne (by omega)]; exact h2, ⟨g, by rw [mget_ne (by omega)]; exact h3, hg⟩, fun j hj => by rw [mget_ne (by omega)]; exact h4 j hj, h5⟩
theorem zNur.setF {M : zMem} {B : Nat} {c : Int32} {nl nr : Nat} {m : Int32} {F : Nat → Int32} {r : Nat → zRD} (h : zNur M B c nl nr m F r) {F' : Nat → Int32} : zNur (mset M (B + 1) (.inl (5, F'))) B c nl nr m F' r := by
  obtain ⟨hB, hl, hr, h1, h2, ⟨g, h3, hg⟩, h4, h5⟩ := h
  exact ⟨hB, hl, hr, by rw [mget_ne (by omega)]; exact h1, mget_self, ⟨g, by rw [mget_ne (by omega)]; exact h3, hg⟩, fun j hj => by rw [mget_ne (by omega)]; exact h4 j hj, h5⟩
def rAfter (r : Nat → zRD) (j : Nat) : Nat → zRD := fun i => if i < j then rMin (r i) else r i
def zlooks (r : Nat → zRD) : Nat → Int32
  | 0 => 0
  | j + 1 => if rLook (r j) = 0 then zlooks r j else zlooks r j + 1
theorem rAfter_0 (r : Nat → zRD) : rAfter r 0 = r := by
  funext i
  unfold rAfter
  rw [if_neg (by omega)]
theorem rAfter_s (r : Nat → zRD) (j : Nat) : va_up (rAfter r j) j (rMin (r j)) = rAfter r (j + 1) := by
  funext i
  unfold va_up rAfter
  by_cases e : i = j
  · subst e
    rw [if_pos rfl, if_pos (by omega)]
  · rw [if_neg e]
    by_cases e2 : i < j
    · rw [if_pos e2, if_pos (by omega)]
    · rw [if_neg e2, if_neg (by omega)]
theorem rAfter_at (r : Nat → zRD) (j : Nat) : rAfter r j j = r j := by
  unfold rAfter
  rw [if_neg (by omega)]
theorem n_pass_loop {B nl nr : Nat} {c m : Int32} {F : Nat → Int32} (r : Nat → zRD) : ∀ (k j : Nat) (M : zMem) (d : Option Value), j + k = nr → zNur M B c nl nr m F (rAfter r j) →
    ∃ M', ev 26 4 [some (.ref B), some (.int (zlooks r j)), some (.int (nI j)), d] [] M = some (some (.int (zlooks r nr)), M') ∧ zNur M' B c nl nr (m + 1) F (rAfter r nr) ∧ zFr M M' B (B + 7) := by
  intro k
  induction k with
  | zero =>
    intro j M d hj h
    obtain rfl : j = nr := by omega
    have hn := h.setN (c' := c) (m' := m + 1) h.2.1 h.2.2.1
    obtain ⟨hB, hl, hr, h1, h2, ⟨g, h3, hg⟩, h4, h5⟩ := h
    have g1 : nI j ≤ nI j := ni_ge (Nat.le_refl _) (by omega)
    refine ⟨_, ?_, hn, zFr.rf.set (Nat.le_refl _) (by omega)⟩
    simp only [e26_0, e26_1, e26_2, e26_3, e26_4, e26_5, e26_5n, e26_6, e26_9, e26_12, e26_12n, e26_13, e26_14, e26_17, e26_17n, e26_18, e26_18n, e26_19, e26_19n, e26_22, e26_22n, e26_23, e26_26, e26_29, e26_32, e26_35, e26_38, e26_38n, e26_39, e26_40, e26_43, e26_44, e26_45, e26_48, e26_49, ↓reduceIte, zth_v, zth_n, zthv_s, zthi_s, zthm_s, true_or, or_true, eq_self, ne_eq, not_false_eq_true, not_true_eq_false, and_self, and_true, true_and, false_and, and_false, foNur_0, foNur_1, foNur_2, foNur_3, foNur_4, foNur_5, poNur_2, poNur_3, poNur_4, poNur_5, coNur, h1, hB, g1]
  | succ k ih =>
    intro j M d hj h
    have h9 := n_riderAt_in h (j := j) (by omega)
    have h8 := t_passesMinute (h.2.2.2.2.2.2.1 j (by have := h.2.2.1; omega)) (show B + 3 + j ≠ 0 by omega)
    have h7 := h.setR (j := j) (q := rMin (rAfter r j j)) (by have := h.2.2.1; omega) (rOk_min (h.2.2.2.2.2.2.2 j (by have := h.2.2.1; omega)))
    rw [rAfter_at] at h8 h7
    rw [rAfter_s] at h7
    obtain ⟨M', i1, i2, i3⟩ := ih (j + 1) _ (some (.ref (B + 3 + j))) (by omega) h7
    have h40 := h.2.2.2.2.2.2.1 j (by have := h.2.2.1; omega)
    obtain ⟨hB, hl, hr, h1, h2, ⟨g, h3, hg⟩, h4, h5⟩ := h
    have g1 : ¬ nI nr ≤ nI j := ni_nle (by omega) (by omega)
    have g3 : B + 3 + j ≠ 0 := by omega
    refine ⟨M', ?_, i2, zFr.tr (zFr.rf.set (by omega) (by omega)) i3⟩
    rw [e26_4]
    simp only [e26_0, e26_1, e26_2, e26_3, e26_5, e26_5n, e26_6, e26_9, e26_12, e26_12n, e26_13, e26_14, e26_17, e26_17n, e26_18, e26_18n, e26_19, e26_19n, e26_22, e26_22n, e26_23, e26_26, e26_29, e26_32, e26_35, e26_38, e26_38n, e26_39, e26_40, e26_43, e26_44, e26_45, e26_48, e26_49, ↓reduceIte, zth_v, zth_n, zthv_s, zthi_s, zthm_s, true_or, or_true, eq_self, ne_eq, not_false_eq_true, not_true_eq_false, and_self, and_true, true_and, false_and, and_false, foNur_0, foNur_1, foNur_2, foNur_3, foNur_4, foNur_5, poNur_2, poNur_3, poNur_4, poNur_5, coNur, foRid_0, foRid_1, foRid_2, foRid_3, foRid_4, foRid_5, poRid_0, poRid_1, poRid_2, poRid_3, poRid_4, poRid_5a, poRid_5b, coRid, h1, hB, g1, h9, g3, h40, h8, nI_1]
    rw [← i1, zlooks]
    split <;> rfl
theorem n_passMinute {M : zMem} {B nl nr : Nat} {c m : Int32} {F : Nat → Int32} {r : Nat → zRD} (h : zNur M B c nl nr m F r) :
    ∃ M', ev 26 0 [some (.ref B), none, none, none] [] M = some (some (.int (zlooks r nr)), M') ∧ zNur M' B c nl nr (m + 1) F (rAfter r nr) ∧ zFr M M' B (B + 7) := by
  obtain ⟨M', i1, i2, i3⟩ := n_pass_loop (nr := nr) r nr 0 M none (by omega) (by rw [rAfter_0]; exact h)
  refine ⟨M', ?_, i2, i3⟩
  simp only [e26_0, e26_1, e26_2, e26_3, e26_5, e26_5n, e26_6, e26_9, e26_12, e26_12n, e26_13, e26_14, e26_17, e26_17n, e26_18, e26_18n, e26_19, e26_19n, e26_22, e26_22n, e26_23, e26_26, e26_29, e26_32, e26_35, e26_38, e26_38n, e26_39, e26_40, e26_43, e26_44, e26_45, e26_48, e26_49, ↓reduceIte, zth_v, zth_n, zthv_s, zthi_s, zthm_s, true_or, or_true, eq_self, ne_eq, not_false_eq_true, not_true_eq_false, and_self, and_true, true_and, false_and, and_false]
  exact i1
/-- the least of k places from m on of which g says true; -9: none -/
def zcA (g : Nat → Bool) : Nat → Nat → Int32
  | 0, _ => -9
  | k + 1, m => if g m = true then nI m else zcA g k (m + 1)
def zgo (c : Int32) (F : Nat → Int32) (q : zRD) (land : Nat) (m : Nat) : Bool := decide (F land ≤ zquo (nI m * zpace q.1 q.2.1) c)
def zcome (c : Int32) (F : Nat → Int32) (q : zRD) (t land : Nat) : Int32 := zcA (zgo c F q land) t 1
def zbit (k : Nat) : Int32 := 1 <<< (nI k &&& 31)
section NUR2
variable {M : zMem} {B nl nr : Nat} {c m : Int32} {F : Nat → Int32} {r : Nat → zRD}
theorem n_coming_loop (h : zNur M B c nl nr m F r) {a : Nat} {q : zRD} (h' : mget M a = some (oRid q)) (ha : a ≠ 0) {t : Nat} (ht : q.2.2.1 = nI t) (ht9 : t ≤ 9) {land : Nat} (hl : land < nl) : ∀ k j, j + k = t + 1 → ev 27 2 [some (.ref B), some (.ref a), some (.int (nI land)), some (.int (nI j))] [] M = some (some (.int (zcA (zgo c F q land) k j)), M) := by
  have h9 := fun n => n_milesBehind h h' ha (n := n)
  have h8 := n_farOf_in h hl
  have hB := h.1
  have hz : zoc (mget M B) = some 1 := by rw [h.2.2.2.1]; exact coNur
  intro k
  induction k with
  | zero =>
    intro j hj
    have g1 : nI t < nI j := nI_lt (by omega) (by omega)
    rw [e27_2]
    simp only [e27_0, e27_1, e27_3, e27_3n, e27_4, e27_7, e27_10, e27_10n, e27_11, e27_11n, e27_12, e27_13, e27_16, e27_16n, e27_17, e27_18, e27_21, e27_24, e27_25, e27_26, e27_29, e27_32, e27_34, ↓reduceIte, zth_v, zth_n, zthv_s, zthi_s, zthm_s, true_or, or_true, eq_self, ne_eq, not_false_eq_true, not_true_eq_false, and_self, and_true, true_and, false_and, and_false, foRid_0, foRid_1, foRid_2, foRid_3, foRid_4, foRid_5, poRid_0, poRid_1, poRid_2, poRid_3, poRid_4, poRid_5a, poRid_5b, coRid, h', ha, ht, g1, zcA]
  | succ k ih =>
    intro j hj
    have g1 : ¬ nI t < nI j := nI_nlt (by omega) (by omega)
    have ih := ih (j + 1) (by omega)
    rw [e27_2]
    simp only [e27_0, e27_1, e27_3, e27_3n, e27_4, e27_7, e27_10, e27_10n, e27_11, e27_11n, e27_12, e27_13, e27_16, e27_16n, e27_17, e27_18, e27_21, e27_24, e27_25, e27_26, e27_29, e27_32, e27_34, ↓reduceIte, zth_v, zth_n, zthv_s, zthi_s, zthm_s, true_or, or_true, eq_self, ne_eq, not_false_eq_true, not_true_eq_false, and_self, and_true, true_and, false_and, and_false, foRid_0, foRid_1, foRid_2, foRid_3, foRid_4, foRid_5, poRid_0, poRid_1, poRid_2, poRid_3, poRid_4, poRid_5a, poRid_5b, coRid, h', ha, hB, hz, ht, g1, h9, h8, nI_1, zcA]
    rw [ih]
    by_cases q1 : zquo (nI j * zpace q.1 q.2.1) c < F land
    · rw [if_pos q1, if_neg (by unfold zgo; rw [decide_eq_true_eq]; exact Int32.not_le.mpr q1)]
    · rw [if_neg q1, if_pos (by unfold zgo; rw [decide_eq_true_eq]; exact Int32.not_lt.mp q1)]
theorem n_comingOf (h : zNur M B c nl nr m F r) {a : Nat} {q : zRD} (h' : mget M a = some (oRid q)) (ha : a ≠ 0) {t : Nat} (ht : q.2.2.1 = nI t) (ht9 : t ≤ 9) {land : Nat} (hl : land < nl) : ev 27 0 [some (.ref B), some (.ref a), some (.int (nI land)), none] [] M = some (some (.int (zcome c F q t land)), M) := by
  have h9 := n_coming_loop h h' ha ht ht9 hl t 1 (by omega)
  simp only [e27_0, e27_1, e27_3, e27_3n, e27_4, e27_7, e27_10, e27_10n, e27_11, e27_11n, e27_12, e27_13, e27_16, e27_16n, e27_17, e27_18, e27_21, e27_24, e27_25, e27_26, e27_29, e27_32, e27_34, ↓reduceIte, zth_v, zth_n, zthv_s, zthi_s, zthm_s, true_or, or_true, eq_self, ne_eq, not_false_eq_true, not_true_eq_false, and_self, and_true, true_and, false_and, and_false]
  exact h9
-- which lands one comes to
def zreach (cm : Nat → Int32) : Nat → Int32
  | 0 => 0
  | l + 1 => if cm l = -9 then zreach cm l else zreach cm l ||| zbit l
theorem n_reach_loop (h : zNur M B c nl nr m F r) {a : Nat} {q : zRD} (h' : mget M a = some (oRid q)) (ha : a ≠ 0) {t : Nat} (ht : q.2.2.1 = nI t) (ht9 : t ≤ 9) : ∀ k j, j + k = nl → ev 31 4 [some (.ref B), some (.ref a), some (.int (zreach (zcome c F q t) j)), some (.int (nI j))] [] M = some (some (.int (zreach (zcome c F q t) nl)), M) := by
  have h9 := fun land (hl : land < nl) => n_comingOf h h' ha ht ht9 hl
  obtain ⟨hB, hl, hr, h1, h2, ⟨g, h3, hg⟩, h4, h5⟩ := h
  intro k
  induction k with
  | zero =>
    intro j hj
    obtain rfl : j = nl := by omega
    have g1 : nI j ≤ nI j := ni_ge (Nat.le_refl _) (by omega)
    simp only [e31_0, e31_1, e31_2, e31_3, e31_4, e31_5, e31_5n, e31_6, e31_9, e31_12, e31_12n, e31_13, e31_13n, e31_14, e31_15, e31_18, e31_20, e31_23, e31_24, e31_25, e31_26, e31_27, e31_28, e31_29, e31_32, e31_35, e31_36, ↓reduceIte, zth_v, zth_n, zthv_s, zthi_s, zthm_s, true_or, or_true, eq_self, ne_eq, not_false_eq_true, not_true_eq_false, and_self, and_true, true_and, false_and, and_false, foNur_0, foNur_1, foNur_2, foNur_3, foNur_4, foNur_5, poNur_2, poNur_3, poNur_4, poNur_5, coNur, h1, hB, g1]
  | succ k ih =>
    intro j hj
    have g1 : ¬ nI nl ≤ nI j := ni_nle (by omega) (by omega)
    have ih := ih (j + 1) (by omega)
    rw [e31_4]
    simp only [e31_0, e31_1, e31_2, e31_3, e31_5, e31_5n, e31_6, e31_9, e31_12, e31_12n, e31_13, e31_13n, e31_14, e31_15, e31_18, e31_20, e31_23, e31_24, e31_25, e31_26, e31_27, e31_28, e31_29, e31_32, e31_35, e31_36, ↓reduceIte, zth_v, zth_n, zthv_s, zthi_s, zthm_s, true_or, or_true, eq_self, ne_eq, not_false_eq_true, not_true_eq_false, and_self, and_true, true_and, false_and, and_false, foNur_0, foNur_1, foNur_2, foNur_3, foNur_4, foNur_5, poNur_2, poNur_3, poNur_4, poNur_5, coNur, h1, hB, g1, h9 j (by omega), nI_1]
    rw [← ih, zreach, zbit]
    split <;> rfl
theorem n_landsReachedBy (h : zNur M B c nl nr m F r) {a : Nat} {q : zRD} (h' : mget M a = some (oRid q)) (ha : a ≠ 0) {t : Nat} (ht : q.2.2.1 = nI t) (ht9 : t ≤ 9) : ev 31 0 [some (.ref B), some (.ref a), none, none] [] M = some (some (.int (zreach (zcome c F q t) nl)), M) := by
  have h9 := n_reach_loop h h' ha ht ht9 nl 0 (by omega)
  simp only [e31_0, e31_1, e31_2, e31_3, e31_5, e31_5n, e31_6, e31_9, e31_12, e31_12n, e31_13, e31_13n, e31_14, e31_15, e31_18, e31_20, e31_23, e31_24, e31_25, e31_26, e31_27, e31_28, e31_29, e31_32, e31_35, e31_36, ↓reduceIte, zth_v, zth_n, zthv_s, zthi_s, zthm_s, true_or, or_true, eq_self, ne_eq, not_false_eq_true, not_true_eq_false, and_self, and_true, true_and, false_and, and_false]
  exact h9
def zcomeBy (set : Int32) (rc : Nat → Int32) : Nat → Int32
  | 0 => 0
  | k + 1 => if (set >>> (nI k &&& 31)) &&& 1 = 1 then zcomeBy set rc k ||| rc k else zcomeBy set rc k
theorem n_comeBy_loop (h : zNur M B c nl nr m F r) {T : Nat → Nat} (hT : ∀ j, j < nr → (r j).2.2.1 = nI (T j) ∧ T j ≤ 9) {set : Int32} : ∀ k j d, j + k = nr → ev 30 4 [some (.ref B), some (.int set), some (.int (zcomeBy set (fun j => zreach (zcome c F (r j) (T j)) nl) j)), some (.int (nI j)), d] [] M = some (some (.int (zcomeBy set (fun j => zreach (zcome c F (r j) (T j)) nl) nr)), M) := by
  have h9 := fun j (hj : j < nr) => n_riderAt_in h hj
  have h8 := fun j (hj : j < nr) => n_landsReachedBy h (h.2.2.2.2.2.2.1 j (by have := h.2.2.1; omega)) (show B + 3 + j ≠ 0 by omega) (hT j hj).1 (hT j hj).2
  obtain ⟨hB, hl, hr, h1, h2, ⟨g, h3, hg⟩, h4, h5⟩ := h
  intro k
  induction k with
  | zero =>
    intro j d hj
    obtain rfl : j = nr := by omega
    have g1 : nI j ≤ nI j := ni_ge (Nat.le_refl _) (by omega)
    simp only [e30_0, e30_1, e30_2, e30_3, e30_4, e30_5, e30_5n, e30_6, e30_9, e30_12, e30_12n, e30_13, e30_14, e30_17, e30_17n, e30_19, e30_19n, e30_21, e30_21n, e30_24, e30_25, e30_26, e30_27, e30_28, e30_29, e30_30, e30_33, e30_34, e30_34n, e30_35, e30_35n, e30_37, e30_40, e30_41, e30_42, e30_45, e30_48, e30_49, ↓reduceIte, zth_v, zth_n, zthv_s, zthi_s, zthm_s, true_or, or_true, eq_self, ne_eq, not_false_eq_true, not_true_eq_false, and_self, and_true, true_and, false_and, and_false, foNur_0, foNur_1, foNur_2, foNur_3, foNur_4, foNur_5, poNur_2, poNur_3, poNur_4, poNur_5, coNur, h1, hB, g1]
  | succ k ih =>
    intro j d hj
    have g1 : ¬ nI nr ≤ nI j := ni_nle (by omega) (by omega)
    have ih := ih (j + 1) (some (.ref (B + 3 + j))) (by omega)
    rw [e30_4]
    simp only [e30_0, e30_1, e30_2, e30_3, e30_5, e30_5n, e30_6, e30_9, e30_12, e30_12n, e30_13, e30_14, e30_17, e30_17n, e30_19, e30_19n, e30_21, e30_21n, e30_24, e30_25, e30_26, e30_27, e30_28, e30_29, e30_30, e30_33, e30_34, e30_34n, e30_35, e30_35n, e30_37, e30_40, e30_41, e30_42, e30_45, e30_48, e30_49, ↓reduceIte, zth_v, zth_n, zthv_s, zthi_s, zthm_s, true_or, or_true, eq_self, ne_eq, not_false_eq_true, not_true_eq_false, and_self, and_true, true_and, false_and, and_false, foNur_0, foNur_1, foNur_2, foNur_3, foNur_4, foNur_5, poNur_2, poNur_3, poNur_4, poNur_5, coNur, h1, hB, g1, h9 j (by omega), h8 j (by omega), nI_1]
    rw [← ih, zcomeBy]
    split <;> rfl
theorem n_landsComeToBy (h : zNur M B c nl nr m F r) {T : Nat → Nat} (hT : ∀ j, j < nr → (r j).2.2.1 = nI (T j) ∧ T j ≤ 9) {set : Int32} : ev 30 0 [some (.ref B), some (.int set), none, none, none] [] M = some (some (.int (zcomeBy set (fun j => zreach (zcome c F (r j) (T j)) nl) nr)), M) := by
  have h9 := n_comeBy_loop h hT (set := set) nr 0 none (by omega)
  simp only [e30_0, e30_1, e30_2, e30_3, e30_5, e30_5n, e30_6, e30_9, e30_12, e30_12n, e30_13, e30_14, e30_17, e30_17n, e30_19, e30_19n, e30_21, e30_21n, e30_24, e30_25, e30_26, e30_27, e30_28, e30_29, e30_30, e30_33, e30_34, e30_34n, e30_35, e30_35n, e30_37, e30_40, e30_41, e30_42, e30_45, e30_48, e30_49, ↓reduceIte, zth_v, zth_n, zthv_s, zthi_s, zthm_s, true_or, or_true, eq_self, ne_eq, not_false_eq_true, not_true_eq_false, and_self, and_true, true_and, false_and, and_false]
  exact h9
def zlat (cm : Nat → Int32) : Nat → Nat → Int32 → Int32
  | 0, _, acc => acc
  | k + 1, j, acc => if cm j = -9 then -9 else zlat cm k (j + 1) (if acc < cm j then cm j else acc)
theorem n_latest_loop (h : zNur M B c nl nr m F r) {T : Nat → Nat} (hT : ∀ j, j < nr → (r j).2.2.1 = nI (T j) ∧ T j ≤ 9) {land : Nat} (hl9 : land < nl) : ∀ k j acc d d', j + k = nr → ev 29 4 [some (.ref B), some (.int (nI land)), some (.int acc), some (.int (nI j)), d, d'] [] M = some (some (.int (zlat (fun j => zcome c F (r j) (T j) land) k j acc)), M) := by
  have h9 := fun j (hj : j < nr) => n_riderAt_in h hj
  have h8 := fun j (hj : j < nr) => n_comingOf h (h.2.2.2.2.2.2.1 j (by have := h.2.2.1; omega)) (show B + 3 + j ≠ 0 by omega) (hT j hj).1 (hT j hj).2 hl9
  obtain ⟨hB, hl, hr, h1, h2, ⟨g, h3, hg⟩, h4, h5⟩ := h
  intro k
  induction k with
  | zero =>
    intro j acc d d' hj
    obtain rfl : j = nr := by omega
    have g1 : nI j ≤ nI j := ni_ge (Nat.le_refl _) (by omega)
    simp only [e29_0, e29_1, e29_2, e29_3, e29_4, e29_5, e29_5n, e29_6, e29_9, e29_12, e29_12n, e29_13, e29_14, e29_17, e29_17n, e29_19, e29_19n, e29_21, e29_21n, e29_24, e29_26, e29_29, e29_29n, e29_30, e29_30n, e29_32, e29_33, e29_36, e29_38, e29_40, e29_42, e29_45, e29_47, e29_48, e29_49, e29_51, e29_54, e29_55, e29_58, e29_61, e29_62, ↓reduceIte, zth_v, zth_n, zthv_s, zthi_s, zthm_s, true_or, or_true, eq_self, ne_eq, not_false_eq_true, not_true_eq_false, and_self, and_true, true_and, false_and, and_false, foNur_0, foNur_1, foNur_2, foNur_3, foNur_4, foNur_5, poNur_2, poNur_3, poNur_4, poNur_5, coNur, h1, hB, g1, zlat]
  | succ k ih =>
    intro j acc d d' hj
    have g1 : ¬ nI nr ≤ nI j := ni_nle (by omega) (by omega)
    have ih := fun acc d d' => ih (j + 1) acc d d' (by omega)
    rw [e29_4]
    simp only [e29_0, e29_1, e29_2, e29_3, e29_5, e29_5n, e29_6, e29_9, e29_12, e29_12n, e29_13, e29_14, e29_17, e29_17n, e29_19, e29_19n, e29_21, e29_21n, e29_24, e29_26, e29_29, e29_29n, e29_30, e29_30n, e29_32, e29_33, e29_36, e29_38, e29_40, e29_42, e29_45, e29_47, e29_48, e29_49, e29_51, e29_54, e29_55, e29_58, e29_61, e29_62, ↓reduceIte, zth_v, zth_n, zthv_s, zthi_s, zthm_s, true_or, or_true, eq_self, ne_eq, not_false_eq_true, not_true_eq_false, and_self, and_true, true_and, false_and, and_false, foNur_0, foNur_1, foNur_2, foNur_3, foNur_4, foNur_5, poNur_2, poNur_3, poNur_4, poNur_5, coNur, h1, hB, g1, h9 j (by omega), h8 j (by omega), nI_1, ih, zlat]
    split <;> rfl
theorem n_latestComing (h : zNur M B c nl nr m F r) {T : Nat → Nat} (hT : ∀ j, j < nr → (r j).2.2.1 = nI (T j) ∧ T j ≤ 9) {land : Nat} (hl9 : land < nl) : ev 29 0 [some (.ref B), some (.int (nI land)), none, none, none, none] [] M = some (some (.int (zlat (fun j => zcome c F (r j) (T j) land) nr 0 0)), M) := by
  have h9 := n_latest_loop h hT hl9 nr 0 0 none none (by omega)
  simp only [e29_0, e29_1, e29_2, e29_3, e29_5, e29_5n, e29_6, e29_9, e29_12, e29_12n, e29_13, e29_14, e29_17, e29_17n, e29_19, e29_19n, e29_21, e29_21n, e29_24, e29_26, e29_29, e29_29n, e29_30, e29_30n, e29_32, e29_33, e29_36, e29_38, e29_40, e29_42, e29_45, e29_47, e29_48, e29_49, e29_51, e29_54, e29_55, e29_58, e29_61, e29_62, ↓reduceIte, zth_v, zth_n, zthv_s, zthi_s, zthm_s, true_or, or_true, eq_self, ne_eq, not_false_eq_true, not_true_eq_false, and_self, and_true, true_and, false_and, and_false]
  exact h9
def zcnt (g : Nat → Bool) : Nat → Int32
  | 0 => 0
  | k + 1 => if g (k + 1) = true then zcnt g k + 1 else zcnt g k
def zlandIs (c : Int32) (F : Nat → Int32) (nl : Nat) (q : zRD) (land : Int32) (n : Nat) : Bool := decide (zland F nl (zquo (nI n * zpace q.1 q.2.1) c) = land)
theorem n_minutesIn_loop (h : zNur M B c nl nr m F r) {a : Nat} {q : zRD} (h' : mget M a = some (oRid q)) (ha : a ≠ 0) {t : Nat} (ht : q.2.2.1 = nI t) (ht9 : t ≤ 9) {land : Int32} : ∀ k j, j + k = t → ev 32 5 [some (.ref B), some (.ref a), some (.int land), some (.int (zcnt (zlandIs c F nl q land) j)), some (.int (nI (j + 1)))] [] M = some (some (.int (zcnt (zlandIs c F nl q land) t)), M) := by
  have h9 := fun n => n_milesBehind h h' ha (n := n)
  have h8 := fun v => n_landAt h (v := v)
  have hB := h.1
  have hz : zoc (mget M B) = some 1 := by rw [h.2.2.2.1]; exact coNur
  intro k
  induction k with
  | zero =>
    intro j hj
    obtain rfl : j = t := by omega
    have g1 : nI j < nI (j + 1) := nI_lt (by omega) (by omega)
    rw [e32_5]
    simp only [e32_0, e32_1, e32_2, e32_3, e32_7, e32_7n, e32_8, e32_11, e32_14, e32_14n, e32_15, e32_15n, e32_16, e32_16n, e32_17, e32_19, e32_22, e32_25, e32_26, e32_29, e32_32, e32_35, e32_38, e32_39, ↓reduceIte, zth_v, zth_n, zthv_s, zthi_s, zthm_s, true_or, or_true, eq_self, ne_eq, not_false_eq_true, not_true_eq_false, and_self, and_true, true_and, false_and, and_false, foRid_0, foRid_1, foRid_2, foRid_3, foRid_4, foRid_5, poRid_0, poRid_1, poRid_2, poRid_3, poRid_4, poRid_5a, poRid_5b, coRid, h', ha, ht, g1]
  | succ k ih =>
    intro j hj
    have g1 : ¬ nI t < nI (j + 1) := nI_nlt (by omega) (by omega)
    have ih := ih (j + 1) (by omega)
    rw [e32_5]
    simp only [e32_0, e32_1, e32_2, e32_3, e32_7, e32_7n, e32_8, e32_11, e32_14, e32_14n, e32_15, e32_15n, e32_16, e32_16n, e32_17, e32_19, e32_22, e32_25, e32_26, e32_29, e32_32, e32_35, e32_38, e32_39, ↓reduceIte, zth_v, zth_n, zthv_s, zthi_s, zthm_s, true_or, or_true, eq_self, ne_eq, not_false_eq_true, not_true_eq_false, and_self, and_true, true_and, false_and, and_false, foRid_0, foRid_1, foRid_2, foRid_3, foRid_4, foRid_5, poRid_0, poRid_1, poRid_2, poRid_3, poRid_4, poRid_5a, poRid_5b, coRid, h', ha, hB, hz, ht, g1, h9, h8, nI_1 (j + 1)]
    rw [← ih, zcnt]
    unfold zlandIs
    simp only [decide_eq_true_eq]
    split <;> rfl
theorem n_minutesIn (h : zNur M B c nl nr m F r) {a : Nat} {q : zRD} (h' : mget M a = some (oRid q)) (ha : a ≠ 0) {t : Nat} (ht : q.2.2.1 = nI t) (ht9 : t ≤ 9) {land : Int32} : ev 32 0 [some (.ref B), some (.ref a), some (.int land), none, none] [] M = some (some (.int (zcnt (zlandIs c F nl q land) t)), M) := by
  have h9 := n_minutesIn_loop h h' ha ht ht9 (land := land) t 0 (by omega)
  simp only [e32_0, e32_1, e32_2, e32_3, e32_7, e32_7n, e32_8, e32_11, e32_14, e32_14n, e32_15, e32_15n, e32_16, e32_16n, e32_17, e32_19, e32_22, e32_25, e32_26, e32_29, e32_32, e32_35, e32_38, e32_39, ↓reduceIte, zth_v, zth_n, zthv_s, zthi_s, zthm_s, true_or, or_true, eq_self, ne_eq, not_false_eq_true, not_true_eq_false, and_self, and_true, true_and, false_and, and_false]
  exact h9
-- sets and counts over riders
def zshut (r : Nat → zRD) : Nat → Int32
  | 0 => 0
  | j + 1 => if (r j).2.2.2.2.2 = 0 then zshut r j else zshut r j ||| zbit j
theorem n_shut_loop (h : zNur M B c nl nr m F r) : ∀ k j d, j + k = nr → ev 25 4 [some (.ref B), some (.int (zshut r j)), some (.int (nI j)), d] [] M = some (some (.int (zshut r nr)), M) := by
  have h9 := fun j (hj : j < nr) => n_riderAt_in h hj
  obtain ⟨hB, hl, hr, h1, h2, ⟨g, h3, hg⟩, h4, h5⟩ := h
  intro k
  induction k with
  | zero =>
    intro j d hj
    obtain rfl : j = nr := by omega
    have g1 : nI j ≤ nI j := ni_ge (Nat.le_refl _) (by omega)
    simp only [e25_0, e25_1, e25_2, e25_3, e25_4, e25_5, e25_5n, e25_6, e25_9, e25_12, e25_12n, e25_13, e25_14, e25_17, e25_17n, e25_18, e25_18n, e25_19, e25_19n, e25_22, e25_22n, e25_23, e25_26, e25_29, e25_30, e25_31, e25_32, e25_33, e25_34, e25_35, e25_38, e25_41, e25_42, ↓reduceIte, zth_v, zth_n, zthv_s, zthi_s, zthm_s, true_or, or_true, eq_self, ne_eq, not_false_eq_true, not_true_eq_false, and_self, and_true, true_and, false_and, and_false, foNur_0, foNur_1, foNur_2, foNur_3, foNur_4, foNur_5, poNur_2, poNur_3, poNur_4, poNur_5, coNur, h1, hB, g1]
  | succ k ih =>
    intro j d hj
    have g1 : ¬ nI nr ≤ nI j := ni_nle (by omega) (by omega)
    have g3 : B + 3 + j ≠ 0 := by omega
    have ih := ih (j + 1) (some (.ref (B + 3 + j))) (by omega)
    rw [e25_4]
    simp only [e25_0, e25_1, e25_2, e25_3, e25_5, e25_5n, e25_6, e25_9, e25_12, e25_12n, e25_13, e25_14, e25_17, e25_17n, e25_18, e25_18n, e25_19, e25_19n, e25_22, e25_22n, e25_23, e25_26, e25_29, e25_30, e25_31, e25_32, e25_33, e25_34, e25_35, e25_38, e25_41, e25_42, ↓reduceIte, zth_v, zth_n, zthv_s, zthi_s, zthm_s, true_or, or_true, eq_self, ne_eq, not_false_eq_true, not_true_eq_false, and_self, and_true, true_and, false_and, and_false, foNur_0, foNur_1, foNur_2, foNur_3, foNur_4, foNur_5, poNur_2, poNur_3, poNur_4, poNur_5, coNur, foRid_0, foRid_1, foRid_2, foRid_3, foRid_4, foRid_5, poRid_0, poRid_1, poRid_2, poRid_3, poRid_4, poRid_5a, poRid_5b, coRid, h1, hB, g1, h9 j (by omega), h4 j (by omega), g3, nI_1]
    rw [← ih, zshut, zbit]
    split <;> rfl
theorem n_whoseEyesAreShut (h : zNur M B c nl nr m F r) : ev 25 0 [some (.ref B), none, none, none] [] M = some (some (.int (zshut r nr)), M) := by
  have h9 := n_shut_loop h nr 0 none (by omega)
  simp only [e25_0, e25_1, e25_2, e25_3, e25_5, e25_5n, e25_6, e25_9, e25_12, e25_12n, e25_13, e25_14, e25_17, e25_17n, e25_18, e25_18n, e25_19, e25_19n, e25_22, e25_22n, e25_23, e25_26, e25_29, e25_30, e25_31, e25_32, e25_33, e25_34, e25_35, e25_38, e25_41, e25_42, ↓reduceIte, zth_v, zth_n, zthv_s, zthi_s, zthm_s, true_or, or_true, eq_self, ne_eq, not_false_eq_true, not_true_eq_false, and_self, and_true, true_and, false_and, and_false]
  exact h9
def zlandR (c : Int32) (F : Nat → Int32) (nl : Nat) (q : zRD) : Int32 := zland F nl (zquo q.2.2.2.1 c)
def zany (ld : Nat → Int32) : Nat → Int32
  | 0 => 0
  | j + 1 => if ld j = -9 then zany ld j else zany ld j ||| (1 <<< (ld j &&& 31))
def zhow (ld : Nat → Int32) : Nat → Int32
  | 0 => 0
  | j + 1 => if ld j = -9 then zhow ld j else zhow ld j + 1
theorem n_any_loop (h : zNur M B c nl nr m F r) : ∀ k j d d', j + k = nr → ev 24 4 [some (.ref B), some (.int (zany (fun j => zlandR c F nl (r j)) j)), some (.int (nI j)), d, d'] [] M = some (some (.int (zany (fun j => zlandR c F nl (r j)) nr)), M) := by
  have h9 := fun j (hj : j < nr) => n_riderAt_in h hj
  have h8 := fun j (hj : j < nr) => n_milesOf h (h.2.2.2.2.2.2.1 j (by have := h.2.2.1; omega)) (show B + 3 + j ≠ 0 by omega)
  have h7 := fun v => n_landAt h (v := v)
  obtain ⟨hB, hl, hr, h1, h2, ⟨g, h3, hg⟩, h4, h5⟩ := h
  intro k
  induction k with
  | zero =>
    intro j d d' hj
    obtain rfl : j = nr := by omega
    have g1 : nI j ≤ nI j := ni_ge (Nat.le_refl _) (by omega)
    simp only [e24_0, e24_1, e24_2, e24_3, e24_4, e24_5, e24_5n, e24_6, e24_9, e24_12, e24_12n, e24_13, e24_14, e24_17, e24_17n, e24_18, e24_18n, e24_19, e24_19n, e24_22, e24_24, e24_27, e24_27n, e24_28, e24_28n, e24_29, e24_29n, e24_30, e24_33, e24_36, e24_38, e24_40, e24_42, e24_45, e24_46, e24_47, e24_49, e24_50, e24_51, e24_52, e24_55, e24_58, e24_59, ↓reduceIte, zth_v, zth_n, zthv_s, zthi_s, zthm_s, true_or, or_true, eq_self, ne_eq, not_false_eq_true, not_true_eq_false, and_self, and_true, true_and, false_and, and_false, foNur_0, foNur_1, foNur_2, foNur_3, foNur_4, foNur_5, poNur_2, poNur_3, poNur_4, poNur_5, coNur, h1, hB, g1]
  | succ k ih =>
    intro j d d' hj
    have g1 : ¬ nI nr ≤ nI j := ni_nle (by omega) (by omega)
    have ih := ih (j + 1) (some (.ref (B + 3 + j))) (some (.int (zlandR c F nl (r j)))) (by omega)
    rw [e24_4]
    simp only [e24_0, e24_1, e24_2, e24_3, e24_5, e24_5n, e24_6, e24_9, e24_12, e24_12n, e24_13, e24_14, e24_17, e24_17n, e24_18, e24_18n, e24_19, e24_19n, e24_22, e24_24, e24_27, e24_27n, e24_28, e24_28n, e24_29, e24_29n, e24_30, e24_33, e24_36, e24_38, e24_40, e24_42, e24_45, e24_46, e24_47, e24_49, e24_50, e24_51, e24_52, e24_55, e24_58, e24_59, ↓reduceIte, zth_v, zth_n, zthv_s, zthi_s, zthm_s, true_or, or_true, eq_self, ne_eq, not_false_eq_true, not_true_eq_false, and_self, and_true, true_and, false_and, and_false, foNur_0, foNur_1, foNur_2, foNur_3, foNur_4, foNur_5, poNur_2, poNur_3, poNur_4, poNur_5, coNur, h1, hB, g1, h9 j (by omega), h8 j (by omega), h7, nI_1]
    rw [← ih, zany]
    unfold zlandR
    split <;> rfl
theorem n_landsWithAnybody (h : zNur M B c nl nr m F r) : ev 24 0 [some (.ref B), none, none, none, none] [] M = some (some (.int (zany (fun j => zlandR c F nl (r j)) nr)), M) := by
  have h9 := n_any_loop h nr 0 none none (by omega)
  simp only [e24_0, e24_1, e24_2, e24_3, e24_5, e24_5n, e24_6, e24_9, e24_12, e24_12n, e24_13, e24_14, e24_17, e24_17n, e24_18, e24_18n, e24_19, e24_19n, e24_22, e24_24, e24_27, e24_27n, e24_28, e24_28n, e24_29, e24_29n, e24_30, e24_33, e24_36, e24_38, e24_40, e24_42, e24_45, e24_46, e24_47, e24_49, e24_50, e24_51, e24_52, e24_55, e24_58, e24_59, ↓reduceIte, zth_v, zth_n, zthv_s, zthi_s, zthm_s, true_or, or_true, eq_self, ne_eq, not_false_eq_true, not_true_eq_false, and_self, and_true, true_and, false_and, and_false]
  exact h9
theorem n_how_loop (h : zNur M B c nl nr m F r) : ∀ k j d, j + k = nr → ev 23 4 [some (.ref B), some (.int (zhow (fun j => zlandR c F nl (r j)) j)), some (.int (nI j)), d] [] M = some (some (.int (zhow (fun j => zlandR c F nl (r j)) nr)), M) := by
  have h9 := fun j (hj : j < nr) => n_riderAt_in h hj
  have h8 := fun j (hj : j < nr) => n_landOf h (h.2.2.2.2.2.2.1 j (by have := h.2.2.1; omega)) (show B + 3 + j ≠ 0 by omega)
  obtain ⟨hB, hl, hr, h1, h2, ⟨g, h3, hg⟩, h4, h5⟩ := h
  intro k
  induction k with
  | zero =>
    intro j d hj
    obtain rfl : j = nr := by omega
    have g1 : nI j ≤ nI j := ni_ge (Nat.le_refl _) (by omega)
    simp only [e23_0, e23_1, e23_2, e23_3, e23_4, e23_5, e23_5n, e23_6, e23_9, e23_12, e23_12n, e23_13, e23_14, e23_17, e23_17n, e23_18, e23_18n, e23_19, e23_19n, e23_22, e23_22n, e23_23, e23_23n, e23_24, e23_27, e23_29, e23_32, e23_35, e23_38, e23_41, e23_42, ↓reduceIte, zth_v, zth_n, zthv_s, zthi_s, zthm_s, true_or, or_true, eq_self, ne_eq, not_false_eq_true, not_true_eq_false, and_self, and_true, true_and, false_and, and_false, foNur_0, foNur_1, foNur_2, foNur_3, foNur_4, foNur_5, poNur_2, poNur_3, poNur_4, poNur_5, coNur, h1, hB, g1]
  | succ k ih =>
    intro j d hj
    have g1 : ¬ nI nr ≤ nI j := ni_nle (by omega) (by omega)
    have ih := ih (j + 1) (some (.ref (B + 3 + j))) (by omega)
    rw [e23_4]
    simp only [e23_0, e23_1, e23_2, e23_3, e23_5, e23_5n, e23_6, e23_9, e23_12, e23_12n, e23_13, e23_14, e23_17, e23_17n, e23_18, e23_18n, e23_19, e23_19n, e23_22, e23_22n, e23_23, e23_23n, e23_24, e23_27, e23_29, e23_32, e23_35, e23_38, e23_41, e23_42, ↓reduceIte, zth_v, zth_n, zthv_s, zthi_s, zthm_s, true_or, or_true, eq_self, ne_eq, not_false_eq_true, not_true_eq_false, and_self, and_true, true_and, false_and, and_false, foNur_0, foNur_1, foNur_2, foNur_3, foNur_4, foNur_5, poNur_2, poNur_3, poNur_4, poNur_5, coNur, h1, hB, g1, h9 j (by omega), h8 j (by omega), nI_1]
    rw [← ih, zhow]
    unfold zlandR
    split <;> rfl
theorem n_howMany (h : zNur M B c nl nr m F r) : ev 23 0 [some (.ref B), none, none, none] [] M = some (some (.int (zhow (fun j => zlandR c F nl (r j)) nr)), M) := by
  have h9 := n_how_loop h nr 0 none (by omega)
  simp only [e23_0, e23_1, e23_2, e23_3, e23_5, e23_5n, e23_6, e23_9, e23_12, e23_12n, e23_13, e23_14, e23_17, e23_17n, e23_18, e23_18n, e23_19, e23_19n, e23_22, e23_22n, e23_23, e23_23n, e23_24, e23_27, e23_29, e23_32, e23_35, e23_38, e23_41, e23_42, ↓reduceIte, zth_v, zth_n, zthv_s, zthi_s, zthm_s, true_or, or_true, eq_self, ne_eq, not_false_eq_true, not_true_eq_false, and_self, and_true, true_and, false_and, and_false]
  exact h9
end NUR2
