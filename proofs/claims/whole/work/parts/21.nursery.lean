/-! The class's riders and nurseries: reads -/
def zpace (k l : Int32) : Int32 := if k = 0 then l else if k = 1 then l + 1 else 2 * (l + 1)
def zquo (w q : Int32) : Int32 := if q < 1 then 0 else w / q
def zFr (M M' : zMem) (lo hi : Nat) : Prop := M'.1 = M.1 ∧ M'.2.1 = M.2.1 ∧ ∀ a, (a < lo ∨ hi < a) → mget M' a = mget M a
theorem zFr.rf {M : zMem} {lo hi : Nat} : zFr M M lo hi := ⟨rfl, rfl, fun _ _ => rfl⟩
theorem zFr.tr {M M1 M2 : zMem} {lo hi : Nat} (h : zFr M M1 lo hi) (h' : zFr M1 M2 lo hi) : zFr M M2 lo hi := ⟨h'.1.trans h.1, h'.2.1.trans h.2.1, fun a ha => (h'.2.2 a ha).trans (h.2.2 a ha)⟩
theorem zFr.set {M M1 : zMem} {lo hi a : Nat} {c : zPC} (h : zFr M M1 lo hi) (h1 : lo ≤ a) (h2 : a ≤ hi) : zFr M (mset M1 a c) lo hi := ⟨h.1, h.2.1, fun b hb => (mget_ne (by omega)).trans (h.2.2 b hb)⟩
theorem zFr.mono {M M' : zMem} {lo hi lo' hi' : Nat} (h : zFr M M' lo hi) (h1 : lo' ≤ lo) (h2 : hi ≤ hi') : zFr M M' lo' hi' := ⟨h.1, h.2.1, fun a ha => h.2.2 a (by omega)⟩
theorem i10 : ((1 : Int32) = 0) = False := by decide
theorem i01 : ((0 : Int32) = 1) = False := by decide
theorem i00 : ((0 : Int32) = 0) = True := by decide
theorem i11 : ((1 : Int32) = 1) = True := by decide
theorem t_pace {M : zMem} {k l : Int32} : ev 116 0 [some (.int k), some (.int l)] [] M = some (some (.int (zpace k l)), M) := by
  simp only [e116_0, e116_1, e116_4, e116_5, e116_6, e116_7, e116_8, e116_11, e116_12, e116_13, e116_14, e116_17, e116_18, e116_19, e116_20, e116_21, e116_22, ↓reduceIte, zth_v, zth_n, zthv_s, zthi_s, zthm_s, true_or, or_true, eq_self, ne_eq, not_false_eq_true, not_true_eq_false, and_self, and_true, true_and, false_and, and_false, zpace]
  split
  · rfl
  · split <;> rfl
theorem t_quot {M : zMem} {w q : Int32} : ev 117 0 [some (.int w), some (.int q)] [] M = some (some (.int (zquo w q)), M) := by
  simp only [e117_0, e117_1, e117_2, e117_5, e117_6, e117_9, e117_10, e117_11, e117_12, ↓reduceIte, zth_v, zth_n, zthv_s, zthi_s, zthm_s, true_or, or_true, eq_self, ne_eq, not_false_eq_true, not_true_eq_false, and_self, and_true, true_and, false_and, and_false, zquo]
  by_cases h : q < 1
  · rw [if_neg (Int32.not_le.mpr h), if_pos h]
  · have h0 : ¬ q = 0 := fun z => h (by rw [z]; decide)
    rw [if_pos (Int32.not_lt.mp h), if_neg h, if_neg h0]
-- a rider
def rLook (q : zRD) : Int32 := if q.2.2.2.2.2 = 0 then 0 else if q.2.2.2.2.1 < q.2.2.1 then 0 else 1
def rUp (q : zRD) : zRD := (q.1, q.2.1, q.2.2.1, 0, 0, 0)
def rShut (q : zRD) : zRD := (q.1, q.2.1, q.2.2.1, q.2.2.2.1, 0, 1)
def rMin (q : zRD) : zRD := if q.2.2.2.2.2 = 0 then q else if q.2.2.2.2.1 < q.2.2.1 then (q.1, q.2.1, q.2.2.1, q.2.2.2.1 + zpace q.1 q.2.1, q.2.2.2.2.1 + 1, q.2.2.2.2.2) else rUp q
def rOk (q : zRD) : Prop := q.2.2.2.2.2 = 0 ∨ q.2.2.2.2.2 = 1
theorem rOk_up (q : zRD) : rOk (rUp q) := Or.inl rfl
theorem rOk_shut (q : zRD) : rOk (rShut q) := Or.inr rfl
theorem rOk_min {q : zRD} (h : rOk q) : rOk (rMin q) := by
  unfold rMin
  split
  · exact h
  · split
    · exact h
    · exact Or.inl rfl
section RID
variable {M : zMem} {a : Nat} {q : zRD}
theorem t_looksUp (h : mget M a = some (oRid q)) (ha : a ≠ 0) : ev 42 0 [some (.ref a)] [] M = some (none, mset M a (oRid (rUp q))) := by
  simp only [e42_0, e42_0n, e42_1, e42_2, e42_5, e42_5n, e42_6, e42_7, e42_10, e42_10n, e42_11, e42_12, e42_15, ↓reduceIte, zth_v, zth_n, zthv_s, zthi_s, zthm_s, true_or, or_true, eq_self, ne_eq, not_false_eq_true, not_true_eq_false, and_self, and_true, true_and, false_and, and_false, foRid_0, foRid_1, foRid_2, foRid_3, foRid_4, foRid_5, poRid_0, poRid_1, poRid_2, poRid_3, poRid_4, poRid_5a, poRid_5b, coRid, h, ha, mget_self, mset_mset, rUp]
theorem t_shutsEyes (h : mget M a = some (oRid q)) (ha : a ≠ 0) : ev 41 0 [some (.ref a)] [] M = some (none, mset M a (oRid (rShut q))) := by
  simp only [e41_0, e41_0n, e41_1, e41_2, e41_5, e41_5n, e41_6, e41_7, e41_10, ↓reduceIte, zth_v, zth_n, zthv_s, zthi_s, zthm_s, true_or, or_true, eq_self, ne_eq, not_false_eq_true, not_true_eq_false, and_self, and_true, true_and, false_and, and_false, foRid_0, foRid_1, foRid_2, foRid_3, foRid_4, foRid_5, poRid_0, poRid_1, poRid_2, poRid_3, poRid_4, poRid_5a, poRid_5b, coRid, h, ha, mget_self, mset_mset, rShut]
theorem t_becomesNew (h : mget M a = some (oRid q)) (ha : a ≠ 0) {k l t : Int32} : ev 39 0 [some (.ref a), some (.int k), some (.int l), some (.int t)] [] M = some (none, mset M a (oRid (k, l, t, 0, 0, 0))) := by
  have h9 : ∀ {M : zMem} {q : zRD}, mget M a = some (oRid q) → ev 42 0 [some (.ref a)] [] M = some (none, mset M a (oRid (rUp q))) := fun z => t_looksUp z ha
  simp only [e39_0, e39_0n, e39_1, e39_2, e39_5, e39_5n, e39_6, e39_7, e39_10, e39_10n, e39_11, e39_12, e39_15, e39_15n, e39_16, e39_19, ↓reduceIte, zth_v, zth_n, zthv_s, zthi_s, zthm_s, true_or, or_true, eq_self, ne_eq, not_false_eq_true, not_true_eq_false, and_self, and_true, true_and, false_and, and_false, foRid_0, foRid_1, foRid_2, foRid_3, foRid_4, foRid_5, poRid_0, poRid_1, poRid_2, poRid_3, poRid_4, poRid_5a, poRid_5b, coRid, h, ha, mget_self, mset_mset]
  rw [h9 (q := (k, l, t, q.2.2.2.1, q.2.2.2.2.1, q.2.2.2.2.2)) mget_self]
  simp only [e39_0, e39_0n, e39_1, e39_2, e39_5, e39_5n, e39_6, e39_7, e39_10, e39_10n, e39_11, e39_12, e39_15, e39_15n, e39_16, e39_19, ↓reduceIte, zth_v, zth_n, zthv_s, zthi_s, zthm_s, true_or, or_true, eq_self, ne_eq, not_false_eq_true, not_true_eq_false, and_self, and_true, true_and, false_and, and_false, mset_mset, rUp]
theorem t_riderLike (h : mget M a = some (oRid q)) (ha : a ≠ 0) {b : Nat} {w : zRD} (h' : mget M b = some (oRid w)) (hb : b ≠ 0) (hne : b ≠ a) (hw : rOk w) : ev 40 0 [some (.ref a), some (.ref b)] [] M = some (none, mset M a (oRid w)) := by
  simp only [e40_0, e40_0n, e40_1, e40_1n, e40_2, e40_5, e40_8, e40_8n, e40_9, e40_9n, e40_10, e40_13, e40_16, e40_16n, e40_17, e40_17n, e40_18, e40_21, e40_24, e40_24n, e40_25, e40_25n, e40_26, e40_29, e40_32, e40_32n, e40_33, e40_33n, e40_34, e40_37, e40_40, e40_40n, e40_41, e40_41n, e40_42, e40_45, e40_48, ↓reduceIte, zth_v, zth_n, zthv_s, zthi_s, zthm_s, true_or, or_true, eq_self, ne_eq, not_false_eq_true, not_true_eq_false, and_self, and_true, true_and, false_and, and_false, foRid_0, foRid_1, foRid_2, foRid_3, foRid_4, foRid_5, poRid_0, poRid_1, poRid_2, poRid_3, poRid_4, poRid_5a, poRid_5b, coRid, h, h', ha, hb, hne, mget_self, mset_mset, mget_set]
  rw [poRid_5 hw]
  simp only [e40_0, e40_0n, e40_1, e40_1n, e40_2, e40_5, e40_8, e40_8n, e40_9, e40_9n, e40_10, e40_13, e40_16, e40_16n, e40_17, e40_17n, e40_18, e40_21, e40_24, e40_24n, e40_25, e40_25n, e40_26, e40_29, e40_32, e40_32n, e40_33, e40_33n, e40_34, e40_37, e40_40, e40_40n, e40_41, e40_41n, e40_42, e40_45, e40_48, ↓reduceIte, zth_v, zth_n, zthv_s, zthi_s, zthm_s, true_or, or_true, eq_self, ne_eq, not_false_eq_true, not_true_eq_false, and_self, and_true, true_and, false_and, and_false, mset_mset]
theorem t_passesMinute (h : mget M a = some (oRid q)) (ha : a ≠ 0) : ev 43 0 [some (.ref a)] [] M = some (some (.int (rLook q)), mset M a (oRid (rMin q))) := by
  have h9 := t_looksUp h ha
  simp only [e43_0, e43_0n, e43_1, e43_4, e43_7, e43_8, e43_9, e43_9n, e43_10, e43_13, e43_13n, e43_14, e43_17, e43_20, e43_20n, e43_21, e43_24, e43_25, e43_26, e43_26n, e43_27, e43_28, e43_31, e43_31n, e43_32, e43_35, e43_35n, e43_36, e43_39, e43_42, e43_43, e43_46, e43_46n, e43_47, e43_48, e43_51, e43_52, e43_53, e43_56, e43_57, ↓reduceIte, zth_v, zth_n, zthv_s, zthi_s, zthm_s, true_or, or_true, eq_self, ne_eq, not_false_eq_true, not_true_eq_false, and_self, and_true, true_and, false_and, and_false, foRid_0, foRid_1, foRid_2, foRid_3, foRid_4, foRid_5, poRid_0, poRid_1, poRid_2, poRid_3, poRid_4, poRid_5a, poRid_5b, coRid, h, ha, mget_self, mset_mset, h9, t_pace, rLook, rMin]
  by_cases h1 : q.2.2.2.2.2 = 0
  · rw [if_pos h1, if_pos h1, if_pos h1, mset_same h]
  · rw [if_neg h1, if_neg h1, if_neg h1]
    by_cases h2 : q.2.2.2.2.1 < q.2.2.1
    · rw [if_pos h2, if_pos h2, if_pos h2]
    · rw [if_neg h2, if_neg h2, if_neg h2]
end RID
-- a nursery
def zNur (M : zMem) (B : Nat) (c : Int32) (nl nr : Nat) (m : Int32) (F : Nat → Int32) (r : Nat → zRD) : Prop :=
  B ≠ 0 ∧ nl ≤ 5 ∧ nr ≤ 5 ∧ mget M B = some (oNur (B + 1) (B + 2) c (nI nl) (nI nr) m) ∧ mget M (B + 1) = some (.inl (5, F)) ∧ (∃ g, mget M (B + 2) = some (.inr (.inl (3, 5, g))) ∧ ∀ j, j < 5 → g j = some (B + 3 + j)) ∧ (∀ j, j < 5 → mget M (B + 3 + j) = some (oRid (r j))) ∧ ∀ j, j < 5 → rOk (r j)
theorem zNur.fr {M M' : zMem} {B : Nat} {c : Int32} {nl nr : Nat} {m : Int32} {F : Nat → Int32} {r : Nat → zRD} (h : zNur M B c nl nr m F r) (hf : ∀ a, B ≤ a → a ≤ B + 7 → mget M' a = mget M a) : zNur M' B c nl nr m F r := by
  obtain ⟨hB, hl, hr, h1, h2, ⟨g, h3, hg⟩, h4, h5⟩ := h
  exact ⟨hB, hl, hr, by rw [hf _ (by omega) (by omega)]; exact h1, by rw [hf _ (by omega) (by omega)]; exact h2, ⟨g, by rw [hf _ (by omega) (by omega)]; exact h3, hg⟩, fun j hj => by rw [hf _ (by omega) (by omega)]; exact h4 j hj, h5⟩
theorem zNur.setR {M : zMem} {B : Nat} {c : Int32} {nl nr : Nat} {m : Int32} {F : Nat → Int32} {r : Nat → zRD} (h : zNur M B c nl nr m F r) {j : Nat} (hj : j < 5) {q : zRD} (hq : rOk q) : zNur (mset M (B + 3 + j) (oRid q)) B c nl nr m F (va_up r j q) := by
  obtain ⟨hB, hl, hr, h1, h2, ⟨g, h3, hg⟩, h4, h5⟩ := h
  refine ⟨hB, hl, hr, by rw [mget_ne (by omega)]; exact h1, by rw [mget_ne (by omega)]; exact h2, ⟨g, by rw [mget_ne (by omega)]; exact h3, hg⟩, fun i hi => ?_, fun i hi => ?_⟩
  · by_cases e : i = j
    · subst e
      rw [mget_self, va_up_self]
    · rw [mget_ne (by omega), va_up_ne _ _ e]
      exact h4 i hi
  · by_cases e : i = j
    · subst e
      rw [va_up_self]; exact hq
    · rw [va_up_ne _ _ e]; exact h5 i hi
def zlA (F : Nat → Int32) (v : Int32) : Nat → Int32 × Int32
  | 0 => (-9, 0)
  | j + 1 => if v < F j then zlA F v j else if F j ≤ (zlA F v j).2 then zlA F v j else (nI j, F j)
def zland (F : Nat → Int32) (nl : Nat) (v : Int32) : Int32 := (zlA F v nl).1
section NUR
variable {M : zMem} {B nl nr : Nat} {c m : Int32} {F : Nat → Int32} {r : Nat → zRD}
theorem n_riderAt_in (h : zNur M B c nl nr m F r) {j : Nat} (hj : j < nr) : ev 16 0 [some (.ref B), some (.int (nI j))] [] M = some (some (.ref (B + 3 + j)), M) := by
  obtain ⟨hB, hl, hr, h1, h2, ⟨g, h3, hg⟩, h4, h5⟩ := h
  have g1 : ¬ nI nr ≤ nI j := ni_nle hj (by omega)
  have g2 : ¬ nI 5 ≤ nI j := ni_nle (by omega) (by omega)
  have g3 : ¬ nI j < 0 := nI_pos (by omega)
  have g4 := zaa_in (k := 3) (n := 5) (f := g) (show j < 5 by omega) (by omega)
  have hB2 : B + 2 ≠ 0 := by omega
  simp only [e16_0, e16_1, e16_4, e16_5, e16_5n, e16_6, e16_9, e16_12, e16_13, e16_13n, e16_14, e16_17, e16_18, e16_21, e16_21n, e16_22, e16_25, e16_26, e16_27, e16_30, e16_31, e16_31n, ↓reduceIte, zth_v, zth_n, zthv_s, zthi_s, zthm_s, true_or, or_true, eq_self, ne_eq, not_false_eq_true, not_true_eq_false, and_self, and_true, true_and, false_and, and_false, foNur_0, foNur_1, foNur_2, foNur_3, foNur_4, foNur_5, poNur_2, poNur_3, poNur_4, poNur_5, coNur, h1, h3, hB, hB2, zal_r, g1, g2, g3, g4, hg j (by omega), va_rf_s]
theorem n_riderAt_out (h : zNur M B c nl nr m F r) {i : Int32} (hj : i < 0 ∨ nI nr ≤ i) : ev 16 0 [some (.ref B), some (.int i)] [] M = some (some .null, M) := by
  obtain ⟨hB, hl, hr, h1, h2, ⟨g, h3, hg⟩, h4, h5⟩ := h
  have hB2 : B + 2 ≠ 0 := by omega
  simp only [e16_0, e16_1, e16_4, e16_5, e16_5n, e16_6, e16_9, e16_12, e16_13, e16_13n, e16_14, e16_17, e16_18, e16_21, e16_21n, e16_22, e16_25, e16_26, e16_27, e16_30, e16_31, e16_31n, ↓reduceIte, zth_v, zth_n, zthv_s, zthi_s, zthm_s, true_or, or_true, eq_self, ne_eq, not_false_eq_true, not_true_eq_false, and_self, and_true, true_and, false_and, and_false, foNur_0, foNur_1, foNur_2, foNur_3, foNur_4, foNur_5, poNur_2, poNur_3, poNur_4, poNur_5, coNur, h1, h3, hB, hB2, zal_r]
  by_cases q : i < 0
  · rw [if_pos q]
  · rw [if_neg q, if_pos (hj.resolve_left q)]
theorem n_isLand_in (h : zNur M B c nl nr m F r) {j : Nat} (hj : j < nl) : ev 17 0 [some (.ref B), some (.int (nI j))] [] M = some (some (.int 1), M) := by
  obtain ⟨hB, hl, hr, h1, h2, ⟨g, h3, hg⟩, h4, h5⟩ := h
  have g1 : ¬ nI nl ≤ nI j := ni_nle hj (by omega)
  have g2 : ¬ nI 5 ≤ nI j := ni_nle (by omega) (by omega)
  have g3 : ¬ nI j < 0 := nI_pos (by omega)
  simp only [e17_0, e17_1, e17_4, e17_5, e17_5n, e17_6, e17_9, e17_12, e17_13, e17_13n, e17_14, e17_17, e17_18, e17_21, e17_22, e17_25, e17_26, ↓reduceIte, zth_v, zth_n, zthv_s, zthi_s, zthm_s, true_or, or_true, eq_self, ne_eq, not_false_eq_true, not_true_eq_false, and_self, and_true, true_and, false_and, and_false, foNur_0, foNur_1, foNur_2, foNur_3, foNur_4, foNur_5, poNur_2, poNur_3, poNur_4, poNur_5, coNur, h1, h2, hB, zal_i, g1, g2, g3]
theorem n_isLand_out (h : zNur M B c nl nr m F r) {i : Int32} (hj : i < 0 ∨ nI nl ≤ i) : ev 17 0 [some (.ref B), some (.int i)] [] M = some (some (.int 0), M) := by
  obtain ⟨hB, hl, hr, h1, h2, ⟨g, h3, hg⟩, h4, h5⟩ := h
  simp only [e17_0, e17_1, e17_4, e17_5, e17_5n, e17_6, e17_9, e17_12, e17_13, e17_13n, e17_14, e17_17, e17_18, e17_21, e17_22, e17_25, e17_26, ↓reduceIte, zth_v, zth_n, zthv_s, zthi_s, zthm_s, true_or, or_true, eq_self, ne_eq, not_false_eq_true, not_true_eq_false, and_self, and_true, true_and, false_and, and_false, foNur_0, foNur_1, foNur_2, foNur_3, foNur_4, foNur_5, poNur_2, poNur_3, poNur_4, poNur_5, coNur, h1, h2, hB, zal_i]
  by_cases q : i < 0
  · rw [if_pos q]
  · rw [if_neg q, if_pos (hj.resolve_left q)]
theorem n_farOf_in (h : zNur M B c nl nr m F r) {j : Nat} (hj : j < nl) : ev 18 0 [some (.ref B), some (.int (nI j))] [] M = some (some (.int (F j)), M) := by
  have h9 := n_isLand_in h hj
  obtain ⟨hB, hl, hr, h1, h2, ⟨g, h3, hg⟩, h4, h5⟩ := h
  have g1 := zia_in (n := 5) (f := F) (show j < 5 by omega) (by omega)
  simp only [e18_0, e18_0n, e18_1, e18_2, e18_5, e18_8, e18_8n, e18_9, e18_12, e18_13, e18_14, e18_17, e18_19, ↓reduceIte, zth_v, zth_n, zthv_s, zthi_s, zthm_s, true_or, or_true, eq_self, ne_eq, not_false_eq_true, not_true_eq_false, and_self, and_true, true_and, false_and, and_false, foNur_0, foNur_1, foNur_2, foNur_3, foNur_4, foNur_5, poNur_2, poNur_3, poNur_4, poNur_5, coNur, h1, h2, hB, h9, g1, i10]
theorem n_isThere (h : zNur M B c nl nr m F r) : ev 11 0 [some (.ref B)] [] M = some (some (.int (if c ≤ 0 then 0 else 1)), M) := by
  obtain ⟨hB, hl, hr, h1, h2, ⟨g, h3, hg⟩, h4, h5⟩ := h
  simp only [e11_0, e11_0n, e11_1, e11_4, e11_7, e11_8, e11_11, e11_12, ↓reduceIte, zth_v, zth_n, zthv_s, zthi_s, zthm_s, true_or, or_true, eq_self, ne_eq, not_false_eq_true, not_true_eq_false, and_self, and_true, true_and, false_and, and_false, foNur_0, foNur_1, foNur_2, foNur_3, foNur_4, foNur_5, poNur_2, poNur_3, poNur_4, poNur_5, coNur, h1, hB]
  split <;> rfl
theorem n_milesOf (h : zNur M B c nl nr m F r) {a : Nat} {q : zRD} (h' : mget M a = some (oRid q)) (ha : a ≠ 0) : ev 19 0 [some (.ref B), some (.ref a)] [] M = some (some (.int (zquo q.2.2.2.1 c)), M) := by
  obtain ⟨hB, hl, hr, h1, h2, ⟨g, h3, hg⟩, h4, h5⟩ := h
  simp only [e19_0, e19_0n, e19_1, e19_4, e19_4n, e19_5, e19_8, e19_11, ↓reduceIte, zth_v, zth_n, zthv_s, zthi_s, zthm_s, true_or, or_true, eq_self, ne_eq, not_false_eq_true, not_true_eq_false, and_self, and_true, true_and, false_and, and_false, foNur_0, foNur_1, foNur_2, foNur_3, foNur_4, foNur_5, poNur_2, poNur_3, poNur_4, poNur_5, coNur, foRid_0, foRid_1, foRid_2, foRid_3, foRid_4, foRid_5, poRid_0, poRid_1, poRid_2, poRid_3, poRid_4, poRid_5a, poRid_5b, coRid, h1, hB, h', ha, t_quot]
theorem n_landAt_loop (h : zNur M B c nl nr m F r) {v : Int32} : ∀ k j, j + k = nl → ev 21 8 [some (.ref B), some (.int v), some (.int (zlA F v j).1), some (.int (zlA F v j).2), some (.int (nI j))] [] M = some (some (.int (zland F nl v)), M) := by
  obtain ⟨hB, hl, hr, h1, h2, ⟨g, h3, hg⟩, h4, h5⟩ := h
  intro k
  induction k with
  | zero =>
    intro j hj
    obtain rfl : j = nl := by omega
    have g1 : nI j ≤ nI j := ni_ge (Nat.le_refl _) (by omega)
    simp only [e21_0, e21_2, e21_3, e21_4, e21_5, e21_6, e21_8, e21_10, e21_10n, e21_11, e21_14, e21_17, e21_19, e21_19n, e21_20, e21_23, e21_24, e21_27, e21_27n, e21_28, e21_31, e21_33, e21_34, e21_35, e21_38, e21_38n, e21_39, e21_42, e21_44, e21_45, e21_46, e21_49, e21_51, e21_52, e21_52n, e21_53, e21_56, e21_58, e21_59, e21_60, e21_63, e21_66, e21_67, ↓reduceIte, zth_v, zth_n, zthv_s, zthi_s, zthm_s, true_or, or_true, eq_self, ne_eq, not_false_eq_true, not_true_eq_false, and_self, and_true, true_and, false_and, and_false, foNur_0, foNur_1, foNur_2, foNur_3, foNur_4, foNur_5, poNur_2, poNur_3, poNur_4, poNur_5, coNur, h1, hB, g1, zland]
  | succ k ih =>
    intro j hj
    have g1 : ¬ nI nl ≤ nI j := ni_nle (by omega) (by omega)
    have g2 : ¬ nI 5 ≤ nI j := ni_nle (by omega) (by omega)
    have g4 := zia_in (n := 5) (f := F) (show j < 5 by omega) (by omega)
    have ih := ih (j + 1) (by omega)
    rw [e21_8]
    simp only [e21_0, e21_2, e21_3, e21_4, e21_5, e21_6, e21_10, e21_10n, e21_11, e21_14, e21_17, e21_19, e21_19n, e21_20, e21_23, e21_24, e21_27, e21_27n, e21_28, e21_31, e21_33, e21_34, e21_35, e21_38, e21_38n, e21_39, e21_42, e21_44, e21_45, e21_46, e21_49, e21_51, e21_52, e21_52n, e21_53, e21_56, e21_58, e21_59, e21_60, e21_63, e21_66, e21_67, ↓reduceIte, zth_v, zth_n, zthv_s, zthi_s, zthm_s, true_or, or_true, eq_self, ne_eq, not_false_eq_true, not_true_eq_false, and_self, and_true, true_and, false_and, and_false, foNur_0, foNur_1, foNur_2, foNur_3, foNur_4, foNur_5, poNur_2, poNur_3, poNur_4, poNur_5, coNur, h1, h2, hB, g1, g2, g4, zal_i, nI_1]
    by_cases q1 : v < F j
    · rw [if_pos q1]
      rw [show zlA F v (j + 1) = zlA F v j by rw [zlA, if_pos q1]] at ih
      exact ih
    · rw [if_neg q1]
      by_cases q2 : F j ≤ (zlA F v j).2
      · rw [if_pos q2]
        rw [show zlA F v (j + 1) = zlA F v j by rw [zlA, if_neg q1, if_pos q2]] at ih
        exact ih
      · rw [if_neg q2]
        rw [show zlA F v (j + 1) = (nI j, F j) by rw [zlA, if_neg q1, if_neg q2]] at ih
        exact ih
theorem n_landAt (h : zNur M B c nl nr m F r) {v : Int32} : ev 21 0 [some (.ref B), some (.int v), none, none, none] [] M = some (some (.int (zland F nl v)), M) := by
  have h9 := n_landAt_loop h (v := v) nl 0 (by omega)
  simp only [e21_0, e21_2, e21_3, e21_4, e21_5, e21_6, e21_10, e21_10n, e21_11, e21_14, e21_17, e21_19, e21_19n, e21_20, e21_23, e21_24, e21_27, e21_27n, e21_28, e21_31, e21_33, e21_34, e21_35, e21_38, e21_38n, e21_39, e21_42, e21_44, e21_45, e21_46, e21_49, e21_51, e21_52, e21_52n, e21_53, e21_56, e21_58, e21_59, e21_60, e21_63, e21_66, e21_67, ↓reduceIte, zth_v, zth_n, zthv_s, zthi_s, zthm_s, true_or, or_true, eq_self, ne_eq, not_false_eq_true, not_true_eq_false, and_self, and_true, true_and, false_and, and_false]
  exact h9
theorem n_landOf (h : zNur M B c nl nr m F r) {a : Nat} {q : zRD} (h' : mget M a = some (oRid q)) (ha : a ≠ 0) : ev 20 0 [some (.ref B), some (.ref a)] [] M = some (some (.int (zland F nl (zquo q.2.2.2.1 c))), M) := by
  have h8 := n_milesOf h h' ha
  have h9 := fun v => n_landAt h (v := v)
  obtain ⟨hB, hl, hr, h1, h2, ⟨g, h3, hg⟩, h4, h5⟩ := h
  simp only [e20_0, e20_0n, e20_1, e20_1n, e20_2, e20_2n, e20_3, e20_6, e20_9, ↓reduceIte, zth_v, zth_n, zthv_s, zthi_s, zthm_s, true_or, or_true, eq_self, ne_eq, not_false_eq_true, not_true_eq_false, and_self, and_true, true_and, false_and, and_false, foNur_0, foNur_1, foNur_2, foNur_3, foNur_4, foNur_5, poNur_2, poNur_3, poNur_4, poNur_5, coNur, h1, hB, h8, h9]
theorem n_milesBehind (h : zNur M B c nl nr m F r) {a : Nat} {q : zRD} (h' : mget M a = some (oRid q)) (ha : a ≠ 0) {n : Int32} : ev 28 0 [some (.ref B), some (.ref a), some (.int n)] [] M = some (some (.int (zquo (n * zpace q.1 q.2.1) c)), M) := by
  obtain ⟨hB, hl, hr, h1, h2, ⟨g, h3, hg⟩, h4, h5⟩ := h
  simp only [e28_0, e28_1, e28_1n, e28_2, e28_5, e28_5n, e28_6, e28_9, e28_12, e28_13, e28_13n, e28_14, e28_17, e28_20, ↓reduceIte, zth_v, zth_n, zthv_s, zthi_s, zthm_s, true_or, or_true, eq_self, ne_eq, not_false_eq_true, not_true_eq_false, and_self, and_true, true_and, false_and, and_false, foNur_0, foNur_1, foNur_2, foNur_3, foNur_4, foNur_5, poNur_2, poNur_3, poNur_4, poNur_5, coNur, foRid_0, foRid_1, foRid_2, foRid_3, foRid_4, foRid_5, poRid_0, poRid_1, poRid_2, poRid_3, poRid_4, poRid_5a, poRid_5b, coRid, h1, hB, h', ha, t_quot, t_pace]
end NUR
