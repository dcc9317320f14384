/-! Guiding: the whole table -/
def zdn : Nat → Int32
  | 0 => -1
  | j + 1 => nI j
theorem zdn_1 (j : Nat) : nI j + (-1) = zdn j := by
  cases j with
  | zero => decide
  | succ j =>
    show nI (j + 1) + (-1) = nI j
    rw [← nI_1, Int32.add_assoc, show (1 : Int32) + (-1) = 0 from by decide, Int32.add_zero]
theorem gW_congr {cm bs bs' : Nat → Int32} {k t l : Nat} (h : ∀ i, (k + 1) * 32 ≤ i → bs i = bs' i) : gW cm bs k t l = gW cm bs' k t l := by
  unfold gW
  rw [h _ (by omega)]
theorem gM_congr {cm bs bs' : Nat → Int32} {k t : Nat} (h : ∀ i, (k + 1) * 32 ≤ i → bs i = bs' i) (n : Nat) : gM cm bs k t n = gM cm bs' k t n := by
  induction n with
  | zero => rfl
  | succ n ih => rw [gM, gM, ih, gW_congr h]
theorem gCh_congr {cm bs bs' : Nat → Int32} {k t : Nat} (h : ∀ i, (k + 1) * 32 ≤ i → bs i = bs' i) : gCh cm bs k t = gCh cm bs' k t := by
  unfold gCh gN
  rw [gM_congr h, h _ (by omega)]
theorem gV_congr {cm bs bs' : Nat → Int32} {k t : Nat} (h : ∀ i, (k + 1) * 32 ≤ i → bs i = bs' i) : gV cm bs k t = gV cm bs' k t := by
  unfold gV gN
  rw [gCh_congr h, h _ (by omega), gW_congr h]
def gDone (cm bs : Nat → Int32) (k t : Nat) : Prop := (∀ i, i < 32 → bs (160 + i) = 0) ∧ ∀ k' t', k' < 5 → t' < 32 → (k < k' ∨ k' = k ∧ t' < t) → bs (k' * 32 + t') = gV cm bs k' t'
theorem gDone_s {cm bs : Nat → Int32} {k t : Nat} (hk : k < 5) (ht : t < 32) (h : gDone cm bs k t) : gDone cm (upd bs (k * 32 + t) (gV cm bs k t)) k (t + 1) := by
  have hc : ∀ k', k ≤ k' → ∀ i, (k' + 1) * 32 ≤ i → bs i = upd bs (k * 32 + t) (gV cm bs k t) i := fun k' hk' i hi => (pk_un (by omega)).symm
  refine ⟨fun i hi => ?_, fun k' t' h1 h2 h3 => ?_⟩
  · rw [pk_un (by omega)]
    exact h.1 i hi
  · rw [← gV_congr (hc k' (by omega))]
    by_cases e : k' = k ∧ t' = t
    · obtain ⟨rfl, rfl⟩ := e
      exact pk_us
    · rw [pk_un (by omega)]
      exact h.2 k' t' h1 h2 (by omega)
section GU3
variable {a : Nat} {cm : Nat → Int32} {lg mt : Int32} {gv : Nat → Int32}
theorem g_finds_in {x : Option Value} {k : Nat} (hk : k < 5) : ∀ n t M bs, t + n = 32 → zGu M a lg mt cm bs gv → gDone cm bs k t → ∃ M' bs', ev 1 13 [some (.ref a), x, some (.int (nI k)), some (.int (nI t))] [] M = ev 1 43 [some (.ref a), x, some (.int (nI k)), some (.int (nI 32))] [] M' ∧ zGu M' a lg mt cm bs' gv ∧ gDone cm bs' k 32 ∧ zFr M M' a (a + 3) := by
  intro n
  induction n with
  | zero =>
    intro t M bs hj h hg
    obtain rfl : t = 32 := by omega
    refine ⟨M, bs, ?_, h, hg, zFr.rf⟩
    have g1 : (32 : Int32) ≤ nI 32 := by decide
    simp only [e1_0, e1_0n, e1_1, e1_1n, e1_2, e1_5, e1_6, e1_7, e1_8, e1_11, e1_12, e1_13, e1_14, e1_16, e1_19, e1_19n, e1_20, e1_21, e1_22, e1_22n, e1_23, e1_24, e1_25, e1_25n, e1_26, e1_27, e1_28, e1_31, e1_34, e1_37, e1_40, e1_46, e1_49, e1_49n, e1_50, e1_53, ↓reduceIte, zth_v, zth_n, zthv_s, zthi_s, zthm_s, true_or, or_true, eq_self, ne_eq, not_false_eq_true, not_true_eq_false, and_self, and_true, true_and, false_and, and_false, g1]
  | succ n ih =>
    intro t M bs hj h hg
    have g1 : ¬ (32 : Int32) ≤ nI t := ni_nle (b := 32) (by omega) (by omega)
    obtain ⟨M', bs', i1, i2, i3, i4⟩ := ih (t + 1) _ _ (by omega) (h.setB (x := upd bs (k * 32 + t) (gV cm bs k t))) (gDone_s hk (by omega) hg)
    refine ⟨M', bs', ?_, i2, i3, zFr.tr (zFr.rf.set (by omega) (by omega)) i4⟩
    have h9 := g_choice h hk (t := t) (by omega)
    have h8 := g_worth_choice h hk (t := t) (by omega)
    have h7 := g_setBest h hk (t := t) (by omega) (x := gV cm bs k t)
    obtain ⟨ha, h1, h2, h3, h4⟩ := h
    have hz : zoc (mget M a) = some 0 := by rw [h1]; exact coGuid
    rw [e1_13]
    simp only [e1_0, e1_0n, e1_1, e1_1n, e1_2, e1_5, e1_6, e1_7, e1_8, e1_11, e1_12, e1_14, e1_16, e1_19, e1_19n, e1_20, e1_21, e1_22, e1_22n, e1_23, e1_24, e1_25, e1_25n, e1_26, e1_27, e1_28, e1_31, e1_34, e1_37, e1_40, e1_46, e1_49, e1_49n, e1_50, e1_53, ↓reduceIte, zth_v, zth_n, zthv_s, zthi_s, zthm_s, true_or, or_true, eq_self, ne_eq, not_false_eq_true, not_true_eq_false, and_self, and_true, true_and, false_and, and_false, ha, hz, g1, h9, h8, h7, nI_1]
    exact i1
theorem g_finds_out {x : Option Value} : ∀ q M bs d, q ≤ 5 → zGu M a lg mt cm bs gv → (∀ i, i < 32 → bs (160 + i) = 0) → (∀ k' t', q ≤ k' → k' < 5 → t' < 32 → bs (k' * 32 + t') = gV cm bs k' t') → ∃ M' bs' d', ev 1 7 [some (.ref a), x, some (.int (zdn q)), d] [] M = ev 1 49 [some (.ref a), x, some (.int (zdn 0)), d'] [] M' ∧ zGu M' a lg mt cm bs' gv ∧ (∀ i, i < 32 → bs' (160 + i) = 0) ∧ (∀ k' t', k' < 5 → t' < 32 → bs' (k' * 32 + t') = gV cm bs' k' t') ∧ zFr M M' a (a + 3) := by
  intro q
  induction q with
  | zero =>
    intro M bs d hq h h5 hg
    refine ⟨M, bs, d, ?_, h, h5, fun k' t' h1 h2 => hg k' t' (by omega) h1 h2, zFr.rf⟩
    have g1 : zdn 0 < 0 := by decide
    simp only [e1_0, e1_0n, e1_1, e1_1n, e1_2, e1_5, e1_6, e1_7, e1_8, e1_11, e1_12, e1_13, e1_14, e1_16, e1_19, e1_19n, e1_20, e1_21, e1_22, e1_22n, e1_23, e1_24, e1_25, e1_25n, e1_26, e1_27, e1_28, e1_31, e1_34, e1_37, e1_40, e1_43, e1_46, e1_50, e1_53, ↓reduceIte, zth_v, zth_n, zthv_s, zthi_s, zthm_s, true_or, or_true, eq_self, ne_eq, not_false_eq_true, not_true_eq_false, and_self, and_true, true_and, false_and, and_false, g1]
  | succ k ih =>
    intro M bs d hq h h5 hg
    have g1 : ¬ nI k < 0 := nI_pos (by omega)
    obtain ⟨M1, bs1, j1, j2, j3, j4⟩ := g_finds_in (x := x) (k := k) (by omega) 32 0 M bs (by omega) h ⟨h5, fun k' t' h1 h2 h3 => hg k' t' (by omega) h1 h2⟩
    obtain ⟨M', bs', d', i1, i2, i3, i4, i5⟩ := ih M1 bs1 (some (.int (nI 32))) (by omega) j2 j3.1 (fun k' t' h1 h2 h3 => j3.2 k' t' h2 h3 (by omega))
    refine ⟨M', bs', d', ?_, i2, i3, i4, zFr.tr j4 i5⟩
    rw [← i1]
    show ev 1 7 [some (.ref a), x, some (.int (nI k)), d] [] M = _
    have start : ev 1 7 [some (.ref a), x, some (.int (nI k)), d] [] M = ev 1 13 [some (.ref a), x, some (.int (nI k)), some (.int (nI 0))] [] M := by
      simp only [e1_0, e1_0n, e1_1, e1_1n, e1_2, e1_5, e1_6, e1_7, e1_8, e1_11, e1_12, e1_14, e1_16, e1_19, e1_19n, e1_20, e1_21, e1_22, e1_22n, e1_23, e1_24, e1_25, e1_25n, e1_26, e1_27, e1_28, e1_31, e1_34, e1_37, e1_40, e1_43, e1_46, e1_49, e1_49n, e1_50, e1_53, ↓reduceIte, zth_v, zth_n, zthv_s, zthi_s, zthm_s, true_or, or_true, eq_self, ne_eq, not_false_eq_true, not_true_eq_false, and_self, and_true, true_and, false_and, and_false, g1, nI_0]
    rw [start, j1]
    simp only [e1_0, e1_0n, e1_1, e1_1n, e1_2, e1_5, e1_6, e1_8, e1_11, e1_12, e1_13, e1_14, e1_16, e1_19, e1_19n, e1_20, e1_21, e1_22, e1_22n, e1_23, e1_24, e1_25, e1_25n, e1_26, e1_27, e1_28, e1_31, e1_34, e1_37, e1_40, e1_43, e1_46, e1_49, e1_49n, e1_50, e1_53, ↓reduceIte, zth_v, zth_n, zthv_s, zthi_s, zthm_s, true_or, or_true, eq_self, ne_eq, not_false_eq_true, not_true_eq_false, and_self, and_true, true_and, false_and, and_false, zdn_1]
theorem g_finds {M : zMem} {bs : Nat → Int32} (h : zGu M a lg mt cm bs gv) (h5 : ∀ i, i < 32 → bs (160 + i) = 0) {B nl nr : Nat} {c m : Int32} {F : Nat → Int32} {r : Nat → zRD} (hN : zNur M B c nl nr m F r) {T : Nat → Nat} (hT : ∀ j, j < nr → (r j).2.2.1 = nI (T j) ∧ T j ≤ 9) (hd : B + 7 < a ∨ a + 3 < B) :
    ∃ M' cm' bs' gv', ev 1 0 [some (.ref a), some (.ref B), none, none] [] M = some (none, M') ∧ zGu M' a (gSt cm' bs' 5).2.1 (gSt cm' bs' 5).2.2 cm' bs' gv' ∧ (∀ i, i < 25 → cm' i = gcm c F r T nl nr i) ∧ (∀ i, i < 32 → bs' (160 + i) = 0) ∧ (∀ k' t', k' < 5 → t' < 32 → bs' (k' * 32 + t') = gV cm' bs' k' t') ∧ (∀ i, i < 5 → gv' i = gGv cm' bs' i) ∧ zFr M M' a (a + 3) := by
  obtain ⟨M1, cm1, i1, i2, i3, i4⟩ := g_read_loop (bs' := bs) hT hd 25 0 M cm none none (by omega) h hN (fun i hi => by omega)
  have q1 : ev 2 0 [some (.ref a), some (.ref B), none, none, none] [] M = some (none, M1) := by
    rw [nI_0] at i1
    simp only [e2_0, e2_1, e2_3, e2_3n, e2_4, e2_7, e2_8, e2_11, e2_11n, e2_12, e2_13, e2_14, e2_15, e2_18, e2_18n, e2_19, e2_20, e2_21, e2_22, e2_24, e2_24n, e2_25, e2_28, e2_29, e2_29n, e2_30, e2_30n, e2_33, e2_33n, e2_34, e2_36, e2_39, e2_42, e2_44, e2_47, e2_47n, e2_48, e2_48n, e2_49, e2_51, e2_54, e2_55, e2_58, e2_61, ↓reduceIte, zth_v, zth_n, zthv_s, zthi_s, zthm_s, true_or, or_true, eq_self, ne_eq, not_false_eq_true, not_true_eq_false, and_self, and_true, true_and, false_and, and_false]
    exact i1
  obtain ⟨M2, bs2, d2, j1, j2, j3, j4, j5⟩ := g_finds_out (x := some (.ref B)) 5 M1 bs none (by omega) i2 h5 (fun k' t' h1 h2 => by omega)
  obtain ⟨M3, gv3, k1, k2, k3, k4⟩ := g_gives j2
  refine ⟨M3, cm1, bs2, gv3, ?_, k2, i3, j3, j4, k3, zFr.tr i4 (zFr.tr j5 k4)⟩
  have ha := h.1
  have hz : zoc (mget M a) = some 0 := by rw [h.2.1]; exact coGuid
  have hz2 : zoc (mget M2 a) = some 0 := by rw [j2.2.1]; exact coGuid
  have start : ev 1 0 [some (.ref a), some (.ref B), none, none] [] M = ev 1 7 [some (.ref a), some (.ref B), some (.int (zdn 5)), none] [] M1 := by
    show _ = ev 1 7 [some (.ref a), some (.ref B), some (.int 4), none] [] M1
    simp only [e1_0, e1_0n, e1_1, e1_1n, e1_2, e1_5, e1_6, e1_8, e1_11, e1_12, e1_13, e1_14, e1_16, e1_19, e1_19n, e1_20, e1_21, e1_22, e1_22n, e1_23, e1_24, e1_25, e1_25n, e1_26, e1_27, e1_28, e1_31, e1_34, e1_37, e1_40, e1_43, e1_46, e1_49, e1_49n, e1_50, e1_53, ↓reduceIte, zth_v, zth_n, zthv_s, zthi_s, zthm_s, true_or, or_true, eq_self, ne_eq, not_false_eq_true, not_true_eq_false, and_self, and_true, true_and, false_and, and_false, ha, hz, q1]
  rw [start, j1]
  simp only [e1_0, e1_0n, e1_1, e1_1n, e1_2, e1_5, e1_6, e1_8, e1_11, e1_12, e1_13, e1_14, e1_16, e1_19, e1_19n, e1_20, e1_21, e1_22, e1_22n, e1_23, e1_24, e1_25, e1_25n, e1_26, e1_27, e1_28, e1_31, e1_34, e1_37, e1_40, e1_43, e1_46, e1_49, e1_49n, e1_50, e1_53, ↓reduceIte, zth_v, zth_n, zthv_s, zthi_s, zthm_s, true_or, or_true, eq_self, ne_eq, not_false_eq_true, not_true_eq_false, and_self, and_true, true_and, false_and, and_false, ha, hz2, k1]
end GU3
