/-! The class's nurseries: writes -/
theorem zNur.congR {M : zMem} {B : Nat} {c : Int32} {nl nr : Nat} {m : Int32} {F : Nat → Int32} {r r' : Nat → zRD} (h : zNur M B c nl nr m F r) (hr : ∀ j, j < 5 → r j = r' j) : zNur M B c nl nr m F r' := by
  obtain ⟨hB, hl, hr5, h1, h2, h3, h4, h5⟩ := h
  exact ⟨hB, hl, hr5, h1, h2, h3, fun j hj => by rw [← hr j hj]; exact h4 j hj, fun j hj => by rw [← hr j hj]; exact h5 j hj⟩
section NUR3
variable {M : zMem} {B C nl nr : Nat} {c m : Int32} {F : Nat → Int32} {r : Nat → zRD} {c' m' : Int32} {nl' nr' : Nat} {F' : Nat → Int32} {r' : Nat → zRD}
theorem n_areInOneLand (h : zNur M B c nl nr m F r) {i j : Nat} (hi : i < nr) (hj : j < nr) : ev 22 0 [some (.ref B), some (.int (nI i)), some (.int (nI j)), none, none, none] [] M = some (some (.int (if zlandR c F nl (r i) = -9 then 0 else if zlandR c F nl (r i) = zlandR c F nl (r j) then 1 else 0)), M) := by
  have h9 := fun j (hj : j < nr) => n_riderAt_in h hj
  have h8 := fun j (hj : j < nr) => n_landOf h (h.2.2.2.2.2.2.1 j (by have := h.2.2.1; omega)) (show B + 3 + j ≠ 0 by omega)
  obtain ⟨hB, hl, hr, h1, h2, ⟨g, h3, hg⟩, h4, h5⟩ := h
  simp only [e22_0, e22_0n, e22_1, e22_2, e22_5, e22_5n, e22_6, e22_6n, e22_7, e22_8, e22_11, e22_11n, e22_13, e22_13n, e22_14, e22_14n, e22_17, e22_17n, e22_19, e22_19n, e22_22, e22_23, e22_24, e22_24n, e22_25, e22_25n, e22_26, e22_29, e22_31, e22_33, e22_35, e22_38, e22_40, e22_40n, e22_41, e22_41n, e22_43, e22_46, e22_49, e22_50, e22_53, e22_54, ↓reduceIte, zth_v, zth_n, zthv_s, zthi_s, zthm_s, true_or, or_true, eq_self, ne_eq, not_false_eq_true, not_true_eq_false, and_self, and_true, true_and, false_and, and_false, foNur_0, foNur_1, foNur_2, foNur_3, foNur_4, foNur_5, poNur_2, poNur_3, poNur_4, poNur_5, coNur, h1, hB, h9 i hi, h9 j hj, h8 i hi, h8 j hj]
  unfold zlandR
  split
  · rfl
  · split <;> rfl
theorem n_begins (h : zNur M B c nl nr m F r) : ∃ M', ev 12 0 [some (.ref B), some (.int c')] [] M = some (none, M') ∧ zNur M' B c' 0 0 0 F r ∧ zFr M M' B (B + 7) := by
  have hn := h.setN (c' := c') (m' := 0) (nl' := 0) (nr' := 0) (by omega) (by omega)
  obtain ⟨hB, hl, hr, h1, h2, ⟨g, h3, hg⟩, h4, h5⟩ := h
  refine ⟨_, ?_, hn, zFr.rf.set (Nat.le_refl _) (by omega)⟩
  simp only [e12_0, e12_0n, e12_1, e12_2, e12_5, e12_5n, e12_6, e12_7, e12_10, e12_10n, e12_11, e12_12, e12_15, e12_15n, e12_16, e12_17, e12_20, ↓reduceIte, zth_v, zth_n, zthv_s, zthi_s, zthm_s, true_or, or_true, eq_self, ne_eq, not_false_eq_true, not_true_eq_false, and_self, and_true, true_and, false_and, and_false, foNur_0, foNur_1, foNur_2, foNur_3, foNur_4, foNur_5, poNur_2, poNur_3, poNur_4, poNur_5, coNur, h1, hB, mget_self, mset_mset, nI_0]
theorem n_addLand (h : zNur M B c nl nr m F r) (h5 : nl < 5) {x : Int32} : ∃ M', ev 13 0 [some (.ref B), some (.int x)] [] M = some (none, M') ∧ zNur M' B c (nl + 1) nr m (upd F nl x) r ∧ zFr M M' B (B + 7) := by
  have hn := (h.setF (F' := upd F nl x)).setN (c' := c) (m' := m) (nl' := nl + 1) (nr' := nr) (by omega) h.2.2.1
  obtain ⟨hB, hl, hr, h1, h2, ⟨g, h3, hg⟩, h4, h6⟩ := h
  refine ⟨_, ?_, hn, (zFr.rf.set (by omega) (by omega)).set (Nat.le_refl _) (by omega)⟩
  have g1 : ¬ nI nl < 0 := nI_pos (by omega)
  have g2 : ¬ nI 5 ≤ nI nl := ni_nle (by omega) (by omega)
  have g4 := zis_in (n := 5) (f := F) (x := x) h5 (by omega)
  have g5 : B + 1 ≠ 0 := by omega
  have g6 : B ≠ B + 1 := by omega
  simp only [e13_0, e13_0n, e13_1, e13_4, e13_7, e13_7n, e13_8, e13_11, e13_11n, e13_12, e13_15, e13_16, e13_19, e13_19n, e13_20, e13_23, e13_23n, e13_24, e13_27, e13_28, e13_29, e13_29n, e13_30, e13_31, e13_34, e13_35, e13_36, e13_39, ↓reduceIte, zth_v, zth_n, zthv_s, zthi_s, zthm_s, true_or, or_true, eq_self, ne_eq, not_false_eq_true, not_true_eq_false, and_self, and_true, true_and, false_and, and_false, foNur_0, foNur_1, foNur_2, foNur_3, foNur_4, foNur_5, poNur_2, poNur_3, poNur_4, poNur_5, coNur, h1, h2, hB, zal_i, g1, g2, g4, g5, mget_set, g6, nI_1]
theorem n_addRider (h : zNur M B c nl nr m F r) (h5 : nr < 5) {k l t : Int32} : ∃ M', ev 14 0 [some (.ref B), some (.int k), some (.int l), some (.int t), none] [] M = some (none, M') ∧ zNur M' B c nl (nr + 1) m F (va_up r nr (k, l, t, 0, 0, 0)) ∧ zFr M M' B (B + 7) := by
  have hn := (h.setR (j := nr) (q := (k, l, t, 0, 0, 0)) h5 (Or.inl rfl)).setN (c' := c) (m' := m) (nl' := nl) (nr' := nr + 1) h.2.1 (by omega)
  have h9 := t_becomesNew (h.2.2.2.2.2.2.1 nr h5) (show B + 3 + nr ≠ 0 by omega) (k := k) (l := l) (t := t)
  obtain ⟨hB, hl, hr, h1, h2, ⟨g, h3, hg⟩, h4, h6⟩ := h
  refine ⟨_, ?_, hn, (zFr.rf.set (by omega) (by omega)).set (Nat.le_refl _) (by omega)⟩
  have g1 : ¬ nI nr < 0 := nI_pos (by omega)
  have g2 : ¬ nI 5 ≤ nI nr := ni_nle (by omega) (by omega)
  have g4 := zaa_in (k := 3) (n := 5) (f := g) h5 (by omega)
  have g5 : B + 2 ≠ 0 := by omega
  have g6 : B ≠ B + 3 + nr := by omega
  have g7 : B + 3 + nr ≠ 0 := by omega
  simp only [e14_0, e14_0n, e14_1, e14_4, e14_7, e14_7n, e14_8, e14_11, e14_11n, e14_12, e14_15, e14_16, e14_19, e14_19n, e14_20, e14_23, e14_23n, e14_24, e14_27, e14_28, e14_28n, e14_30, e14_30n, e14_32, e14_32n, e14_35, e14_35n, e14_37, e14_38, e14_39, e14_40, e14_43, e14_43n, e14_44, e14_45, e14_48, e14_49, e14_50, e14_53, ↓reduceIte, zth_v, zth_n, zthv_s, zthi_s, zthm_s, true_or, or_true, eq_self, ne_eq, not_false_eq_true, not_true_eq_false, and_self, and_true, true_and, false_and, and_false, foNur_0, foNur_1, foNur_2, foNur_3, foNur_4, foNur_5, poNur_2, poNur_3, poNur_4, poNur_5, coNur, foRid_0, foRid_1, foRid_2, foRid_3, foRid_4, foRid_5, poRid_0, poRid_1, poRid_2, poRid_3, poRid_4, poRid_5a, poRid_5b, coRid, h1, h3, hB, zal_r, g1, g2, g4, g5, g7, hg nr h5, va_rf_s, h4 nr h5, h9, mget_set, g6, nI_1]
theorem n_like_fars (hd : B + 7 < C ∨ C + 7 < B) : ∀ (k j : Nat) (M : zMem) (F : Nat → Int32), j + k = 5 → zNur M B c nl nr m F r → zNur M C c' nl' nr' m' F' r' → (∀ i, i < j → F i = F' i) →
    ∃ M1 F1, ev 15 34 [some (.ref B), some (.ref C), some (.int (nI j)), none, none] [] M = ev 15 70 [some (.ref B), some (.ref C), some (.int (nI 5)), none, none] [] M1 ∧ (∀ i, i < 5 → F1 i = F' i) ∧ zNur M1 B c nl nr m F1 r ∧ zFr M M1 B (B + 7) := by
  intro k
  induction k with
  | zero =>
    intro j M F hj h h' hF
    obtain rfl : j = 5 := by omega
    refine ⟨M, F, ?_, hF, h, zFr.rf⟩
    obtain ⟨hB, hl, hr, h1, h2, ⟨g, h3, hg⟩, h4, h5⟩ := h
    have g1 : nI 5 ≤ nI 5 := ni_ge (Nat.le_refl _) (by omega)
    simp only [e15_0, e15_0n, e15_1, e15_1n, e15_2, e15_5, e15_8, e15_8n, e15_9, e15_9n, e15_10, e15_13, e15_16, e15_16n, e15_17, e15_17n, e15_18, e15_21, e15_24, e15_24n, e15_25, e15_25n, e15_26, e15_29, e15_32, e15_33, e15_34, e15_35, e15_35n, e15_36, e15_39, e15_40, e15_43, e15_44, e15_44n, e15_45, e15_48, e15_49, e15_52, e15_52n, e15_53, e15_56, e15_57, e15_57n, e15_58, e15_61, e15_62, e15_63, e15_64, e15_67, e15_71, e15_72, e15_73, e15_73n, e15_74, e15_77, e15_78, e15_81, e15_82, e15_82n, e15_83, e15_86, e15_87, e15_90, e15_90n, e15_91, e15_94, e15_95, e15_96, e15_96n, e15_97, e15_97n, e15_98, e15_101, e15_102, e15_103, e15_103n, e15_105, e15_105n, e15_106, e15_106n, e15_109, e15_109n, e15_111, e15_111n, e15_114, e15_114n, e15_115, e15_115n, e15_117, e15_120, e15_123, e15_126, ↓reduceIte, zth_v, zth_n, zthv_s, zthi_s, zthm_s, true_or, or_true, eq_self, ne_eq, not_false_eq_true, not_true_eq_false, and_self, and_true, true_and, false_and, and_false, foNur_0, foNur_1, foNur_2, foNur_3, foNur_4, foNur_5, poNur_2, poNur_3, poNur_4, poNur_5, coNur, h1, h2, hB, zal_i, g1]
  | succ k ih =>
    intro j M F hj h h' hF
    have hn := h.setF (F' := upd F j (F' j))
    obtain ⟨M1, F1, i1, i2, i3, i4⟩ := ih (j + 1) _ _ (by omega) hn (h'.fr fun a ha hb => mget_ne (by omega)) (fun i hi => by
      by_cases e : i = j
      · subst e; exact pk_us
      · rw [pk_un e]; exact hF i (by omega))
    refine ⟨M1, F1, ?_, i2, i3, zFr.tr (zFr.rf.set (by omega) (by omega)) i4⟩
    obtain ⟨hB, hl, hr, h1, h2, ⟨g, h3, hg⟩, h4, h5⟩ := h
    obtain ⟨hC, -, -, k1, k2, -, -, -⟩ := h'
    have g1 : ¬ nI 5 ≤ nI j := ni_nle (by omega) (by omega)
    have g4 := zia_in (n := 5) (f := F') (show j < 5 by omega) (by omega)
    have g5 := zis_in (n := 5) (f := F) (x := F' j) (show j < 5 by omega) (by omega)
    have g6 : B + 1 ≠ 0 := by omega
    rw [e15_34]
    simp only [e15_0, e15_0n, e15_1, e15_1n, e15_2, e15_5, e15_8, e15_8n, e15_9, e15_9n, e15_10, e15_13, e15_16, e15_16n, e15_17, e15_17n, e15_18, e15_21, e15_24, e15_24n, e15_25, e15_25n, e15_26, e15_29, e15_32, e15_33, e15_35, e15_35n, e15_36, e15_39, e15_40, e15_43, e15_44, e15_44n, e15_45, e15_48, e15_49, e15_52, e15_52n, e15_53, e15_56, e15_57, e15_57n, e15_58, e15_61, e15_62, e15_63, e15_64, e15_67, e15_71, e15_72, e15_73, e15_73n, e15_74, e15_77, e15_78, e15_81, e15_82, e15_82n, e15_83, e15_86, e15_87, e15_90, e15_90n, e15_91, e15_94, e15_95, e15_96, e15_96n, e15_97, e15_97n, e15_98, e15_101, e15_102, e15_103, e15_103n, e15_105, e15_105n, e15_106, e15_106n, e15_109, e15_109n, e15_111, e15_111n, e15_114, e15_114n, e15_115, e15_115n, e15_117, e15_120, e15_123, e15_126, ↓reduceIte, zth_v, zth_n, zthv_s, zthi_s, zthm_s, true_or, or_true, eq_self, ne_eq, not_false_eq_true, not_true_eq_false, and_self, and_true, true_and, false_and, and_false, foNur_0, foNur_1, foNur_2, foNur_3, foNur_4, foNur_5, poNur_2, poNur_3, poNur_4, poNur_5, coNur, h1, h2, k1, k2, hB, hC, zal_i, g1, g4, g5, g6, nI_1]
    exact i1
theorem n_like_riders (hd : B + 7 < C ∨ C + 7 < B) : ∀ (k j : Nat) (M : zMem) (r : Nat → zRD) (d d' : Option Value), j + k = 5 → zNur M B c nl nr m F r → zNur M C c' nl' nr' m' F' r' → (∀ i, i < j → r i = r' i) →
    ∃ M1, ev 15 72 [some (.ref B), some (.ref C), some (.int (nI j)), d, d'] [] M = some (none, M1) ∧ zNur M1 B c nl nr m F r' ∧ zFr M M1 B (B + 7) := by
  intro k
  induction k with
  | zero =>
    intro j M r d d' hj h h' hF
    obtain rfl : j = 5 := by omega
    refine ⟨M, ?_, h.congR hF, zFr.rf⟩
    obtain ⟨hB, hl, hr, h1, h2, ⟨g, h3, hg⟩, h4, h5⟩ := h
    have g1 : nI 5 ≤ nI 5 := ni_ge (Nat.le_refl _) (by omega)
    have g6 : B + 2 ≠ 0 := by omega
    simp only [e15_0, e15_0n, e15_1, e15_1n, e15_2, e15_5, e15_8, e15_8n, e15_9, e15_9n, e15_10, e15_13, e15_16, e15_16n, e15_17, e15_17n, e15_18, e15_21, e15_24, e15_24n, e15_25, e15_25n, e15_26, e15_29, e15_32, e15_33, e15_34, e15_35, e15_35n, e15_36, e15_39, e15_40, e15_43, e15_44, e15_44n, e15_45, e15_48, e15_49, e15_52, e15_52n, e15_53, e15_56, e15_57, e15_57n, e15_58, e15_61, e15_62, e15_63, e15_64, e15_67, e15_70, e15_71, e15_72, e15_73, e15_73n, e15_74, e15_77, e15_78, e15_81, e15_82, e15_82n, e15_83, e15_86, e15_87, e15_90, e15_90n, e15_91, e15_94, e15_95, e15_96, e15_96n, e15_97, e15_97n, e15_98, e15_101, e15_102, e15_103, e15_103n, e15_105, e15_105n, e15_106, e15_106n, e15_109, e15_109n, e15_111, e15_111n, e15_114, e15_114n, e15_115, e15_115n, e15_117, e15_120, e15_123, e15_126, ↓reduceIte, zth_v, zth_n, zthv_s, zthi_s, zthm_s, true_or, or_true, eq_self, ne_eq, not_false_eq_true, not_true_eq_false, and_self, and_true, true_and, false_and, and_false, foNur_0, foNur_1, foNur_2, foNur_3, foNur_4, foNur_5, poNur_2, poNur_3, poNur_4, poNur_5, coNur, h1, h3, hB, zal_r, g1]
  | succ k ih =>
    intro j M r d d' hj h h' hF
    have hn := h.setR (j := j) (q := r' j) (by omega) (h'.2.2.2.2.2.2.2 j (by omega))
    obtain ⟨M1, i1, i3, i4⟩ := ih (j + 1) _ _ (some (.ref (B + 3 + j))) (some (.ref (C + 3 + j))) (by omega) hn (h'.fr fun a ha hb => mget_ne (by omega)) (fun i hi => by
      by_cases e : i = j
      · subst e; exact va_up_self _ _ _
      · rw [va_up_ne _ _ e]; exact hF i (by omega))
    refine ⟨M1, ?_, i3, zFr.tr (zFr.rf.set (by omega) (by omega)) i4⟩
    have h9 := t_riderLike (h.2.2.2.2.2.2.1 j (by omega)) (show B + 3 + j ≠ 0 by omega) (h'.2.2.2.2.2.2.1 j (by omega)) (show C + 3 + j ≠ 0 by omega) (by omega) (h'.2.2.2.2.2.2.2 j (by omega))
    obtain ⟨hB, hl, hr, h1, h2, ⟨g, h3, hg⟩, h4, h5⟩ := h
    obtain ⟨hC, -, -, k1, k2, ⟨g', k3, kg⟩, k4, -⟩ := h'
    have g1 : ¬ nI 5 ≤ nI j := ni_nle (by omega) (by omega)
    have g4 := zaa_in (k := 3) (n := 5) (f := g) (show j < 5 by omega) (by omega)
    have g5 := zaa_in (k := 3) (n := 5) (f := g') (show j < 5 by omega) (by omega)
    have g6 : B + 2 ≠ 0 := by omega
    have g7 : C + 2 ≠ 0 := by omega
    have g8 : B + 3 + j ≠ 0 := by omega
    rw [e15_72]
    simp only [e15_0, e15_0n, e15_1, e15_1n, e15_2, e15_5, e15_8, e15_8n, e15_9, e15_9n, e15_10, e15_13, e15_16, e15_16n, e15_17, e15_17n, e15_18, e15_21, e15_24, e15_24n, e15_25, e15_25n, e15_26, e15_29, e15_32, e15_33, e15_34, e15_35, e15_35n, e15_36, e15_39, e15_40, e15_43, e15_44, e15_44n, e15_45, e15_48, e15_49, e15_52, e15_52n, e15_53, e15_56, e15_57, e15_57n, e15_58, e15_61, e15_62, e15_63, e15_64, e15_67, e15_70, e15_71, e15_73, e15_73n, e15_74, e15_77, e15_78, e15_81, e15_82, e15_82n, e15_83, e15_86, e15_87, e15_90, e15_90n, e15_91, e15_94, e15_95, e15_96, e15_96n, e15_97, e15_97n, e15_98, e15_101, e15_102, e15_103, e15_103n, e15_105, e15_105n, e15_106, e15_106n, e15_109, e15_109n, e15_111, e15_111n, e15_114, e15_114n, e15_115, e15_115n, e15_117, e15_120, e15_123, e15_126, ↓reduceIte, zth_v, zth_n, zthv_s, zthi_s, zthm_s, true_or, or_true, eq_self, ne_eq, not_false_eq_true, not_true_eq_false, and_self, and_true, true_and, false_and, and_false, foNur_0, foNur_1, foNur_2, foNur_3, foNur_4, foNur_5, poNur_2, poNur_3, poNur_4, poNur_5, coNur, foRid_0, foRid_1, foRid_2, foRid_3, foRid_4, foRid_5, poRid_0, poRid_1, poRid_2, poRid_3, poRid_4, poRid_5a, poRid_5b, coRid, h1, h3, k1, k3, hB, hC, zal_r, g1, g4, g5, g6, g7, g8, hg j (by omega), kg j (by omega), va_rf_s, h4 j (by omega), h9, nI_1]
    exact i1
theorem n_becomesLike (hd : B + 7 < C ∨ C + 7 < B) (h : zNur M B c nl nr m F r) (h' : zNur M C c' nl' nr' m' F' r') : ∃ M1 F1, ev 15 0 [some (.ref B), some (.ref C), none, none, none] [] M = some (none, M1) ∧ (∀ i, i < 5 → F1 i = F' i) ∧ zNur M1 B c' nl' nr' m' F1 r' ∧ zFr M M1 B (B + 7) := by
  have hn := h.setN (c' := c') (m' := m') (nl' := nl') (nr' := nr') h'.2.1 h'.2.2.1
  obtain ⟨M1, F1, i1, i2, i3, i4⟩ := n_like_fars hd 5 0 _ _ (by omega) hn (h'.fr fun a ha hb => mget_ne (by omega)) (fun i hi => by omega)
  obtain ⟨M2, j1, j2, j3⟩ := n_like_riders hd 5 0 _ _ none none (by omega) i3 ((h'.fr (M' := mset M B (oNur (B + 1) (B + 2) c' (nI nl') (nI nr') m')) fun a ha hb => mget_ne (by omega)).fr fun a ha hb => i4.2.2 a (by omega)) (fun i hi => by omega)
  refine ⟨M2, F1, ?_, i2, j2, zFr.tr (zFr.tr (zFr.rf.set (Nat.le_refl _) (by omega)) i4) j3⟩
  obtain ⟨hB, hl, hr, h1, h2, ⟨g, h3, hg⟩, h4, h5⟩ := h
  obtain ⟨hC, -, -, k1, k2, -, -, -⟩ := h'
  have g1 : C ≠ B := by omega
  simp only [e15_0, e15_0n, e15_1, e15_1n, e15_2, e15_5, e15_8, e15_8n, e15_9, e15_9n, e15_10, e15_13, e15_16, e15_16n, e15_17, e15_17n, e15_18, e15_21, e15_24, e15_24n, e15_25, e15_25n, e15_26, e15_29, e15_32, e15_33, e15_35, e15_35n, e15_36, e15_39, e15_40, e15_43, e15_44, e15_44n, e15_45, e15_48, e15_49, e15_52, e15_52n, e15_53, e15_56, e15_57, e15_57n, e15_58, e15_61, e15_62, e15_63, e15_64, e15_67, e15_70, e15_71, e15_73, e15_73n, e15_74, e15_77, e15_78, e15_81, e15_82, e15_82n, e15_83, e15_86, e15_87, e15_90, e15_90n, e15_91, e15_94, e15_95, e15_96, e15_96n, e15_97, e15_97n, e15_98, e15_101, e15_102, e15_103, e15_103n, e15_105, e15_105n, e15_106, e15_106n, e15_109, e15_109n, e15_111, e15_111n, e15_114, e15_114n, e15_115, e15_115n, e15_117, e15_120, e15_123, e15_126, ↓reduceIte, zth_v, zth_n, zthv_s, zthi_s, zthm_s, true_or, or_true, eq_self, ne_eq, not_false_eq_true, not_true_eq_false, and_self, and_true, true_and, false_and, and_false, foNur_0, foNur_1, foNur_2, foNur_3, foNur_4, foNur_5, poNur_2, poNur_3, poNur_4, poNur_5, coNur, h1, hB, hC, mget_self, mget_set, g1, k1, mset_mset]
  rw [nI_0] at i1
  rw [i1]
  simp only [e15_0, e15_0n, e15_1, e15_1n, e15_2, e15_5, e15_8, e15_8n, e15_9, e15_9n, e15_10, e15_13, e15_16, e15_16n, e15_17, e15_17n, e15_18, e15_21, e15_24, e15_24n, e15_25, e15_25n, e15_26, e15_29, e15_32, e15_33, e15_35, e15_35n, e15_36, e15_39, e15_40, e15_43, e15_44, e15_44n, e15_45, e15_48, e15_49, e15_52, e15_52n, e15_53, e15_56, e15_57, e15_57n, e15_58, e15_61, e15_62, e15_63, e15_64, e15_67, e15_70, e15_71, e15_73, e15_73n, e15_74, e15_77, e15_78, e15_81, e15_82, e15_82n, e15_83, e15_86, e15_87, e15_90, e15_90n, e15_91, e15_94, e15_95, e15_96, e15_96n, e15_97, e15_97n, e15_98, e15_101, e15_102, e15_103, e15_103n, e15_105, e15_105n, e15_106, e15_106n, e15_109, e15_109n, e15_111, e15_111n, e15_114, e15_114n, e15_115, e15_115n, e15_117, e15_120, e15_123, e15_126, ↓reduceIte, zth_v, zth_n, zthv_s, zthi_s, zthm_s, true_or, or_true, eq_self, ne_eq, not_false_eq_true, not_true_eq_false, and_self, and_true, true_and, false_and, and_false]
  rw [nI_0] at j1
  exact j1
end NUR3
