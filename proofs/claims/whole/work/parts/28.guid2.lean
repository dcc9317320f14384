/-! Guiding: what it finds -/
theorem i5div : ∀ j, j < 25 → nI j / 5 = nI (j / 5) := by decide +kernel
theorem i5mod : ∀ j, j < 25 → nI j % 5 = nI (j % 5) := by decide +kernel
theorem i50 : ((5 : Int32) = 0) = False := by decide
def gcm (c : Int32) (F : Nat → Int32) (r : Nat → zRD) (T : Nat → Nat) (nl nr i : Nat) : Int32 := if i / 5 < nr then (if i % 5 < nl then zcome c F (r (i / 5)) (T (i / 5)) (i % 5) else -9) else -9
def gSt (cm bs : Nat → Int32) : Nat → Nat × Int32 × Int32
  | 0 => (0, 0, 0)
  | j + 1 => if gCh cm bs j (gSt cm bs j).1 = 9 then gSt cm bs j else ((gSt cm bs j).1 ||| 2 ^ (gCh cm bs j (gSt cm bs j).1).toNatClampNeg, (gSt cm bs j).2.1 + 1, (gSt cm bs j).2.2 + cm (j * 5 + (gCh cm bs j (gSt cm bs j).1).toNatClampNeg))
def gGv (cm bs : Nat → Int32) (j : Nat) : Int32 := if gCh cm bs j (gSt cm bs j).1 = 9 then -9 else gCh cm bs j (gSt cm bs j).1
theorem gSt_lt (cm bs : Nat → Int32) : ∀ j, (gSt cm bs j).1 < 32 := by
  intro j
  induction j with
  | zero => show 0 < 32; omega
  | succ j ih =>
    rw [gSt]
    split
    · exact ih
    · rename_i e
      rcases gCh_or cm bs j (gSt cm bs j).1 with z | ⟨l, hl, z⟩
      · exact absurd z e
      · rw [z, nI_clamp (by omega)]
        exact bt_lt _ ih l hl
theorem n9l {l : Nat} (hl : l < 5) : ¬ nI l = 9 := fun z => by have := (nI_eq (a := l) (b := 9) (by omega) (by omega)).mp z; omega
section GU2
variable {a : Nat} {cm bs : Nat → Int32}
theorem g_gives_loop : ∀ n j M gv d, j + n = 5 → zGu M a (gSt cm bs j).2.1 (gSt cm bs j).2.2 cm bs gv → (∀ i, i < j → gv i = gGv cm bs i) → ∃ M' gv', ev 3 14 [some (.ref a), some (.int (nI (gSt cm bs j).1)), some (.int (nI j)), d] [] M = some (none, M') ∧ zGu M' a (gSt cm bs 5).2.1 (gSt cm bs 5).2.2 cm bs gv' ∧ (∀ i, i < 5 → gv' i = gGv cm bs i) ∧ zFr M M' a (a + 3) := by
  intro n
  induction n with
  | zero =>
    intro j M gv d hj h hg
    obtain rfl : j = 5 := by omega
    refine ⟨M, gv, ?_, h, hg, zFr.rf⟩
    obtain ⟨ha, h1, h2, h3, h4⟩ := h
    have g1 : nI 5 ≤ nI 5 := ni_ge (Nat.le_refl _) (by omega)
    simp only [e3_0, e3_0n, e3_1, e3_2, e3_5, e3_5n, e3_6, e3_7, e3_10, e3_11, e3_12, e3_13, e3_14, e3_15, e3_15n, e3_16, e3_19, e3_20, e3_23, e3_23n, e3_24, e3_25, e3_26, e3_29, e3_30, e3_30n, e3_31, e3_34, e3_35, e3_36, e3_38, e3_41, e3_43, e3_46, e3_47, e3_48, e3_49, e3_51, e3_54, e3_55, e3_56, e3_57, e3_58, e3_59, e3_60, e3_60n, e3_61, e3_62, e3_65, e3_66, e3_67, e3_70, e3_70n, e3_71, e3_72, e3_75, e3_75n, e3_76, e3_77, e3_78, e3_81, e3_82, e3_85, e3_88, e3_91, ↓reduceIte, zth_v, zth_n, zthv_s, zthi_s, zthm_s, true_or, or_true, eq_self, ne_eq, not_false_eq_true, not_true_eq_false, and_self, and_true, true_and, false_and, and_false, foGuid_0, foGuid_1, foGuid_2, foGuid_3, foGuid_4, poGuid_3, poGuid_4, coGuid, h1, h4, ha, zal_i, g1]
  | succ n ih =>
    intro j M gv d hj h hg
    have ht := gSt_lt cm bs j
    have h9 := g_choice h (k := j) (by omega) ht
    have g1 : ¬ nI 5 ≤ nI j := ni_nle (by omega) (by omega)
    have g5 := fun x => zis_in (n := 5) (f := gv) (x := x) (show j < 5 by omega) (by omega)
    have g6 : a + 3 ≠ 0 := by omega
    have g7 : a ≠ a + 3 := by omega
    have hgv : ∀ i, i < j + 1 → upd gv j (gGv cm bs j) i = gGv cm bs i := fun i hi => by
      by_cases e : i = j
      · subst e; exact pk_us
      · rw [pk_un e]; exact hg i (by omega)
    have hs := h.setG (x := upd gv j (gGv cm bs j))
    rcases gCh_or cm bs j (gSt cm bs j).1 with e | ⟨l, hl, e⟩
    · have e1 : gSt cm bs (j + 1) = gSt cm bs j := by rw [gSt, if_pos e]
      have e2 : gGv cm bs j = -9 := by unfold gGv; rw [if_pos e]
      rw [← e1] at hs
      obtain ⟨M', gv', i1, i2, i3, i4⟩ := ih (j + 1) _ _ (some (.int 9)) (by omega) hs hgv
      refine ⟨M', gv', ?_, i2, i3, zFr.tr (zFr.rf.set (by omega) (by omega)) i4⟩
      obtain ⟨ha, h1, h2, h3, h4⟩ := h
      have hz : zoc (mget M a) = some 0 := by rw [h1]; exact coGuid
      rw [e3_14]
      simp only [e3_0, e3_0n, e3_1, e3_2, e3_5, e3_5n, e3_6, e3_7, e3_10, e3_11, e3_12, e3_13, e3_15, e3_15n, e3_16, e3_19, e3_20, e3_23, e3_23n, e3_24, e3_25, e3_26, e3_29, e3_30, e3_30n, e3_31, e3_34, e3_35, e3_36, e3_38, e3_41, e3_43, e3_46, e3_47, e3_48, e3_49, e3_51, e3_54, e3_55, e3_56, e3_57, e3_58, e3_59, e3_60, e3_60n, e3_61, e3_62, e3_65, e3_66, e3_67, e3_70, e3_70n, e3_71, e3_72, e3_75, e3_75n, e3_76, e3_77, e3_78, e3_81, e3_82, e3_85, e3_88, e3_91, ↓reduceIte, zth_v, zth_n, zthv_s, zthi_s, zthm_s, true_or, or_true, eq_self, ne_eq, not_false_eq_true, not_true_eq_false, and_self, and_true, true_and, false_and, and_false, foGuid_0, foGuid_1, foGuid_2, foGuid_3, foGuid_4, poGuid_3, poGuid_4, coGuid, h1, h4, ha, hz, zal_i, g1, h9, e, g5, g6, nI_1]
      rw [e1, e2] at i1
      exact i1
    · have n9 := n9l hl
      have e0 : ¬ gCh cm bs j (gSt cm bs j).1 = 9 := by rw [e]; exact n9
      have e1 : gSt cm bs (j + 1) = ((gSt cm bs j).1 ||| 2 ^ l, (gSt cm bs j).2.1 + 1, (gSt cm bs j).2.2 + cm (j * 5 + l)) := by rw [gSt, if_neg e0, e, nI_clamp (by omega)]
      have e2 : gGv cm bs j = nI l := by unfold gGv; rw [if_neg e0, e]
      have hs2 := (hs.setO (lg' := (gSt cm bs j).2.1 + 1) (mt' := (gSt cm bs j).2.2)).setO (lg' := (gSt cm bs (j + 1)).2.1) (mt' := (gSt cm bs (j + 1)).2.2)
      have h7 := g_comingOf (hs.setO (lg' := (gSt cm bs j).2.1 + 1) (mt' := (gSt cm bs j).2.2)) (k := j) (l := l) (by omega) hl
      obtain ⟨M', gv', i1, i2, i3, i4⟩ := ih (j + 1) _ _ (some (.int (nI l))) (by omega) hs2 hgv
      refine ⟨M', gv', ?_, i2, i3, zFr.tr (((zFr.rf.set (by omega) (by omega)).set (by omega) (by omega)).set (by omega) (by omega)) i4⟩
      obtain ⟨ha, h1, h2, h3, h4⟩ := h
      have hz : zoc (mget M a) = some 0 := by rw [h1]; exact coGuid
      rw [e1] at i1
      rw [e2] at i1 h7
      dsimp only at i1
      rw [e3_14]
      simp only [e3_0, e3_0n, e3_1, e3_2, e3_5, e3_5n, e3_6, e3_7, e3_10, e3_11, e3_12, e3_13, e3_15, e3_15n, e3_16, e3_19, e3_20, e3_23, e3_23n, e3_24, e3_25, e3_26, e3_29, e3_30, e3_30n, e3_31, e3_34, e3_35, e3_36, e3_38, e3_41, e3_43, e3_46, e3_47, e3_48, e3_49, e3_51, e3_54, e3_55, e3_56, e3_57, e3_58, e3_59, e3_60, e3_60n, e3_61, e3_62, e3_65, e3_66, e3_67, e3_70, e3_70n, e3_71, e3_72, e3_75, e3_75n, e3_76, e3_77, e3_78, e3_81, e3_82, e3_85, e3_88, e3_91, ↓reduceIte, zth_v, zth_n, zthv_s, zthi_s, zthm_s, true_or, or_true, eq_self, ne_eq, not_false_eq_true, not_true_eq_false, and_self, and_true, true_and, false_and, and_false, foGuid_0, foGuid_1, foGuid_2, foGuid_3, foGuid_4, poGuid_3, poGuid_4, coGuid, h1, h4, ha, hz, zal_i, g1, h9, e, n9, g5, g6, g7, mget_set, h7, bt_or _ ht l hl, nI_1]
      exact i1
theorem g_gives {M : zMem} {lg mt : Int32} {gv : Nat → Int32} (h : zGu M a lg mt cm bs gv) : ∃ M' gv', ev 3 0 [some (.ref a), none, none, none] [] M = some (none, M') ∧ zGu M' a (gSt cm bs 5).2.1 (gSt cm bs 5).2.2 cm bs gv' ∧ (∀ i, i < 5 → gv' i = gGv cm bs i) ∧ zFr M M' a (a + 3) := by
  have hs := (h.setO (lg' := 0) (mt' := mt)).setO (lg' := 0) (mt' := 0)
  obtain ⟨M', gv', i1, i2, i3, i4⟩ := g_gives_loop 5 0 _ _ none (by omega) hs (fun i hi => by omega)
  refine ⟨M', gv', ?_, i2, i3, zFr.tr ((zFr.rf.set (by omega) (by omega)).set (by omega) (by omega)) i4⟩
  obtain ⟨ha, h1, h2, h3, h4⟩ := h
  rw [nI_0] at i1
  simp only [gSt, nI_0] at i1
  simp only [e3_0, e3_0n, e3_1, e3_2, e3_5, e3_5n, e3_6, e3_7, e3_10, e3_11, e3_12, e3_13, e3_15, e3_15n, e3_16, e3_19, e3_20, e3_23, e3_23n, e3_24, e3_25, e3_26, e3_29, e3_30, e3_30n, e3_31, e3_34, e3_35, e3_36, e3_38, e3_41, e3_43, e3_46, e3_47, e3_48, e3_49, e3_51, e3_54, e3_55, e3_56, e3_57, e3_58, e3_59, e3_60, e3_60n, e3_61, e3_62, e3_65, e3_66, e3_67, e3_70, e3_70n, e3_71, e3_72, e3_75, e3_75n, e3_76, e3_77, e3_78, e3_81, e3_82, e3_85, e3_88, e3_91, ↓reduceIte, zth_v, zth_n, zthv_s, zthi_s, zthm_s, true_or, or_true, eq_self, ne_eq, not_false_eq_true, not_true_eq_false, and_self, and_true, true_and, false_and, and_false, foGuid_0, foGuid_1, foGuid_2, foGuid_3, foGuid_4, poGuid_3, poGuid_4, coGuid, h1, ha, mget_set]
  exact i1
theorem g_read_loop {bs' : Nat → Int32} {B nl nr : Nat} {c m : Int32} {F : Nat → Int32} {r : Nat → zRD} {T : Nat → Nat} (hT : ∀ j, j < nr → (r j).2.2.1 = nI (T j) ∧ T j ≤ 9) (hd : B + 7 < a ∨ a + 3 < B) {lg mt : Int32} {gv : Nat → Int32} : ∀ n j M cm d d', j + n = 25 → zGu M a lg mt cm bs gv → zNur M B c nl nr m F r → (∀ i, i < j → cm i = gcm c F r T nl nr i) → ∃ M' cm', ev 2 2 [some (.ref a), some (.ref B), some (.int (nI j)), d, d'] [] M = some (none, M') ∧ zGu M' a lg mt cm' bs gv ∧ (∀ i, i < 25 → cm' i = gcm c F r T nl nr i) ∧ zFr M M' a (a + 3) := by
  intro n
  induction n with
  | zero =>
    intro j M cm d d' hj h hN hc
    obtain rfl : j = 25 := by omega
    refine ⟨M, cm, ?_, h, hc, zFr.rf⟩
    obtain ⟨ha, h1, h2, h3, h4⟩ := h
    have g1 : nI 25 ≤ nI 25 := ni_ge (Nat.le_refl _) (by omega)
    simp only [e2_0, e2_1, e2_2, e2_3, e2_3n, e2_4, e2_7, e2_8, e2_11, e2_11n, e2_12, e2_13, e2_14, e2_15, e2_18, e2_18n, e2_19, e2_20, e2_21, e2_22, e2_24, e2_24n, e2_25, e2_28, e2_29, e2_29n, e2_30, e2_30n, e2_33, e2_33n, e2_34, e2_36, e2_39, e2_42, e2_44, e2_47, e2_47n, e2_48, e2_48n, e2_49, e2_51, e2_54, e2_55, e2_58, e2_61, ↓reduceIte, zth_v, zth_n, zthv_s, zthi_s, zthm_s, true_or, or_true, eq_self, ne_eq, not_false_eq_true, not_true_eq_false, and_self, and_true, true_and, false_and, and_false, foGuid_0, foGuid_1, foGuid_2, foGuid_3, foGuid_4, poGuid_3, poGuid_4, coGuid, h1, h2, ha, zal_i, g1]
  | succ n ih =>
    intro j M cm d d' hj h hN hc
    have g1 : ¬ nI 25 ≤ nI j := ni_nle (by omega) (by omega)
    have g5 := fun x => zis_in (n := 25) (f := cm) (x := x) (show j < 25 by omega) (by omega)
    have g6 : a + 1 ≠ 0 := by omega
    have hcm : ∀ i, i < j + 1 → upd cm j (gcm c F r T nl nr j) i = gcm c F r T nl nr i := fun i hi => by
      by_cases e : i = j
      · subst e; exact pk_us
      · rw [pk_un e]; exact hc i (by omega)
    have hs := h.setC (x := upd cm j (gcm c F r T nl nr j))
    have hN2 : zNur (mset M (a + 1) (.inl (25, upd cm j (gcm c F r T nl nr j)))) B c nl nr m F r := hN.fr fun b hb hb2 => mget_ne (by omega)
    have q1 := i5div j (by omega)
    have q2 := i5mod j (by omega)
    have hz : zoc (mget M B) = some 1 := by rw [hN.2.2.2.1]; exact coNur
    have hB := hN.1
    by_cases c1 : j / 5 < nr
    · have h9 := n_riderAt_in hN c1
      have hR := hN.2.2.2.2.2.2.1 (j / 5) (by omega)
      have g7 : B + 3 + j / 5 ≠ 0 := by omega
      obtain ⟨M', cm', i1, i2, i3, i4⟩ := ih (j + 1) _ _ (some (.ref (B + 3 + j / 5))) (some (.int (nI (j % 5)))) (by omega) hs hN2 hcm
      refine ⟨M', cm', ?_, i2, i3, zFr.tr (zFr.rf.set (by omega) (by omega)) i4⟩
      obtain ⟨ha, h1, h2, h3, h4⟩ := h
      rw [e2_2]
      by_cases c2 : j % 5 < nl
      · have h8 := n_isLand_in hN c2
        have h7 := n_comingOf hN hR g7 (hT _ c1).1 (hT _ c1).2 c2
        have e1 : gcm c F r T nl nr j = zcome c F (r (j / 5)) (T (j / 5)) (j % 5) := by unfold gcm; rw [if_pos c1, if_pos c2]
        rw [e1] at i1
        simp only [e2_0, e2_1, e2_3, e2_3n, e2_4, e2_7, e2_8, e2_11, e2_11n, e2_12, e2_13, e2_14, e2_15, e2_18, e2_18n, e2_19, e2_20, e2_21, e2_22, e2_24, e2_24n, e2_25, e2_28, e2_29, e2_29n, e2_30, e2_30n, e2_33, e2_33n, e2_34, e2_36, e2_39, e2_42, e2_44, e2_47, e2_47n, e2_48, e2_48n, e2_49, e2_51, e2_54, e2_55, e2_58, e2_61, ↓reduceIte, zth_v, zth_n, zthv_s, zthi_s, zthm_s, true_or, or_true, eq_self, ne_eq, not_false_eq_true, not_true_eq_false, and_self, and_true, true_and, false_and, and_false, foGuid_0, foGuid_1, foGuid_2, foGuid_3, foGuid_4, poGuid_3, poGuid_4, coGuid, h1, h2, ha, hz, hB, zal_i, g1, q1, q2, i50, i10, h9, h8, h7, g5, g6, g7, nI_1]
        exact i1
      · have h8 := n_isLand_out hN (i := nI (j % 5)) (Or.inr (ni_ge (by omega) (by omega)))
        have e1 : gcm c F r T nl nr j = -9 := by unfold gcm; rw [if_pos c1, if_neg c2]
        rw [e1] at i1
        simp only [e2_0, e2_1, e2_3, e2_3n, e2_4, e2_7, e2_8, e2_11, e2_11n, e2_12, e2_13, e2_14, e2_15, e2_18, e2_18n, e2_19, e2_20, e2_21, e2_22, e2_24, e2_24n, e2_25, e2_28, e2_29, e2_29n, e2_30, e2_30n, e2_33, e2_33n, e2_34, e2_36, e2_39, e2_42, e2_44, e2_47, e2_47n, e2_48, e2_48n, e2_49, e2_51, e2_54, e2_55, e2_58, e2_61, ↓reduceIte, zth_v, zth_n, zthv_s, zthi_s, zthm_s, true_or, or_true, eq_self, ne_eq, not_false_eq_true, not_true_eq_false, and_self, and_true, true_and, false_and, and_false, foGuid_0, foGuid_1, foGuid_2, foGuid_3, foGuid_4, poGuid_3, poGuid_4, coGuid, h1, h2, ha, hz, hB, zal_i, g1, q1, q2, i50, i10, h9, h8, g5, g6, g7, nI_1]
        exact i1
    · have h9 := n_riderAt_out hN (i := nI (j / 5)) (Or.inr (ni_ge (by omega) (by omega)))
      obtain ⟨M', cm', i1, i2, i3, i4⟩ := ih (j + 1) _ _ (some .null) (some (.int (nI (j % 5)))) (by omega) hs hN2 hcm
      refine ⟨M', cm', ?_, i2, i3, zFr.tr (zFr.rf.set (by omega) (by omega)) i4⟩
      obtain ⟨ha, h1, h2, h3, h4⟩ := h
      have e1 : gcm c F r T nl nr j = -9 := by unfold gcm; rw [if_neg c1]
      rw [e1] at i1
      rw [e2_2]
      simp only [e2_0, e2_1, e2_3, e2_3n, e2_4, e2_7, e2_8, e2_11, e2_11n, e2_12, e2_13, e2_14, e2_15, e2_18, e2_18n, e2_19, e2_20, e2_21, e2_22, e2_24, e2_24n, e2_25, e2_28, e2_29, e2_29n, e2_30, e2_30n, e2_33, e2_33n, e2_34, e2_36, e2_39, e2_42, e2_44, e2_47, e2_47n, e2_48, e2_48n, e2_49, e2_51, e2_54, e2_55, e2_58, e2_61, ↓reduceIte, zth_v, zth_n, zthv_s, zthi_s, zthm_s, true_or, or_true, eq_self, ne_eq, not_false_eq_true, not_true_eq_false, and_self, and_true, true_and, false_and, and_false, foGuid_0, foGuid_1, foGuid_2, foGuid_3, foGuid_4, poGuid_3, poGuid_4, coGuid, h1, h2, ha, hz, hB, zal_i, g1, q1, q2, i50, i10, h9, g5, g6, nI_1]
      exact i1
end GU2
