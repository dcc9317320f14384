/-! Call by call, fourteen: odds, whole -/
def cntN (g : Nat → Bool) : Nat → Nat
  | 0 => 0
  | k + 1 => if g (k + 1) = true then cntN g k + 1 else cntN g k
theorem cntN_le (g : Nat → Bool) : ∀ k, cntN g k ≤ k := by
  intro k
  induction k with
  | zero => exact Nat.le_refl _
  | succ k ih => rw [cntN]; split <;> omega
theorem zcnt_N (g : Nat → Bool) : ∀ k, zcnt g k = nI (cntN g k) := by
  intro k
  induction k with
  | zero => rfl
  | succ k ih =>
    rw [zcnt, cntN, ih]
    split
    · exact nI_1 _
    · rfl
section OE
variable {M : zMem} {x : Nat → Int32} {A : Nat → Nat → Int32} {q nl nr : Nat} {F : Nat → Int32} {r : Nat → zRD}
theorem m_odds_loop (h : zMdl M x A) (z : zMR x A q nl nr F r) {j l t : Nat} (hj : j < nr) (ht : (r j).2.2.1 = nI t) (ht9 : t ≤ 9) {w : Int32} : ∀ k v, v + k = t → ev 169 36 [some (.ref 44), some (.int (nI j)), some (.int (nI l)), some (.int w), some (.long (nL (cntN (zlandIs (nI q) F nl (r j) (nI l)) v))), none, some (.int (nI (v + 1)))] [] M = ev 169 79 [some (.ref 44), some (.int (nI j)), some (.int (nI l)), some (.int w), some (.long (nL (cntN (zlandIs (nI q) F nl (r j) (nI l)) t))), none, some (.int (nI (t + 1)))] [] M := by
  obtain ⟨x1, x2, x3, q1, q2, hl5, hr5, hN, hI⟩ := z
  have o44 := h.1
  have hz44 : zoc (mget M 44) = some 8 := by rw [h.1]; exact coMod
  have o48 := h.2 48 (by omega) (by omega)
  have z48 := zia_in (n := zsz 48) (f := A 48) (j := j) (show j < 5 by omega) (show 5 < 2 ^ 31 by omega)
  obtain ⟨y46, y47, y48, y49, y50⟩ := hN.2 j hj
  rw [y48, ht] at z48
  have pc := m_paceOf h (j := j) (by omega)
  rw [y46, y47] at pc
  have lb := fun v => m_landBy h x1 hl5 hN.1 hI.2.1 x3 q1 q2 (v := v)
  intro k
  induction k with
  | zero =>
    intro v hv
    obtain rfl : v = t := by omega
    have g1 : nI v < nI (v + 1) := nI_lt (by omega) (by omega)
    have g2 : ¬ nI (v + 1) ≤ nI v := Int32.not_le.mpr g1
    simp only [e169_0, e169_0n, e169_1, e169_2, e169_5, e169_8, e169_8n, e169_9, e169_10, e169_13, e169_16, e169_17, e169_18, e169_19, e169_20, e169_23, e169_26, e169_29, e169_30, e169_31, e169_33, e169_34, e169_36, e169_38, e169_38n, e169_39, e169_42, e169_43, e169_44, e169_47, e169_49, e169_49n, e169_50, e169_52, e169_52n, e169_53, e169_54, e169_57, e169_58, e169_61, e169_62, e169_65, e169_66, e169_69, e169_70, e169_71, e169_73, e169_76, e169_81, e169_81n, e169_82, e169_85, e169_86, e169_87, e169_88, e169_89, e169_92, ↓reduceIte, zth_v, zth_n, zthv_s, zthi_s, zthm_s, true_or, or_true, eq_self, ne_eq, not_false_eq_true, not_true_eq_false, and_self, and_true, true_and, false_and, and_false, foMod_0, foMod_1, foMod_2, foMod_3, foMod_4, foMod_5, foMod_6, foMod_7, foMod_8, foMod_9, foMod_10, foMod_11, foMod_12, foMod_13, foMod_14, foMod_15, foMod_16, foMod_17, foMod_18, foMod_19, foMod_20, foMod_21, foMod_22, foMod_23, foMod_24, foMod_25, foMod_26, foMod_27, foMod_28, foMod_29, foMod_30, foMod_31, foMod_32, foMod_33, foMod_34, foMod_35, foMod_36, foMod_37, foMod_38, poMod_0, poMod_1, poMod_2, poMod_3, poMod_4, poMod_5, poMod_12, poMod_13, poMod_14, poMod_15, poMod_20, poMod_21, poMod_22, poMod_23, poMod_28, poMod_29, poMod_30, poMod_38, coMod, o44, o48, z48, g1, g2, Nat.reduceEqDiff]
  | succ k ih =>
    intro v hv
    have ih := ih (v + 1) (by omega)
    have g1 : ¬ nI t < nI (v + 1) := nI_nlt (by omega) (by omega)
    have g2 : nI (v + 1) ≤ nI t := Int32.not_lt.mp g1
    have cl := cntN_le (zlandIs (nI q) F nl (r j) (nI l)) v
    rw [cntN] at ih
    have e0 : zlandIs (nI q) F nl (r j) (nI l) (v + 1) = decide (zland F nl (zquo (nI (v + 1) * zpace (r j).1 (r j).2.1) (nI q)) = nI l) := rfl
    rw [← ih, e169_36]
    by_cases c : zland F nl (zquo (nI (v + 1) * zpace (r j).1 (r j).2.1) (nI q)) = nI l
    · rw [if_pos (by rw [e0, decide_eq_true_eq]; exact c), ← nL_1 _ (by omega)]
      simp only [e169_0, e169_0n, e169_1, e169_2, e169_5, e169_8, e169_8n, e169_9, e169_10, e169_13, e169_16, e169_17, e169_18, e169_19, e169_20, e169_23, e169_26, e169_29, e169_30, e169_31, e169_33, e169_34, e169_38, e169_38n, e169_39, e169_42, e169_43, e169_44, e169_47, e169_49, e169_49n, e169_50, e169_52, e169_52n, e169_53, e169_54, e169_57, e169_58, e169_61, e169_62, e169_65, e169_66, e169_69, e169_70, e169_71, e169_73, e169_76, e169_81, e169_81n, e169_82, e169_85, e169_86, e169_87, e169_88, e169_89, e169_92, ↓reduceIte, zth_v, zth_n, zthv_s, zthi_s, zthm_s, true_or, or_true, eq_self, ne_eq, not_false_eq_true, not_true_eq_false, and_self, and_true, true_and, false_and, and_false, foMod_0, foMod_1, foMod_2, foMod_3, foMod_4, foMod_5, foMod_6, foMod_7, foMod_8, foMod_9, foMod_10, foMod_11, foMod_12, foMod_13, foMod_14, foMod_15, foMod_16, foMod_17, foMod_18, foMod_19, foMod_20, foMod_21, foMod_22, foMod_23, foMod_24, foMod_25, foMod_26, foMod_27, foMod_28, foMod_29, foMod_30, foMod_31, foMod_32, foMod_33, foMod_34, foMod_35, foMod_36, foMod_37, foMod_38, poMod_0, poMod_1, poMod_2, poMod_3, poMod_4, poMod_5, poMod_12, poMod_13, poMod_14, poMod_15, poMod_20, poMod_21, poMod_22, poMod_23, poMod_28, poMod_29, poMod_30, poMod_38, coMod, o44, hz44, o48, z48, pc, lb, g1, g2, c, nI_1, Nat.reduceEqDiff]
    · rw [if_neg (by rw [e0, decide_eq_true_eq]; exact c)]
      have a0 : nL (cntN (zlandIs (nI q) F nl (r j) (nI l)) v) + 0 = nL (cntN (zlandIs (nI q) F nl (r j) (nI l)) v) := Int64.add_zero _
      simp only [e169_0, e169_0n, e169_1, e169_2, e169_5, e169_8, e169_8n, e169_9, e169_10, e169_13, e169_16, e169_17, e169_18, e169_19, e169_20, e169_23, e169_26, e169_29, e169_30, e169_31, e169_33, e169_34, e169_38, e169_38n, e169_39, e169_42, e169_43, e169_44, e169_47, e169_49, e169_49n, e169_50, e169_52, e169_52n, e169_53, e169_54, e169_57, e169_58, e169_61, e169_62, e169_65, e169_66, e169_69, e169_70, e169_71, e169_73, e169_76, e169_81, e169_81n, e169_82, e169_85, e169_86, e169_87, e169_88, e169_89, e169_92, ↓reduceIte, zth_v, zth_n, zthv_s, zthi_s, zthm_s, true_or, or_true, eq_self, ne_eq, not_false_eq_true, not_true_eq_false, and_self, and_true, true_and, false_and, and_false, foMod_0, foMod_1, foMod_2, foMod_3, foMod_4, foMod_5, foMod_6, foMod_7, foMod_8, foMod_9, foMod_10, foMod_11, foMod_12, foMod_13, foMod_14, foMod_15, foMod_16, foMod_17, foMod_18, foMod_19, foMod_20, foMod_21, foMod_22, foMod_23, foMod_24, foMod_25, foMod_26, foMod_27, foMod_28, foMod_29, foMod_30, foMod_31, foMod_32, foMod_33, foMod_34, foMod_35, foMod_36, foMod_37, foMod_38, poMod_0, poMod_1, poMod_2, poMod_3, poMod_4, poMod_5, poMod_12, poMod_13, poMod_14, poMod_15, poMod_20, poMod_21, poMod_22, poMod_23, poMod_28, poMod_29, poMod_30, poMod_38, coMod, o44, hz44, o48, z48, pc, lb, g1, g2, c, a0, nI_1, Nat.reduceEqDiff]
end OE
theorem p_odds {M : zMem} (g : zGood M) {k l w9 : Int32} : zPL 92 169 [some (.int k), some (.int l), some (.int w9), none, none, none] [some (.int k), some (.int l), some (.int w9), none, none, none] M := by
  have g0 := g
  obtain ⟨h65, c, nl, nr, m, F, r, n, o, mm, w, ln, sn, f, tr, ft, hC, ⟨x, A, hx, hX, hN, hR, hS⟩, hI, hJ, hK⟩ := g
  have hC0 := hC
  have hX0 := hX
  obtain ⟨k0, kN, kR, kS, kP⟩ := hC
  have hz2 : zoc (mget M 2) = some 1 := by rw [kN.2.2.2.1]; exact coNur
  have hz1 : zoc (mget M 1) = some 7 := by rw [k0]; exact coRR
  have hz44 : zoc (mget M 44) = some 8 := by rw [hx.1]; exact coMod
  have hl5 := kN.2.1
  have hr5 := kN.2.2.1
  have hn8 := kR.2.1
  obtain ⟨x0, x1, x2, x3, x4, x5, x16, x17⟩ := hX
  have o44 := hx.1
  have lost : ∀ M, ev 120 0 [] [] M = some (some (.long (-9223372036854775808)), M) := fun M => by
    simp only [e120_0, e120_3, ↓reduceIte, zth_v, zth_n, zthv_s, zthi_s, zthm_s, true_or, or_true, eq_self, ne_eq, not_false_eq_true, not_true_eq_false, and_self, and_true, true_and, false_and, and_false]
  rcases kr_or k (n := nr) (by omega) with h | ⟨j, hj, rfl⟩
  · have h9 := n_riderAt_out kN h
    have h8 := m_noRider_out hx x2 hr5 h
    refine ⟨-9223372036854775808, M, M, ?_, ?_, zSkip hz44 g0⟩
    · simp only [e92_0, e92_0n, e92_1, e92_4, e92_5, e92_8, e92_8n, e92_10, e92_10n, e92_12, e92_12n, e92_15, e92_15n, e92_16, e92_19, e92_20, e92_23, e92_26, e92_27, e92_30, e92_31, e92_32, e92_35, e92_38, e92_39, e92_39n, e92_40, e92_43, e92_43n, e92_45, e92_46, e92_49, e92_51, e92_51n, e92_53, e92_56, e92_58, e92_59, e92_62, e92_64, e92_67, e92_69, e92_71, e92_73, e92_76, e92_79, e92_80, ↓reduceIte, zth_v, zth_n, zthv_s, zthi_s, zthm_s, true_or, or_true, eq_self, ne_eq, not_false_eq_true, not_true_eq_false, and_self, and_true, true_and, false_and, and_false, foRR_0, foRR_1, foRR_2, foRR_3, foRR_4, foRR_5, foRR_6, foRR_7, poRR_6, poRR_7, coRR, k0, hz2, h9, Nat.reduceEqDiff]
    · simp only [e169_0, e169_0n, e169_1, e169_2, e169_5, e169_8, e169_8n, e169_9, e169_10, e169_13, e169_16, e169_17, e169_18, e169_19, e169_20, e169_23, e169_26, e169_29, e169_30, e169_31, e169_33, e169_34, e169_36, e169_38, e169_38n, e169_39, e169_42, e169_43, e169_44, e169_47, e169_49, e169_49n, e169_50, e169_52, e169_52n, e169_53, e169_54, e169_57, e169_58, e169_61, e169_62, e169_65, e169_66, e169_69, e169_70, e169_71, e169_73, e169_76, e169_79, e169_81, e169_81n, e169_82, e169_85, e169_86, e169_87, e169_88, e169_89, e169_92, ↓reduceIte, zth_v, zth_n, zthv_s, zthi_s, zthm_s, true_or, or_true, eq_self, ne_eq, not_false_eq_true, not_true_eq_false, and_self, and_true, true_and, false_and, and_false, hz44, h8, lost, i10, Nat.reduceEqDiff]
  have h9 := n_riderAt_in kN hj
  have h8 := m_noRider_in hx x2 hr5 hj
  rcases kr_or l (n := nl) (by omega) with h | ⟨l, hl, rfl⟩
  · have h7 := n_isLand_out kN h
    have h6 := m_noLand_out hx x1 hl5 h
    refine ⟨-9223372036854775808, M, M, ?_, ?_, zSkip hz44 g0⟩
    · simp only [e92_0, e92_0n, e92_1, e92_4, e92_5, e92_8, e92_8n, e92_10, e92_10n, e92_12, e92_12n, e92_15, e92_15n, e92_16, e92_19, e92_20, e92_23, e92_26, e92_27, e92_30, e92_31, e92_32, e92_35, e92_38, e92_39, e92_39n, e92_40, e92_43, e92_43n, e92_45, e92_46, e92_49, e92_51, e92_51n, e92_53, e92_56, e92_58, e92_59, e92_62, e92_64, e92_67, e92_69, e92_71, e92_73, e92_76, e92_79, e92_80, ↓reduceIte, zth_v, zth_n, zthv_s, zthi_s, zthm_s, true_or, or_true, eq_self, ne_eq, not_false_eq_true, not_true_eq_false, and_self, and_true, true_and, false_and, and_false, foRR_0, foRR_1, foRR_2, foRR_3, foRR_4, foRR_5, foRR_6, foRR_7, poRR_6, poRR_7, coRR, k0, hz2, h9, h7, Nat.reduceEqDiff]
    · simp only [e169_0, e169_0n, e169_1, e169_2, e169_5, e169_8, e169_8n, e169_9, e169_10, e169_13, e169_16, e169_17, e169_18, e169_19, e169_20, e169_23, e169_26, e169_29, e169_30, e169_31, e169_33, e169_34, e169_36, e169_38, e169_38n, e169_39, e169_42, e169_43, e169_44, e169_47, e169_49, e169_49n, e169_50, e169_52, e169_52n, e169_53, e169_54, e169_57, e169_58, e169_61, e169_62, e169_65, e169_66, e169_69, e169_70, e169_71, e169_73, e169_76, e169_79, e169_81, e169_81n, e169_82, e169_85, e169_86, e169_87, e169_88, e169_89, e169_92, ↓reduceIte, zth_v, zth_n, zthv_s, zthi_s, zthm_s, true_or, or_true, eq_self, ne_eq, not_false_eq_true, not_true_eq_false, and_self, and_true, true_and, false_and, and_false, hz44, h8, h6, lost, i10, Nat.reduceEqDiff]
  have h7 := n_isLand_in kN hl
  have h6 := m_noLand_in hx x1 hl5 hl
  by_cases c : w9 < 0 ∨ 1 < w9
  · refine ⟨-9223372036854775808, M, M, ?_, ?_, zSkip hz44 g0⟩
    · by_cases c1 : w9 < 0
      · simp only [e92_0, e92_0n, e92_1, e92_4, e92_5, e92_8, e92_8n, e92_10, e92_10n, e92_12, e92_12n, e92_15, e92_15n, e92_16, e92_19, e92_20, e92_23, e92_26, e92_27, e92_30, e92_31, e92_32, e92_35, e92_38, e92_39, e92_39n, e92_40, e92_43, e92_43n, e92_45, e92_46, e92_49, e92_51, e92_51n, e92_53, e92_56, e92_58, e92_59, e92_62, e92_64, e92_67, e92_69, e92_71, e92_73, e92_76, e92_79, e92_80, ↓reduceIte, zth_v, zth_n, zthv_s, zthi_s, zthm_s, true_or, or_true, eq_self, ne_eq, not_false_eq_true, not_true_eq_false, and_self, and_true, true_and, false_and, and_false, foRR_0, foRR_1, foRR_2, foRR_3, foRR_4, foRR_5, foRR_6, foRR_7, poRR_6, poRR_7, coRR, k0, hz2, h9, h7, c1, i10, Nat.reduceEqDiff]
      · have c2 := c.resolve_left c1
        have c3 : ¬ w9 ≤ 1 := Int32.not_le.mpr c2
        simp only [e92_0, e92_0n, e92_1, e92_4, e92_5, e92_8, e92_8n, e92_10, e92_10n, e92_12, e92_12n, e92_15, e92_15n, e92_16, e92_19, e92_20, e92_23, e92_26, e92_27, e92_30, e92_31, e92_32, e92_35, e92_38, e92_39, e92_39n, e92_40, e92_43, e92_43n, e92_45, e92_46, e92_49, e92_51, e92_51n, e92_53, e92_56, e92_58, e92_59, e92_62, e92_64, e92_67, e92_69, e92_71, e92_73, e92_76, e92_79, e92_80, ↓reduceIte, zth_v, zth_n, zthv_s, zthi_s, zthm_s, true_or, or_true, eq_self, ne_eq, not_false_eq_true, not_true_eq_false, and_self, and_true, true_and, false_and, and_false, foRR_0, foRR_1, foRR_2, foRR_3, foRR_4, foRR_5, foRR_6, foRR_7, poRR_6, poRR_7, coRR, k0, hz2, h9, h7, c1, c2, c3, i10, Nat.reduceEqDiff]
    · simp only [e169_0, e169_0n, e169_1, e169_2, e169_5, e169_8, e169_8n, e169_9, e169_10, e169_13, e169_16, e169_17, e169_18, e169_19, e169_20, e169_23, e169_26, e169_29, e169_30, e169_31, e169_33, e169_34, e169_36, e169_38, e169_38n, e169_39, e169_42, e169_43, e169_44, e169_47, e169_49, e169_49n, e169_50, e169_52, e169_52n, e169_53, e169_54, e169_57, e169_58, e169_61, e169_62, e169_65, e169_66, e169_69, e169_70, e169_71, e169_73, e169_76, e169_79, e169_81, e169_81n, e169_82, e169_85, e169_86, e169_87, e169_88, e169_89, e169_92, ↓reduceIte, zth_v, zth_n, zthv_s, zthi_s, zthm_s, true_or, or_true, eq_self, ne_eq, not_false_eq_true, not_true_eq_false, and_self, and_true, true_and, false_and, and_false, hz44, h8, h6, m_in_0_1, c, lost, i10, Nat.reduceEqDiff]
  have c1 : ¬ w9 < 0 := fun z => c (Or.inl z)
  have c2 : ¬ 1 < w9 := fun z => c (Or.inr z)
  have c3 : w9 ≤ 1 := Int32.not_lt.mp c2
  obtain ⟨q, q1, q2, rfl⟩ := hI_q hI (by omega)
  obtain ⟨-, -, t, u, t1, t9, -, ht, -⟩ := hI.2.2 j hj
  have k4 := kN.2.2.2.2.2.2.1 j (by omega)
  have n3 : 2 + 3 + j ≠ 0 := by omega
  have m1 := n_minutesIn kN k4 n3 ht t9 (land := nI l)
  rw [zcnt_N] at m1
  have cl := cntN_le (zlandIs (nI q) F nl (r j) (nI l)) t
  have gd := t_gd (M := M) (u := cntN (zlandIs (nI q) F nl (r j) (nI l)) t) (by omega) t1 t9
  have g9 := gcd_9 (u := cntN (zlandIs (nI q) F nl (r j) (nI l)) t) t1 t9
  have ol := m_odds_loop hx ⟨x1, x2, x3, q1, q2, hl5, hr5, hN, hI⟩ (l := l) hj ht t9 (w := w9) t 0 (by omega)
  have sh := m_share (M := M) (u := cntN (zlandIs (nI q) F nl (r j) (nI l)) t) (t := t) (by omega) t1 t9 (w := w9)
  have o48 := hx.2 48 (by omega) (by omega)
  have z48 := zia_in (n := zsz 48) (f := A 48) (j := j) (show j < 5 by omega) (show 5 < 2 ^ 31 by omega)
  rw [(hN.2 j hj).2.2.1, ht] at z48
  have st : ev 169 0 [some (.ref 44), some (.int (nI j)), some (.int (nI l)), some (.int w9), none, none, none] [] M = ev 169 36 [some (.ref 44), some (.int (nI j)), some (.int (nI l)), some (.int w9), some (.long 0), none, some (.int 1)] [] M := by
    simp only [e169_0, e169_0n, e169_1, e169_2, e169_5, e169_8, e169_8n, e169_9, e169_10, e169_13, e169_16, e169_17, e169_18, e169_19, e169_20, e169_23, e169_26, e169_29, e169_30, e169_31, e169_33, e169_34, e169_38, e169_38n, e169_39, e169_42, e169_43, e169_44, e169_47, e169_49, e169_49n, e169_50, e169_52, e169_52n, e169_53, e169_54, e169_57, e169_58, e169_61, e169_62, e169_65, e169_66, e169_69, e169_70, e169_71, e169_73, e169_76, e169_79, e169_81, e169_81n, e169_82, e169_85, e169_86, e169_87, e169_88, e169_89, e169_92, ↓reduceIte, zth_v, zth_n, zthv_s, zthi_s, zthm_s, true_or, or_true, eq_self, ne_eq, not_false_eq_true, not_true_eq_false, and_self, and_true, true_and, false_and, and_false, hz44, h8, h6, m_in_0_1, c, i10, Nat.reduceEqDiff]
  have st2 : ev 169 0 [some (.ref 44), some (.int (nI j)), some (.int (nI l)), some (.int w9), none, none, none] [] M = some (some (.long (if w9 = 0 then nL (cntN (zlandIs (nI q) F nl (r j) (nI l)) t) / nL (Nat.gcd (cntN (zlandIs (nI q) F nl (r j) (nI l)) t) t) else nL t / nL (Nat.gcd (cntN (zlandIs (nI q) F nl (r j) (nI l)) t) t))), M) := by
    rw [st]
    refine ol.trans ?_
    simp only [e169_0, e169_0n, e169_1, e169_2, e169_5, e169_8, e169_8n, e169_9, e169_10, e169_13, e169_16, e169_17, e169_18, e169_19, e169_20, e169_23, e169_26, e169_29, e169_30, e169_31, e169_33, e169_34, e169_38, e169_38n, e169_39, e169_42, e169_43, e169_44, e169_47, e169_49, e169_49n, e169_50, e169_52, e169_52n, e169_53, e169_54, e169_57, e169_58, e169_61, e169_62, e169_65, e169_66, e169_69, e169_70, e169_71, e169_73, e169_76, e169_79, e169_81, e169_81n, e169_82, e169_85, e169_86, e169_87, e169_88, e169_89, e169_92, ↓reduceIte, zth_v, zth_n, zthv_s, zthi_s, zthm_s, true_or, or_true, eq_self, ne_eq, not_false_eq_true, not_true_eq_false, and_self, and_true, true_and, false_and, and_false, foMod_0, foMod_1, foMod_2, foMod_3, foMod_4, foMod_5, foMod_6, foMod_7, foMod_8, foMod_9, foMod_10, foMod_11, foMod_12, foMod_13, foMod_14, foMod_15, foMod_16, foMod_17, foMod_18, foMod_19, foMod_20, foMod_21, foMod_22, foMod_23, foMod_24, foMod_25, foMod_26, foMod_27, foMod_28, foMod_29, foMod_30, foMod_31, foMod_32, foMod_33, foMod_34, foMod_35, foMod_36, foMod_37, foMod_38, poMod_0, poMod_1, poMod_2, poMod_3, poMod_4, poMod_5, poMod_12, poMod_13, poMod_14, poMod_15, poMod_20, poMod_21, poMod_22, poMod_23, poMod_28, poMod_29, poMod_30, poMod_38, coMod, o44, o48, z48, nL_of t t9, sh, Nat.reduceEqDiff]
  by_cases w0 : w9 = 0
  · rw [if_pos w0] at st2
    refine ⟨_, M, M, ?_, st2, zSkip hz44 g0⟩
    simp only [e92_0, e92_0n, e92_1, e92_4, e92_5, e92_8, e92_8n, e92_10, e92_10n, e92_12, e92_12n, e92_15, e92_15n, e92_16, e92_19, e92_20, e92_23, e92_26, e92_27, e92_30, e92_31, e92_32, e92_35, e92_38, e92_39, e92_39n, e92_40, e92_43, e92_43n, e92_45, e92_46, e92_49, e92_51, e92_51n, e92_53, e92_56, e92_58, e92_59, e92_62, e92_64, e92_67, e92_69, e92_71, e92_73, e92_76, e92_79, e92_80, ↓reduceIte, zth_v, zth_n, zthv_s, zthi_s, zthm_s, true_or, or_true, eq_self, ne_eq, not_false_eq_true, not_true_eq_false, and_self, and_true, true_and, false_and, and_false, foRR_0, foRR_1, foRR_2, foRR_3, foRR_4, foRR_5, foRR_6, foRR_7, poRR_6, poRR_7, coRR, foRid_0, foRid_1, foRid_2, foRid_3, foRid_4, foRid_5, poRid_0, poRid_1, poRid_2, poRid_3, poRid_4, poRid_5a, poRid_5b, coRid, k0, hz2, h9, h7, k4, n3, m1, ht, gd, t_quot, c1, c2, c3, w0, i10, nL_quo _ (show cntN (zlandIs (nI q) F nl (r j) (nI l)) t ≤ 9 by omega) _ g9.2 g9.1, show ¬ (0 : Int32) < 0 from by decide, show (0 : Int32) ≤ 1 from by decide, show ¬ (1 : Int32) < 0 from by decide, Nat.reduceEqDiff]
  · rw [if_neg w0] at st2
    refine ⟨_, M, M, ?_, st2, zSkip hz44 g0⟩
    simp only [e92_0, e92_0n, e92_1, e92_4, e92_5, e92_8, e92_8n, e92_10, e92_10n, e92_12, e92_12n, e92_15, e92_15n, e92_16, e92_19, e92_20, e92_23, e92_26, e92_27, e92_30, e92_31, e92_32, e92_35, e92_38, e92_39, e92_39n, e92_40, e92_43, e92_43n, e92_45, e92_46, e92_49, e92_51, e92_51n, e92_53, e92_56, e92_58, e92_59, e92_62, e92_64, e92_67, e92_69, e92_71, e92_73, e92_76, e92_79, e92_80, ↓reduceIte, zth_v, zth_n, zthv_s, zthi_s, zthm_s, true_or, or_true, eq_self, ne_eq, not_false_eq_true, not_true_eq_false, and_self, and_true, true_and, false_and, and_false, foRR_0, foRR_1, foRR_2, foRR_3, foRR_4, foRR_5, foRR_6, foRR_7, poRR_6, poRR_7, coRR, foRid_0, foRid_1, foRid_2, foRid_3, foRid_4, foRid_5, poRid_0, poRid_1, poRid_2, poRid_3, poRid_4, poRid_5a, poRid_5b, coRid, k0, hz2, h9, h7, k4, n3, m1, ht, gd, t_quot, c1, c2, c3, w0, i10, nL_quo _ t9 _ g9.2 g9.1, Nat.reduceEqDiff]
