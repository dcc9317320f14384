/-! Call by call, fifteen: scouts -/
theorem t_scouts_loop {M : zMem} {tr ft : Int32} (k0 : mget M 1 = some (oRR 2 10 18 27 31 35 tr ft)) {c m : Int32} {nl nr : Nat} {F : Nat → Int32} {r : Nat → zRD} (kN : zNur M 2 c nl nr m F r) {T : Nat → Nat} (hT : ∀ j, j < nr → (r j).2.2.1 = nI (T j) ∧ T j ≤ 9) {all : Nat} (ha : all < 32) {w : Int32} : ∀ k s b, s + k = all → b < 32 → ev 85 39 [some (.ref 1), some (.int (nI all)), some (.int w), some (.int (nI b)), some (.int (nI s))] [] M = some (some (.int (nI (cS (fun s => decide (zcomeBy (nI s) (fun j => zreach (zcome c F (r j) (T j)) nl) nr = w)) k s b))), M) := by
  have hz2 : zoc (mget M 2) = some 1 := by rw [kN.2.2.2.1]; exact coNur
  intro k
  induction k with
  | zero =>
    intro s b hs hb
    obtain rfl : s = all := by omega
    have g1 : nI s ≤ nI s := ni_ge (Nat.le_refl _) (by omega)
    simp only [e85_0, e85_0n, e85_1, e85_4, e85_7, e85_10, e85_12, e85_13, e85_14, e85_14n, e85_15, e85_18, e85_21, e85_22, e85_23, e85_24, e85_25, e85_25n, e85_26, e85_29, e85_30, e85_33, e85_34, e85_35, e85_36, e85_37, e85_39, e85_41, e85_42, e85_45, e85_47, e85_50, e85_51, e85_54, e85_57, e85_57n, e85_58, e85_61, e85_63, e85_66, e85_67, e85_70, e85_72, e85_73, e85_76, e85_79, e85_80, ↓reduceIte, zth_v, zth_n, zthv_s, zthi_s, zthm_s, true_or, or_true, eq_self, ne_eq, not_false_eq_true, not_true_eq_false, and_self, and_true, true_and, false_and, and_false, g1, cS]
  | succ k ih =>
    intro s b hs hb
    have g1 : ¬ nI all ≤ nI s := ni_nle (by omega) (by omega)
    have b1 := j_bitCount (M := M) (s := s) (by omega)
    have b2 := j_bitCount (M := M) hb
    have cb := n_landsComeToBy kN hT (set := nI s)
    have p1 := pcn_5 s (by omega)
    have p2 := pcn_5 b hb
    rw [cS, e85_39]
    by_cases c1 : pcn s < pcn b
    · have c2 : ¬ nI (pcn b) ≤ nI (pcn s) := ni_nle c1 (by omega)
      rw [if_pos c1]
      by_cases c3 : zcomeBy (nI s) (fun j => zreach (zcome c F (r j) (T j)) nl) nr = w
      · have ih := ih (s + 1) s (by omega) (by omega)
        rw [if_pos (by rw [decide_eq_true_eq]; exact c3)]
        simp only [e85_0, e85_0n, e85_1, e85_4, e85_7, e85_10, e85_12, e85_13, e85_14, e85_14n, e85_15, e85_18, e85_21, e85_22, e85_23, e85_24, e85_25, e85_25n, e85_26, e85_29, e85_30, e85_33, e85_34, e85_35, e85_36, e85_37, e85_41, e85_42, e85_45, e85_47, e85_50, e85_51, e85_54, e85_57, e85_57n, e85_58, e85_61, e85_63, e85_66, e85_67, e85_70, e85_72, e85_73, e85_76, e85_79, e85_80, ↓reduceIte, zth_v, zth_n, zthv_s, zthi_s, zthm_s, true_or, or_true, eq_self, ne_eq, not_false_eq_true, not_true_eq_false, and_self, and_true, true_and, false_and, and_false, foRR_0, foRR_1, foRR_2, foRR_3, foRR_4, foRR_5, foRR_6, foRR_7, poRR_6, poRR_7, coRR, k0, hz2, g1, b1, b2, cb, c2, c3, nI_1, ih, Nat.reduceEqDiff]
      · have ih := ih (s + 1) b (by omega) hb
        rw [if_neg (by rw [decide_eq_true_eq]; exact c3)]
        simp only [e85_0, e85_0n, e85_1, e85_4, e85_7, e85_10, e85_12, e85_13, e85_14, e85_14n, e85_15, e85_18, e85_21, e85_22, e85_23, e85_24, e85_25, e85_25n, e85_26, e85_29, e85_30, e85_33, e85_34, e85_35, e85_36, e85_37, e85_41, e85_42, e85_45, e85_47, e85_50, e85_51, e85_54, e85_57, e85_57n, e85_58, e85_61, e85_63, e85_66, e85_67, e85_70, e85_72, e85_73, e85_76, e85_79, e85_80, ↓reduceIte, zth_v, zth_n, zthv_s, zthi_s, zthm_s, true_or, or_true, eq_self, ne_eq, not_false_eq_true, not_true_eq_false, and_self, and_true, true_and, false_and, and_false, foRR_0, foRR_1, foRR_2, foRR_3, foRR_4, foRR_5, foRR_6, foRR_7, poRR_6, poRR_7, coRR, k0, hz2, g1, b1, b2, cb, c2, c3, nI_1, ih, Nat.reduceEqDiff]
    · have c2 : nI (pcn b) ≤ nI (pcn s) := ni_ge (by omega) (by omega)
      have ih := ih (s + 1) b (by omega) hb
      rw [if_neg c1]
      simp only [e85_0, e85_0n, e85_1, e85_4, e85_7, e85_10, e85_12, e85_13, e85_14, e85_14n, e85_15, e85_18, e85_21, e85_22, e85_23, e85_24, e85_25, e85_25n, e85_26, e85_29, e85_30, e85_33, e85_34, e85_35, e85_36, e85_37, e85_41, e85_42, e85_45, e85_47, e85_50, e85_51, e85_54, e85_57, e85_57n, e85_58, e85_61, e85_63, e85_66, e85_67, e85_70, e85_72, e85_73, e85_76, e85_79, e85_80, ↓reduceIte, zth_v, zth_n, zthv_s, zthi_s, zthm_s, true_or, or_true, eq_self, ne_eq, not_false_eq_true, not_true_eq_false, and_self, and_true, true_and, false_and, and_false, g1, b1, b2, c2, nI_1, ih]
theorem m_scouts_loop {M : zMem} {x : Nat → Int32} {A : Nat → Nat → Int32} {q nl nr : Nat} {F : Nat → Int32} {r : Nat → zRD} (h : zMdl M x A) (z : zMR x A q nl nr F r) {y : Option Value} {w : Int32} : ∀ s b, s ≤ 32 → b < 32 → ev 159 30 [some (.ref 44), y, some (.int w), some (.int (nI b)), some (.int (zdn s))] [] M = some (some (.int (nI (mS (fun s => decide (zcomeBy (nI s) (fun j => zreach (zcome (nI q) F (r j) (zLa r j)) nl) nr = w)) s b))), M) := by
  have hz44 : zoc (mget M 44) = some 8 := by rw [h.1]; exact coMod
  intro s
  induction s with
  | zero =>
    intro b hs hb
    have g1 : zdn 0 < 0 := by decide
    simp only [e159_0, e159_0n, e159_1, e159_4, e159_7, e159_9, e159_10, e159_11, e159_11n, e159_12, e159_15, e159_16, e159_17, e159_18, e159_19, e159_19n, e159_20, e159_21, e159_24, e159_25, e159_26, e159_27, e159_28, e159_30, e159_32, e159_35, e159_35n, e159_36, e159_38, e159_41, e159_42, e159_45, e159_47, e159_50, e159_51, e159_54, e159_57, e159_59, e159_62, e159_63, e159_64, e159_67, e159_70, e159_71, ↓reduceIte, zth_v, zth_n, zthv_s, zthi_s, zthm_s, true_or, or_true, eq_self, ne_eq, not_false_eq_true, not_true_eq_false, and_self, and_true, true_and, false_and, and_false, g1, mS]
  | succ s ih =>
    intro b hs hb
    have g1 : ¬ nI s < 0 := nI_pos (by omega)
    have b1 := m_bits (M := M) (s := s) (by omega)
    have b2 := m_bits (M := M) hb
    have sb := m_seenBy h z (set := nI s)
    have p1 := pcn_5 s (by omega)
    have p2 := pcn_5 b hb
    show ev 159 30 [some (.ref 44), y, some (.int w), some (.int (nI b)), some (.int (nI s))] [] M = _
    rw [mS, e159_30]
    by_cases c3 : zcomeBy (nI s) (fun j => zreach (zcome (nI q) F (r j) (zLa r j)) nl) nr = w
    · rw [if_pos (by rw [decide_eq_true_eq]; exact c3)]
      by_cases c1 : pcn s ≤ pcn b
      · have c2 : ¬ nI (pcn b) < nI (pcn s) := nI_nlt c1 (by omega)
        have ih := ih s (by omega) (by omega)
        rw [if_pos c1]
        simp only [e159_0, e159_0n, e159_1, e159_4, e159_7, e159_9, e159_10, e159_11, e159_11n, e159_12, e159_15, e159_16, e159_17, e159_18, e159_19, e159_19n, e159_20, e159_21, e159_24, e159_25, e159_26, e159_27, e159_28, e159_32, e159_35, e159_35n, e159_36, e159_38, e159_41, e159_42, e159_45, e159_47, e159_50, e159_51, e159_54, e159_57, e159_59, e159_62, e159_63, e159_64, e159_67, e159_70, e159_71, ↓reduceIte, zth_v, zth_n, zthv_s, zthi_s, zthm_s, true_or, or_true, eq_self, ne_eq, not_false_eq_true, not_true_eq_false, and_self, and_true, true_and, false_and, and_false, hz44, g1, b1, b2, sb, c2, c3, zdn_1, ih, Nat.reduceEqDiff]
      · have c2 : nI (pcn b) < nI (pcn s) := nI_lt (by omega) (by omega)
        have ih := ih b (by omega) hb
        rw [if_neg c1]
        simp only [e159_0, e159_0n, e159_1, e159_4, e159_7, e159_9, e159_10, e159_11, e159_11n, e159_12, e159_15, e159_16, e159_17, e159_18, e159_19, e159_19n, e159_20, e159_21, e159_24, e159_25, e159_26, e159_27, e159_28, e159_32, e159_35, e159_35n, e159_36, e159_38, e159_41, e159_42, e159_45, e159_47, e159_50, e159_51, e159_54, e159_57, e159_59, e159_62, e159_63, e159_64, e159_67, e159_70, e159_71, ↓reduceIte, zth_v, zth_n, zthv_s, zthi_s, zthm_s, true_or, or_true, eq_self, ne_eq, not_false_eq_true, not_true_eq_false, and_self, and_true, true_and, false_and, and_false, hz44, g1, b1, b2, sb, c2, c3, zdn_1, ih, Nat.reduceEqDiff]
    · have ih := ih b (by omega) hb
      rw [if_neg (by rw [decide_eq_true_eq]; exact c3)]
      simp only [e159_0, e159_0n, e159_1, e159_4, e159_7, e159_9, e159_10, e159_11, e159_11n, e159_12, e159_15, e159_16, e159_17, e159_18, e159_19, e159_19n, e159_20, e159_21, e159_24, e159_25, e159_26, e159_27, e159_28, e159_32, e159_35, e159_35n, e159_36, e159_38, e159_41, e159_42, e159_45, e159_47, e159_50, e159_51, e159_54, e159_57, e159_59, e159_62, e159_63, e159_64, e159_67, e159_70, e159_71, ↓reduceIte, zth_v, zth_n, zthv_s, zthi_s, zthm_s, true_or, or_true, eq_self, ne_eq, not_false_eq_true, not_true_eq_false, and_self, and_true, true_and, false_and, and_false, hz44, g1, sb, c3, zdn_1, ih, Nat.reduceEqDiff]
