/-! Call by call: together -/
theorem zlA_cong {F G : Nat → Int32} {v : Int32} : ∀ n, (∀ i, i < n → F i = G i) → zlA F v n = zlA G v n := by
  intro n
  induction n with
  | zero => intro _; rfl
  | succ n ih =>
    intro h
    rw [zlA, zlA, ih fun i hi => h i (by omega), h n (by omega)]
theorem zlandR_cong {c : Int32} {F G : Nat → Int32} {nl : Nat} (hl : nl ≤ 5) (h : ∀ i, i < 5 → F i = G i) (q : zRD) : zlandR c F nl q = zlandR c G nl q := by
  unfold zlandR zland
  rw [zlA_cong nl fun i hi => h i (by omega)]
theorem zCl.sp {M : zMem} {c : Int32} {nl nr : Nat} {m : Int32} {F : Nat → Int32} {r : Nat → zRD} {n : Nat} {o mm w : Nat → Int32} {ln : Nat → Int32} {sn : Nat → Nat} {f : Nat → Nat → Int32} {tr ft : Int32} (h : zCl M c nl nr m F r n o mm w ln sn f tr ft) {M1 : zMem} (hf : ∀ a, 1 ≤ a → a ≤ 9 ∨ 27 ≤ a → a ≤ 30 ∨ 35 ≤ a → a ≤ 43 → mget M1 a = mget M a) (hs : zSpare M1) : zCl M1 c nl nr m F r n o mm w ln sn f tr ft := by
  obtain ⟨h1, h2, h3, h4, h5⟩ := h
  exact ⟨(hf _ (by omega) (by omega) (by omega) (by omega)).trans h1, h2.fr fun a g1 g2 => hf a (by omega) (by omega) (by omega) (by omega), h3.fr fun a g1 g2 => hf a (by omega) (by omega) (by omega) (by omega), h4.fr fun a g1 g2 => hf a (by omega) (by omega) (by omega) (by omega), hs⟩
theorem zSpare.nur {M M1 : zMem} (h : zSpare M) (hf : zFr M M1 10 17) {c : Int32} {nl nr : Nat} {m : Int32} {F : Nat → Int32} {r : Nat → zRD} (hN : zNur M1 10 c nl nr m F r) : zSpare M1 := by
  obtain ⟨-, ⟨_, _, _, _, _, h2, h3, _, h4⟩, _, _, _, _, _, h5, h6⟩ := h
  exact ⟨⟨_, _, _, _, _, _, hN⟩, ⟨_, _, _, _, _, h2, (hf.2.2 _ (by omega)).trans h3, _, h4.fr fun a g1 g2 => hf.2.2 a (by omega)⟩, _, _, _, _, _, h5.fr fun a g1 g2 => hf.2.2 a (by omega), h6⟩
theorem zSpare.tale {M M1 : zMem} (h : zSpare M) (hf : zFr M M1 18 26) {c : Int32} {nl nr : Nat} {F : Nat → Int32} {s : zTS} (hT : zTale M1 18 c nl nr F s) : zSpare M1 := by
  obtain ⟨⟨_, _, _, _, _, _, h1⟩, -, _, _, _, _, _, h5, h6⟩ := h
  exact ⟨⟨_, _, _, _, _, _, h1.fr fun a g1 g2 => hf.2.2 a (by omega)⟩, ⟨_, _, _, _, _, hT⟩, _, _, _, _, _, h5.fr fun a g1 g2 => hf.2.2 a (by omega), h6⟩
def ztog (c : Int32) (F : Nat → Int32) (nl nr i j : Nat) : Nat → Nat → (Nat → zRD) → Int32
  | 0, _, _ => -9
  | k + 1, n, r => if zlandR c F nl (r i) = -9 then ztog c F nl nr i j k (n + 1) (rAfter r nr) else if zlandR c F nl (r i) = zlandR c F nl (r j) then nI n else ztog c F nl nr i j k (n + 1) (rAfter r nr)
theorem ztog_cong {c : Int32} {F G : Nat → Int32} {nl nr i j : Nat} (hl : nl ≤ 5) (h : ∀ i, i < 5 → F i = G i) : ∀ k n r, ztog c F nl nr i j k n r = ztog c G nl nr i j k n r := by
  intro k
  induction k with
  | zero => intro n r; rfl
  | succ k ih => intro n r; rw [ztog, ztog, ih, zlandR_cong hl h, zlandR_cong hl h]
theorem t_tog_loop {tr ft : Int32} {c : Int32} {nl nr : Nat} {F : Nat → Int32} {i j : Nat} (hi : i < nr) (hj : j < nr) : ∀ k n M m r, n + k = 100 → mget M 1 = some (oRR 2 10 18 27 31 35 tr ft) → zNur M 10 c nl nr m F r → ∃ M' m' r', ev 83 42 [some (.ref 1), some (.int (nI i)), some (.int (nI j)), some (.int (nI n))] [] M = some (some (.int (ztog c F nl nr i j k n r)), M') ∧ zNur M' 10 c nl nr m' F r' ∧ zFr M M' 10 17 := by
  intro k
  induction k with
  | zero =>
    intro n M m r hn k0 h
    obtain rfl : n = 100 := by omega
    refine ⟨M, m, r, ?_, h, zFr.rf⟩
    have g1 : (99 : Int32) < nI 100 := by decide
    simp only [e83_0, e83_0n, e83_1, e83_4, e83_5, e83_8, e83_8n, e83_11, e83_11n, e83_12, e83_15, e83_16, e83_19, e83_19n, e83_22, e83_23, e83_24, e83_27, e83_28, e83_29, e83_29n, e83_30, e83_33, e83_33n, e83_34, e83_37, e83_40, e83_41, e83_42, e83_43, e83_45, e83_48, e83_48n, e83_49, e83_52, e83_53, e83_54, e83_57, e83_60, e83_61, e83_62, e83_62n, e83_63, e83_66, e83_69, e83_70, e83_73, e83_76, e83_78, ↓reduceIte, zth_v, zth_n, zthv_s, zthi_s, zthm_s, true_or, or_true, eq_self, ne_eq, not_false_eq_true, not_true_eq_false, and_self, and_true, true_and, false_and, and_false, g1, ztog]
  | succ k ih =>
    intro n M m r hn k0 h
    have g1 : ¬ (99 : Int32) < nI n := nI_nlt (a := 99) (by omega) (by omega)
    have hz : zoc (mget M 10) = some 1 := by rw [h.2.2.2.1]; exact coNur
    have a1 := n_areInOneLand h hi hj
    obtain ⟨M1, i1, i2, i3⟩ := n_passMinute h
    obtain ⟨M', m', r', j1, j2, j3⟩ := ih (n + 1) M1 _ _ (by omega) ((i3.2.2 1 (by omega)).trans k0) i2
    rw [ztog]
    by_cases q1 : zlandR c F nl (r i) = -9
    · rw [if_pos q1] at a1 ⊢
      refine ⟨M', m', r', ?_, j2, zFr.tr i3 j3⟩
      rw [← j1, e83_42]
      simp only [e83_0, e83_0n, e83_1, e83_4, e83_5, e83_8, e83_8n, e83_11, e83_11n, e83_12, e83_15, e83_16, e83_19, e83_19n, e83_22, e83_23, e83_24, e83_27, e83_28, e83_29, e83_29n, e83_30, e83_33, e83_33n, e83_34, e83_37, e83_40, e83_41, e83_43, e83_45, e83_48, e83_48n, e83_49, e83_52, e83_53, e83_54, e83_57, e83_60, e83_61, e83_62, e83_62n, e83_63, e83_66, e83_69, e83_70, e83_73, e83_76, e83_78, ↓reduceIte, zth_v, zth_n, zthv_s, zthi_s, zthm_s, true_or, or_true, eq_self, ne_eq, not_false_eq_true, not_true_eq_false, and_self, and_true, true_and, false_and, and_false, foRR_0, foRR_1, foRR_2, foRR_3, foRR_4, foRR_5, foRR_6, foRR_7, poRR_6, poRR_7, coRR, k0, hz, a1, i1, g1, nI_1, Nat.reduceEqDiff]
    · rw [if_neg q1] at a1 ⊢
      by_cases q2 : zlandR c F nl (r i) = zlandR c F nl (r j)
      · rw [if_pos q2] at a1 ⊢
        refine ⟨M, m, r, ?_, h, zFr.rf⟩
        rw [e83_42]
        simp only [e83_0, e83_0n, e83_1, e83_4, e83_5, e83_8, e83_8n, e83_11, e83_11n, e83_12, e83_15, e83_16, e83_19, e83_19n, e83_22, e83_23, e83_24, e83_27, e83_28, e83_29, e83_29n, e83_30, e83_33, e83_33n, e83_34, e83_37, e83_40, e83_41, e83_43, e83_45, e83_48, e83_48n, e83_49, e83_52, e83_53, e83_54, e83_57, e83_60, e83_61, e83_62, e83_62n, e83_63, e83_66, e83_69, e83_70, e83_73, e83_76, e83_78, ↓reduceIte, zth_v, zth_n, zthv_s, zthi_s, zthm_s, true_or, or_true, eq_self, ne_eq, not_false_eq_true, not_true_eq_false, and_self, and_true, true_and, false_and, and_false, foRR_0, foRR_1, foRR_2, foRR_3, foRR_4, foRR_5, foRR_6, foRR_7, poRR_6, poRR_7, coRR, k0, hz, a1, g1, i10, Nat.reduceEqDiff]
      · rw [if_neg q2] at a1 ⊢
        refine ⟨M', m', r', ?_, j2, zFr.tr i3 j3⟩
        rw [← j1, e83_42]
        simp only [e83_0, e83_0n, e83_1, e83_4, e83_5, e83_8, e83_8n, e83_11, e83_11n, e83_12, e83_15, e83_16, e83_19, e83_19n, e83_22, e83_23, e83_24, e83_27, e83_28, e83_29, e83_29n, e83_30, e83_33, e83_33n, e83_34, e83_37, e83_40, e83_41, e83_43, e83_45, e83_48, e83_48n, e83_49, e83_52, e83_53, e83_54, e83_57, e83_60, e83_61, e83_62, e83_62n, e83_63, e83_66, e83_69, e83_70, e83_73, e83_76, e83_78, ↓reduceIte, zth_v, zth_n, zthv_s, zthi_s, zthm_s, true_or, or_true, eq_self, ne_eq, not_false_eq_true, not_true_eq_false, and_self, and_true, true_and, false_and, and_false, foRR_0, foRR_1, foRR_2, foRR_3, foRR_4, foRR_5, foRR_6, foRR_7, poRR_6, poRR_7, coRR, k0, hz, a1, i1, g1, nI_1, Nat.reduceEqDiff]
theorem m_tog_loop {q nl nr : Nat} {F : Nat → Int32} {i j : Nat} (hi : i < nr) (hj : j < nr) : ∀ k n M x A r d, n + k = 100 → zMdl M x A → zMR x A q nl nr F r → x 5 = zshut r nr → (∀ j, j < nr → rOk (r j)) → ∃ M' y B n' d', ev 156 33 [some (.ref 44), some (.int (nI i)), some (.int (nI j)), some (.int (-9)), some (.int (nI n)), d] [] M = ev 156 94 [some (.ref 44), some (.int (nI i)), some (.int (nI j)), some (.int (ztog (nI q) F nl nr i j k n r)), n', d'] [] M' ∧ zMdl M' y B ∧ zSame x y A B ∧ zFr M M' 44 65 := by
  intro k
  induction k with
  | zero =>
    intro n M x A r d hn h z x5 hO
    obtain rfl : n = 100 := by omega
    refine ⟨M, x, A, some (.int (nI 100)), d, ?_, h, zSame.rf, zFr.rf⟩
    have g1 : (99 : Int32) < nI 100 := by decide
    simp only [e156_0, e156_0n, e156_1, e156_2, e156_5, e156_8, e156_8n, e156_9, e156_10, e156_13, e156_16, e156_17, e156_18, e156_21, e156_22, e156_23, e156_23n, e156_24, e156_27, e156_29, e156_30, e156_31, e156_33, e156_35, e156_37, e156_40, e156_41, e156_44, e156_44n, e156_45, e156_45n, e156_46, e156_49, e156_50, e156_51, e156_54, e156_56, e156_58, e156_61, e156_63, e156_63n, e156_64, e156_64n, e156_65, e156_68, e156_69, e156_70, e156_73, e156_76, e156_78, e156_81, e156_83, e156_84, e156_84n, e156_85, e156_88, e156_91, e156_95, e156_98, e156_99, ↓reduceIte, zth_v, zth_n, zthv_s, zthi_s, zthm_s, true_or, or_true, eq_self, ne_eq, not_false_eq_true, not_true_eq_false, and_self, and_true, true_and, false_and, and_false, g1, ztog]
  | succ k ih =>
    intro n M x A r d hn h z x5 hO
    have g1 : ¬ (99 : Int32) < nI n := nI_nlt (a := 99) (by omega) (by omega)
    have g2 : ¬ (0 : Int32) ≤ -9 := by decide
    have hz44 : zoc (mget M 44) = some 8 := by rw [h.1]; exact coMod
    have o44 := h.1
    obtain ⟨x1, x2, x3, q1, q2, hl5, hr5, hN, hI⟩ := id z
    have o49 := h.2 49 (by omega) (by omega)
    have za := zia_in (n := zsz 49) (f := A 49) (j := i) (show i < 5 by omega) (show 5 < 2 ^ 31 by omega)
    have zb := zia_in (n := zsz 49) (f := A 49) (j := j) (show j < 5 by omega) (show 5 < 2 ^ 31 by omega)
    rw [(hN.2 i hi).2.2.2.1] at za
    rw [(hN.2 j hj).2.2.2.1] at zb
    have la : ev 137 0 [some (.ref 44), some (.int (r i).2.2.2.1), none, none, none] [] M = some (some (.int (zlandR (nI q) F nl (r i))), M) := m_landBy h x1 hl5 hN.1 hI.2.1 x3 q1 q2
    have lb : ev 137 0 [some (.ref 44), some (.int (r j).2.2.2.1), none, none, none] [] M = some (some (.int (zlandR (nI q) F nl (r j))), M) := m_landBy h x1 hl5 hN.1 hI.2.1 x3 q1 q2
    obtain ⟨M1, y, B, i1, i2, i3, i4, i5, i6, i7, i8, i9⟩ := m_passes h z x5 hO
    obtain ⟨M', y', B', n', d', j1, j2, j3, j4⟩ := ih (n + 1) M1 y B (rAfter r nr) (some (.int (zlandR (nI q) F nl (r i)))) (by omega) i2 (zMR_after z i3 i8 (zInN_after hI hO)) i4 (rAfter_ok2 hO nr)
    rw [ztog]
    rcases (show zlandR (nI q) F nl (r i) = -9 ∨ ∃ l, l < nl ∧ zlandR (nI q) F nl (r i) = nI l from zland_or) with e | ⟨l, hl, e⟩
    · have m1 : (-9 : Int32) < 0 := by decide
      rw [if_pos e]
      rw [e] at la j1
      refine ⟨M', y', B', n', d', ?_, j2, i3.tr j3, zFr.tr i9 j4⟩
      rw [← j1, e156_33]
      simp only [e156_0, e156_0n, e156_1, e156_2, e156_5, e156_8, e156_8n, e156_9, e156_10, e156_13, e156_16, e156_17, e156_18, e156_21, e156_22, e156_23, e156_23n, e156_24, e156_27, e156_29, e156_30, e156_31, e156_35, e156_37, e156_40, e156_41, e156_44, e156_44n, e156_45, e156_45n, e156_46, e156_49, e156_50, e156_51, e156_54, e156_56, e156_58, e156_61, e156_63, e156_63n, e156_64, e156_64n, e156_65, e156_68, e156_69, e156_70, e156_73, e156_76, e156_78, e156_81, e156_83, e156_84, e156_84n, e156_85, e156_88, e156_91, e156_95, e156_98, e156_99, ↓reduceIte, zth_v, zth_n, zthv_s, zthi_s, zthm_s, true_or, or_true, eq_self, ne_eq, not_false_eq_true, not_true_eq_false, and_self, and_true, true_and, false_and, and_false, foMod_0, foMod_1, foMod_2, foMod_3, foMod_4, foMod_5, foMod_6, foMod_7, foMod_8, foMod_9, foMod_10, foMod_11, foMod_12, foMod_13, foMod_14, foMod_15, foMod_16, foMod_17, foMod_18, foMod_19, foMod_20, foMod_21, foMod_22, foMod_23, foMod_24, foMod_25, foMod_26, foMod_27, foMod_28, foMod_29, foMod_30, foMod_31, foMod_32, foMod_33, foMod_34, foMod_35, foMod_36, foMod_37, foMod_38, poMod_0, poMod_1, poMod_2, poMod_3, poMod_4, poMod_5, poMod_12, poMod_13, poMod_14, poMod_15, poMod_20, poMod_21, poMod_22, poMod_23, poMod_28, poMod_29, poMod_30, poMod_38, coMod, o44, hz44, o49, za, la, i1, g1, g2, m1, nI_1, Nat.reduceEqDiff]
    · have m1 : ¬ nI l < 0 := nI_pos (by omega)
      rw [if_neg (by rw [e]; exact n9v (by omega))]
      by_cases w : zlandR (nI q) F nl (r i) = zlandR (nI q) F nl (r j)
      · rw [if_pos w]
        rw [← w] at lb
        rw [e] at la lb
        have g3 : (0 : Int32) ≤ nI n := ni_ge (b := 0) (by omega) (by omega)
        refine ⟨M1, y, B, some (.int (nI (n + 1))), some (.int (nI l)), ?_, i2, i3, i9⟩
        rw [e156_33]
        simp only [e156_0, e156_0n, e156_1, e156_2, e156_5, e156_8, e156_8n, e156_9, e156_10, e156_13, e156_16, e156_17, e156_18, e156_21, e156_22, e156_23, e156_23n, e156_24, e156_27, e156_29, e156_30, e156_31, e156_35, e156_37, e156_40, e156_41, e156_44, e156_44n, e156_45, e156_45n, e156_46, e156_49, e156_50, e156_51, e156_54, e156_56, e156_58, e156_61, e156_63, e156_63n, e156_64, e156_64n, e156_65, e156_68, e156_69, e156_70, e156_73, e156_76, e156_78, e156_81, e156_83, e156_84, e156_84n, e156_85, e156_88, e156_91, e156_95, e156_98, e156_99, ↓reduceIte, zth_v, zth_n, zthv_s, zthi_s, zthm_s, true_or, or_true, eq_self, ne_eq, not_false_eq_true, not_true_eq_false, and_self, and_true, true_and, false_and, and_false, foMod_0, foMod_1, foMod_2, foMod_3, foMod_4, foMod_5, foMod_6, foMod_7, foMod_8, foMod_9, foMod_10, foMod_11, foMod_12, foMod_13, foMod_14, foMod_15, foMod_16, foMod_17, foMod_18, foMod_19, foMod_20, foMod_21, foMod_22, foMod_23, foMod_24, foMod_25, foMod_26, foMod_27, foMod_28, foMod_29, foMod_30, foMod_31, foMod_32, foMod_33, foMod_34, foMod_35, foMod_36, foMod_37, foMod_38, poMod_0, poMod_1, poMod_2, poMod_3, poMod_4, poMod_5, poMod_12, poMod_13, poMod_14, poMod_15, poMod_20, poMod_21, poMod_22, poMod_23, poMod_28, poMod_29, poMod_30, poMod_38, coMod, o44, hz44, o49, za, zb, la, lb, i1, g1, g2, m1, nI_1, Nat.reduceEqDiff]
        rw [e156_33]
        by_cases g4 : (99 : Int32) < nI (n + 1)
        · simp only [e156_0, e156_0n, e156_1, e156_2, e156_5, e156_8, e156_8n, e156_9, e156_10, e156_13, e156_16, e156_17, e156_18, e156_21, e156_22, e156_23, e156_23n, e156_24, e156_27, e156_29, e156_30, e156_31, e156_35, e156_37, e156_40, e156_41, e156_44, e156_44n, e156_45, e156_45n, e156_46, e156_49, e156_50, e156_51, e156_54, e156_56, e156_58, e156_61, e156_63, e156_63n, e156_64, e156_64n, e156_65, e156_68, e156_69, e156_70, e156_73, e156_76, e156_78, e156_81, e156_83, e156_84, e156_84n, e156_85, e156_88, e156_91, e156_95, e156_98, e156_99, ↓reduceIte, zth_v, zth_n, zthv_s, zthi_s, zthm_s, true_or, or_true, eq_self, ne_eq, not_false_eq_true, not_true_eq_false, and_self, and_true, true_and, false_and, and_false, g4]
        · simp only [e156_0, e156_0n, e156_1, e156_2, e156_5, e156_8, e156_8n, e156_9, e156_10, e156_13, e156_16, e156_17, e156_18, e156_21, e156_22, e156_23, e156_23n, e156_24, e156_27, e156_29, e156_30, e156_31, e156_35, e156_37, e156_40, e156_41, e156_44, e156_44n, e156_45, e156_45n, e156_46, e156_49, e156_50, e156_51, e156_54, e156_56, e156_58, e156_61, e156_63, e156_63n, e156_64, e156_64n, e156_65, e156_68, e156_69, e156_70, e156_73, e156_76, e156_78, e156_81, e156_83, e156_84, e156_84n, e156_85, e156_88, e156_91, e156_95, e156_98, e156_99, ↓reduceIte, zth_v, zth_n, zthv_s, zthi_s, zthm_s, true_or, or_true, eq_self, ne_eq, not_false_eq_true, not_true_eq_false, and_self, and_true, true_and, false_and, and_false, g3, g4]
      · rw [if_neg w]
        rw [e] at w la j1
        refine ⟨M', y', B', n', d', ?_, j2, i3.tr j3, zFr.tr i9 j4⟩
        rw [← j1, e156_33]
        simp only [e156_0, e156_0n, e156_1, e156_2, e156_5, e156_8, e156_8n, e156_9, e156_10, e156_13, e156_16, e156_17, e156_18, e156_21, e156_22, e156_23, e156_23n, e156_24, e156_27, e156_29, e156_30, e156_31, e156_35, e156_37, e156_40, e156_41, e156_44, e156_44n, e156_45, e156_45n, e156_46, e156_49, e156_50, e156_51, e156_54, e156_56, e156_58, e156_61, e156_63, e156_63n, e156_64, e156_64n, e156_65, e156_68, e156_69, e156_70, e156_73, e156_76, e156_78, e156_81, e156_83, e156_84, e156_84n, e156_85, e156_88, e156_91, e156_95, e156_98, e156_99, ↓reduceIte, zth_v, zth_n, zthv_s, zthi_s, zthm_s, true_or, or_true, eq_self, ne_eq, not_false_eq_true, not_true_eq_false, and_self, and_true, true_and, false_and, and_false, foMod_0, foMod_1, foMod_2, foMod_3, foMod_4, foMod_5, foMod_6, foMod_7, foMod_8, foMod_9, foMod_10, foMod_11, foMod_12, foMod_13, foMod_14, foMod_15, foMod_16, foMod_17, foMod_18, foMod_19, foMod_20, foMod_21, foMod_22, foMod_23, foMod_24, foMod_25, foMod_26, foMod_27, foMod_28, foMod_29, foMod_30, foMod_31, foMod_32, foMod_33, foMod_34, foMod_35, foMod_36, foMod_37, foMod_38, poMod_0, poMod_1, poMod_2, poMod_3, poMod_4, poMod_5, poMod_12, poMod_13, poMod_14, poMod_15, poMod_20, poMod_21, poMod_22, poMod_23, poMod_28, poMod_29, poMod_30, poMod_38, coMod, o44, hz44, o49, za, zb, la, lb, i1, g1, g2, m1, w, nI_1, Nat.reduceEqDiff]
/-- kept, changed, brought back: all as before but the words for the while -/
theorem m_round {M3 : zMem} {x y : Nat → Int32} {A A1 B A3 : Nat → Nat → Int32} {c : Int32} {nl nr : Nat} {m : Int32} {F : Nat → Int32} {r : Nat → zRD} {n : Nat} {o mm w : Nat → Int32} {ln : Nat → Int32} {sn : Nat → Nat} {f : Nat → Nat → Int32} {tr ft : Int32}
    (hX : zRlX x c nl nr m r n tr ft) (hN : zRlN A nl nr F r) (hR : zRlR A o mm w) (hS : zRlS A ln sn f)
    (k3 : ∀ a, a ≠ 55 → a ≠ 56 → A1 a = A a) (k4 : ∀ i, i < nr → A1 55 i = A 49 i ∧ A1 56 i = A 50 i)
    (s : zSame (upd (upd x 12 (x 4)) 13 (x 5)) y A1 B)
    (b2 : zMdl M3 (upd (upd y 4 (y 12)) 5 (y 13)) A3) (b3 : ∀ a, a ≠ 49 → a ≠ 50 → A3 a = B a) (b4 : ∀ i, i < nr → A3 49 i = B 55 i ∧ A3 50 i = B 56 i) :
    zMd M3 c nl nr m F r n o mm w ln sn f tr ft := by
  have s1 := s.1
  have s2 := s.2
  have ea : ∀ a, a ≠ 49 → a ≠ 50 → a ≠ 55 → a ≠ 56 → A3 a = A a := fun a h1 h2 h3 h4 => (b3 a h1 h2).trans ((s2 a h1 h2).trans (k3 a h3 h4))
  obtain ⟨x0, x1, x2, x3, x4, x5, x16, x17⟩ := hX
  refine ⟨_, _, b2, ⟨?_, ?_, ?_, ?_, ?_, ?_, ?_, ?_⟩, ⟨fun j hj => ?_, fun j hj => ?_⟩, ⟨?_, ?_, ?_⟩, ⟨?_, ?_, ?_⟩⟩
  · exact (s1 0 (by omega) (by omega) (by omega) (by omega)).trans x0
  · exact (s1 1 (by omega) (by omega) (by omega) (by omega)).trans x1
  · exact (s1 2 (by omega) (by omega) (by omega) (by omega)).trans x2
  · exact (s1 3 (by omega) (by omega) (by omega) (by omega)).trans x3
  · exact (s1 12 (by omega) (by omega) (by omega) (by omega)).trans x4
  · exact (s1 13 (by omega) (by omega) (by omega) (by omega)).trans x5
  · exact (s1 16 (by omega) (by omega) (by omega) (by omega)).trans x16
  · exact (s1 17 (by omega) (by omega) (by omega) (by omega)).trans x17
  · rw [ea 45 (by omega) (by omega) (by omega) (by omega)]; exact hN.1 j hj
  · obtain ⟨a1, a2, a3, a4, a5⟩ := hN.2 j hj
    rw [ea 46 (by omega) (by omega) (by omega) (by omega), ea 47 (by omega) (by omega) (by omega) (by omega), ea 48 (by omega) (by omega) (by omega) (by omega), (b4 j hj).1, (b4 j hj).2, s2 55 (by omega) (by omega), s2 56 (by omega) (by omega), (k4 j hj).1, (k4 j hj).2]
    exact ⟨a1, a2, a3, a4, a5⟩
  · rw [ea 59 (by omega) (by omega) (by omega) (by omega)]; exact hR.1
  · rw [ea 60 (by omega) (by omega) (by omega) (by omega)]; exact hR.2.1
  · rw [ea 61 (by omega) (by omega) (by omega) (by omega)]; exact hR.2.2
  · rw [ea 62 (by omega) (by omega) (by omega) (by omega)]; exact hS.1
  · rw [ea 63 (by omega) (by omega) (by omega) (by omega)]; exact hS.2.1
  · rw [ea 64 (by omega) (by omega) (by omega) (by omega)]; exact hS.2.2
theorem p_together {M : zMem} (g : zGood M) {k l : Int32} : zPI 83 156 [some (.int k), some (.int l), none] [some (.int k), some (.int l), none, none, none] M := by
  have g0 := g
  obtain ⟨h65, c, nl, nr, m, F, r, n, o, mm, w, ln, sn, f, tr, ft, hC, ⟨x, A, hx, hX, hN, hR, hS⟩, hI, hJ, hK⟩ := g
  have hC0 := hC
  have hX0 := hX
  obtain ⟨k0, kN, kR, kS, kP⟩ := hC
  have hz2 : zoc (mget M 2) = some 1 := by rw [kN.2.2.2.1]; exact coNur
  have hz1 : zoc (mget M 1) = some 7 := by rw [k0]; exact coRR
  have hz44 : zoc (mget M 44) = some 8 := by rw [hx.1]; exact coMod
  have hl5 := kN.2.1
  have hr5 := kN.2.2.1
  have hn8 := kR.2.1
  obtain ⟨x0, x1, x2, x3, x4, x5, x16, x17⟩ := hX
  have o44 := hx.1
  rcases kr_or k (n := nr) (by omega) with h | ⟨i, hi, rfl⟩
  · have h9 := n_riderAt_out kN h
    have h8 := m_noRider_out hx x2 hr5 h
    refine ⟨-1, M, M, ?_, ?_, zSkip hz44 g0⟩
    · simp only [e83_0, e83_0n, e83_1, e83_4, e83_5, e83_8, e83_8n, e83_11, e83_11n, e83_12, e83_15, e83_16, e83_19, e83_19n, e83_22, e83_23, e83_24, e83_27, e83_28, e83_29, e83_29n, e83_30, e83_33, e83_33n, e83_34, e83_37, e83_40, e83_41, e83_42, e83_43, e83_45, e83_48, e83_48n, e83_49, e83_52, e83_53, e83_54, e83_57, e83_60, e83_61, e83_62, e83_62n, e83_63, e83_66, e83_69, e83_70, e83_73, e83_76, e83_78, ↓reduceIte, zth_v, zth_n, zthv_s, zthi_s, zthm_s, true_or, or_true, eq_self, ne_eq, not_false_eq_true, not_true_eq_false, and_self, and_true, true_and, false_and, and_false, foRR_0, foRR_1, foRR_2, foRR_3, foRR_4, foRR_5, foRR_6, foRR_7, poRR_6, poRR_7, coRR, k0, hz2, h9, Nat.reduceEqDiff]
    · simp only [e156_0, e156_0n, e156_1, e156_2, e156_5, e156_8, e156_8n, e156_9, e156_10, e156_13, e156_16, e156_17, e156_18, e156_21, e156_22, e156_23, e156_23n, e156_24, e156_27, e156_29, e156_30, e156_31, e156_33, e156_35, e156_37, e156_40, e156_41, e156_44, e156_44n, e156_45, e156_45n, e156_46, e156_49, e156_50, e156_51, e156_54, e156_56, e156_58, e156_61, e156_63, e156_63n, e156_64, e156_64n, e156_65, e156_68, e156_69, e156_70, e156_73, e156_76, e156_78, e156_81, e156_83, e156_84, e156_84n, e156_85, e156_88, e156_91, e156_94, e156_94n, e156_95, e156_98, e156_99, ↓reduceIte, zth_v, zth_n, zthv_s, zthi_s, zthm_s, true_or, or_true, eq_self, ne_eq, not_false_eq_true, not_true_eq_false, and_self, and_true, true_and, false_and, and_false, hz44, h8, i10, Nat.reduceEqDiff]
  have h9 := n_riderAt_in kN hi
  have h8 := m_noRider_in hx x2 hr5 hi
  have n3 : 2 + 3 + i ≠ 0 := by omega
  rcases kr_or l (n := nr) (by omega) with h | ⟨j, hj, rfl⟩
  · have h7 := n_riderAt_out kN h
    have h6 := m_noRider_out hx x2 hr5 h
    refine ⟨-1, M, M, ?_, ?_, zSkip hz44 g0⟩
    · simp only [e83_0, e83_0n, e83_1, e83_4, e83_5, e83_8, e83_8n, e83_11, e83_11n, e83_12, e83_15, e83_16, e83_19, e83_19n, e83_22, e83_23, e83_24, e83_27, e83_28, e83_29, e83_29n, e83_30, e83_33, e83_33n, e83_34, e83_37, e83_40, e83_41, e83_42, e83_43, e83_45, e83_48, e83_48n, e83_49, e83_52, e83_53, e83_54, e83_57, e83_60, e83_61, e83_62, e83_62n, e83_63, e83_66, e83_69, e83_70, e83_73, e83_76, e83_78, ↓reduceIte, zth_v, zth_n, zthv_s, zthi_s, zthm_s, true_or, or_true, eq_self, ne_eq, not_false_eq_true, not_true_eq_false, and_self, and_true, true_and, false_and, and_false, foRR_0, foRR_1, foRR_2, foRR_3, foRR_4, foRR_5, foRR_6, foRR_7, poRR_6, poRR_7, coRR, k0, hz2, h9, h7, n3, Nat.reduceEqDiff]
    · simp only [e156_0, e156_0n, e156_1, e156_2, e156_5, e156_8, e156_8n, e156_9, e156_10, e156_13, e156_16, e156_17, e156_18, e156_21, e156_22, e156_23, e156_23n, e156_24, e156_27, e156_29, e156_30, e156_31, e156_33, e156_35, e156_37, e156_40, e156_41, e156_44, e156_44n, e156_45, e156_45n, e156_46, e156_49, e156_50, e156_51, e156_54, e156_56, e156_58, e156_61, e156_63, e156_63n, e156_64, e156_64n, e156_65, e156_68, e156_69, e156_70, e156_73, e156_76, e156_78, e156_81, e156_83, e156_84, e156_84n, e156_85, e156_88, e156_91, e156_94, e156_94n, e156_95, e156_98, e156_99, ↓reduceIte, zth_v, zth_n, zthv_s, zthi_s, zthm_s, true_or, or_true, eq_self, ne_eq, not_false_eq_true, not_true_eq_false, and_self, and_true, true_and, false_and, and_false, hz44, h8, h6, i10, Nat.reduceEqDiff]
  have h7 := n_riderAt_in kN hj
  have h6 := m_noRider_in hx x2 hr5 hj
  have n4 : 2 + 3 + j ≠ 0 := by omega
  by_cases c : i = j
  · subst c
    refine ⟨-1, M, M, ?_, ?_, zSkip hz44 g0⟩
    · simp only [e83_0, e83_0n, e83_1, e83_4, e83_5, e83_8, e83_8n, e83_11, e83_11n, e83_12, e83_15, e83_16, e83_19, e83_19n, e83_22, e83_23, e83_24, e83_27, e83_28, e83_29, e83_29n, e83_30, e83_33, e83_33n, e83_34, e83_37, e83_40, e83_41, e83_42, e83_43, e83_45, e83_48, e83_48n, e83_49, e83_52, e83_53, e83_54, e83_57, e83_60, e83_61, e83_62, e83_62n, e83_63, e83_66, e83_69, e83_70, e83_73, e83_76, e83_78, ↓reduceIte, zth_v, zth_n, zthv_s, zthi_s, zthm_s, true_or, or_true, eq_self, ne_eq, not_false_eq_true, not_true_eq_false, and_self, and_true, true_and, false_and, and_false, foRR_0, foRR_1, foRR_2, foRR_3, foRR_4, foRR_5, foRR_6, foRR_7, poRR_6, poRR_7, coRR, k0, hz2, h9, n3, Nat.reduceEqDiff]
    · simp only [e156_0, e156_0n, e156_1, e156_2, e156_5, e156_8, e156_8n, e156_9, e156_10, e156_13, e156_16, e156_17, e156_18, e156_21, e156_22, e156_23, e156_23n, e156_24, e156_27, e156_29, e156_30, e156_31, e156_33, e156_35, e156_37, e156_40, e156_41, e156_44, e156_44n, e156_45, e156_45n, e156_46, e156_49, e156_50, e156_51, e156_54, e156_56, e156_58, e156_61, e156_63, e156_63n, e156_64, e156_64n, e156_65, e156_68, e156_69, e156_70, e156_73, e156_76, e156_78, e156_81, e156_83, e156_84, e156_84n, e156_85, e156_88, e156_91, e156_94, e156_94n, e156_95, e156_98, e156_99, ↓reduceIte, zth_v, zth_n, zthv_s, zthi_s, zthm_s, true_or, or_true, eq_self, ne_eq, not_false_eq_true, not_true_eq_false, and_self, and_true, true_and, false_and, and_false, hz44, h8, i10, Nat.reduceEqDiff]
  have c1 : ¬ nI i = nI j := fun z => c ((nI_eq (by omega) (by omega)).mp z)
  obtain ⟨q, q1, q2, rfl⟩ := hI_q hI (by omega)
  have hO : ∀ j, j < nr → rOk (r j) := fun j hj => kN.2.2.2.2.2.2.2 j (by omega)
  obtain ⟨⟨_, _, _, _, _, _, hs1⟩, hs2⟩ := id kP
  obtain ⟨M1, F1, a1, a2, a3, a4⟩ := n_becomesLike (B := 10) (C := 2) (by omega) hs1 kN
  have k1 : mget M1 1 = some (oRR 2 10 18 27 31 35 tr ft) := (a4.2.2 1 (by omega)).trans k0
  obtain ⟨M2, m2, r2, b1, b2, b3⟩ := t_tog_loop (i := i) (j := j) hi hj 100 0 M1 _ r (by omega) k1 a3
  rw [ztog_cong hl5 a2] at b1
  have frA := zFr.tr a4 b3
  have frB := frA.mono (lo' := 1) (hi' := 43) (by omega) (by omega)
  have hC2 := hC0.sp (M1 := M2) (fun a _ _ _ _ => frA.2.2 a (by omega)) (kP.nur frA b2)
  have hx2 : zMdl M2 x A := hx.fr fun a g1 g2 => frA.2.2 _ (by omega)
  obtain ⟨M3, A1, e1, e2, e3, e4, e5⟩ := m_keepAll hx2 x2 hr5
  have mr : zMR (upd (upd x 12 (x 4)) 13 (x 5)) A1 q nl nr F r := ⟨x1, x2, x3, q1, q2, hl5, hr5, ⟨fun j hj => by rw [e3 45 (by omega) (by omega)]; exact hN.1 j hj, fun j hj => by
    rw [e3 46 (by omega) (by omega), e3 47 (by omega) (by omega), e3 48 (by omega) (by omega), e3 49 (by omega) (by omega), e3 50 (by omega) (by omega)]; exact hN.2 j hj⟩, hI⟩
  obtain ⟨M4, y, B, n', d', f1, f2, f3, f4⟩ := m_tog_loop (i := i) (j := j) hi hj 100 0 M3 _ A1 r none (by omega) e2 mr x5 hO
  have y2 : y 2 = nI nr := (f3.1 2 (by omega) (by omega) (by omega) (by omega)).trans x2
  obtain ⟨M5, A3, j1, j2, j3, j4, j5⟩ := m_bringBack f2 y2 hr5
  refine ⟨ztog (nI q) F nl nr i j 100 0 r, M2, M5, ?_, ?_, zFin h65 (z44 hz44 frB) frB (zFr.tr (zFr.tr e5 f4) j5) hC2 (m_round ⟨x0, x1, x2, x3, x4, x5, x16, x17⟩ hN hR hS e3 e4 f3 j2 j3 j4) hI hJ hK⟩
  · have hz10 : zoc (mget M 10) = some 1 := by rw [hs1.2.2.2.1]; exact coNur
    rw [nI_0] at b1
    rw [← b1]
    simp only [e83_0, e83_0n, e83_1, e83_4, e83_5, e83_8, e83_8n, e83_11, e83_11n, e83_12, e83_15, e83_16, e83_19, e83_19n, e83_22, e83_23, e83_24, e83_27, e83_28, e83_29, e83_29n, e83_30, e83_33, e83_33n, e83_34, e83_37, e83_40, e83_41, e83_43, e83_45, e83_48, e83_48n, e83_49, e83_52, e83_53, e83_54, e83_57, e83_60, e83_61, e83_62, e83_62n, e83_63, e83_66, e83_69, e83_70, e83_73, e83_76, e83_78, ↓reduceIte, zth_v, zth_n, zthv_s, zthi_s, zthm_s, true_or, or_true, eq_self, ne_eq, not_false_eq_true, not_true_eq_false, and_self, and_true, true_and, false_and, and_false, foRR_0, foRR_1, foRR_2, foRR_3, foRR_4, foRR_5, foRR_6, foRR_7, poRR_6, poRR_7, coRR, k0, hz2, hz10, h9, h7, n3, n4, c1, a1, Nat.reduceEqDiff]
  · have hz44' : zoc (mget M2 44) = some 8 := by rw [hx2.1]; exact coMod
    have h8' := m_noRider_in hx2 x2 hr5 hi
    have h6' := m_noRider_in hx2 x2 hr5 hj
    have hz4 : zoc (mget M4 44) = some 8 := by rw [f2.1]; exact coMod
    have st : ev 156 0 [some (.ref 44), some (.int (nI i)), some (.int (nI j)), none, none, none] [] M2 = ev 156 33 [some (.ref 44), some (.int (nI i)), some (.int (nI j)), some (.int (-9)), some (.int 0), none] [] M3 := by
      simp only [e156_0, e156_0n, e156_1, e156_2, e156_5, e156_8, e156_8n, e156_9, e156_10, e156_13, e156_16, e156_17, e156_18, e156_21, e156_22, e156_23, e156_23n, e156_24, e156_27, e156_29, e156_30, e156_31, e156_35, e156_37, e156_40, e156_41, e156_44, e156_44n, e156_45, e156_45n, e156_46, e156_49, e156_50, e156_51, e156_54, e156_56, e156_58, e156_61, e156_63, e156_63n, e156_64, e156_64n, e156_65, e156_68, e156_69, e156_70, e156_73, e156_76, e156_78, e156_81, e156_83, e156_84, e156_84n, e156_85, e156_88, e156_91, e156_94, e156_94n, e156_95, e156_98, e156_99, ↓reduceIte, zth_v, zth_n, zthv_s, zthi_s, zthm_s, true_or, or_true, eq_self, ne_eq, not_false_eq_true, not_true_eq_false, and_self, and_true, true_and, false_and, and_false, hz44', h8', h6', c1, e1, Nat.reduceEqDiff]
    rw [nI_0] at f1
    rw [st, f1]
    simp only [e156_0, e156_0n, e156_1, e156_2, e156_5, e156_8, e156_8n, e156_9, e156_10, e156_13, e156_16, e156_17, e156_18, e156_21, e156_22, e156_23, e156_23n, e156_24, e156_27, e156_29, e156_30, e156_31, e156_33, e156_35, e156_37, e156_40, e156_41, e156_44, e156_44n, e156_45, e156_45n, e156_46, e156_49, e156_50, e156_51, e156_54, e156_56, e156_58, e156_61, e156_63, e156_63n, e156_64, e156_64n, e156_65, e156_68, e156_69, e156_70, e156_73, e156_76, e156_78, e156_81, e156_83, e156_84, e156_84n, e156_85, e156_88, e156_91, e156_94, e156_94n, e156_95, e156_98, e156_99, ↓reduceIte, zth_v, zth_n, zthv_s, zthi_s, zthm_s, true_or, or_true, eq_self, ne_eq, not_false_eq_true, not_true_eq_false, and_self, and_true, true_and, false_and, and_false, hz4, j1, Nat.reduceEqDiff]
