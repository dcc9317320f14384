/-! Call by call: guides, whole -/
theorem zSpare.guid {M M1 : zMem} (h : zSpare M) (hf : zFr M M1 31 34) {lg mt : Int32} {cm bs gv : Nat → Int32} (hG : zGu M1 31 lg mt cm bs gv) (h0 : ∀ i, i < 32 → bs (160 + i) = 0) : zSpare M1 := by
  obtain ⟨⟨_, _, _, _, _, _, h1⟩, ⟨_, _, _, _, _, h2, h3, _, h4⟩, -⟩ := h
  exact ⟨⟨_, _, _, _, _, _, h1.fr fun a g1 g2 => hf.2.2 a (by omega)⟩, ⟨_, _, _, _, _, h2, (hf.2.2 _ (by omega)).trans h3, _, h4.fr fun a g1 g2 => hf.2.2 a (by omega)⟩, _, _, _, _, _, hG, h0⟩
theorem k5_or (k : Int32) : (k < -2 ∨ 4 < k) ∨ k = -2 ∨ k = -1 ∨ ∃ j, j < 5 ∧ k = nI j := by
  rcases kr_or k (n := 5) (by omega) with h | h
  · by_cases c : k < -2 ∨ 4 < k
    · exact Or.inl c
    · right
      rw [Int32.lt_iff_toInt_lt, Int32.lt_iff_toInt_lt, show (-2 : Int32).toInt = -2 from by decide, show (4 : Int32).toInt = 4 from by decide] at c
      rw [Int32.lt_iff_toInt_lt, Int32.le_iff_toInt_le, show (nI 5).toInt = 5 from by decide, show (0 : Int32).toInt = 0 from by decide] at h
      have : k.toInt = -2 ∨ k.toInt = -1 := by omega
      rcases this with e | e
      · left; apply Int32.toInt_inj.mp; rw [e]; decide
      · right; left; apply Int32.toInt_inj.mp; rw [e]; decide
  · exact Or.inr (Or.inr (Or.inr h))
theorem p_guides {M : zMem} (g : zGood M) {k : Int32} : zPI 86 162 [some (.int k)] [some (.int k), none, none] M := by
  have g0 := g
  obtain ⟨h65, c, nl, nr, m, F, r, n, o, mm, w, ln, sn, f, tr, ft, hC, ⟨x, A, hx, hX, hN, hR, hS⟩, hI, hJ, hK⟩ := g
  have hC0 := hC
  have hX0 := hX
  obtain ⟨k0, kN, kR, kS, kP⟩ := hC
  have hz2 : zoc (mget M 2) = some 1 := by rw [kN.2.2.2.1]; exact coNur
  have hz1 : zoc (mget M 1) = some 7 := by rw [k0]; exact coRR
  have hz44 : zoc (mget M 44) = some 8 := by rw [hx.1]; exact coMod
  have hl5 := kN.2.1
  have hr5 := kN.2.2.1
  have hn8 := kR.2.1
  obtain ⟨x0, x1, x2, x3, x4, x5, x16, x17⟩ := hX
  have o44 := hx.1
  have h9 := n_isThere kN
  rcases hI.1 with ⟨rfl, rfl, rfl⟩ | ⟨⟨q, q1, q2, rfl⟩, q3, q4⟩
  · refine ⟨-3, M, M, ?_, ?_, zSkip hz44 g0⟩
    · simp only [e86_0, e86_0n, e86_1, e86_4, e86_7, e86_10, e86_12, e86_13, e86_14, e86_16, e86_19, e86_20, e86_21, e86_24, e86_26, e86_27, e86_27n, e86_28, e86_31, e86_31n, e86_32, e86_35, e86_38, e86_39, e86_41, e86_44, e86_44n, e86_45, e86_48, e86_51, e86_52, e86_53, e86_54, e86_57, e86_57n, e86_58, e86_61, e86_64, e86_67, e86_67n, e86_68, e86_71, e86_72, e86_75, ↓reduceIte, zth_v, zth_n, zthv_s, zthi_s, zthm_s, true_or, or_true, eq_self, ne_eq, not_false_eq_true, not_true_eq_false, and_self, and_true, true_and, false_and, and_false, foRR_0, foRR_1, foRR_2, foRR_3, foRR_4, foRR_5, foRR_6, foRR_7, poRR_6, poRR_7, coRR, k0, hz2, h9, Int32.le_refl, Nat.reduceEqDiff]
    · simp only [e162_0, e162_0n, e162_1, e162_4, e162_7, e162_9, e162_10, e162_11, e162_12, e162_15, e162_18, e162_21, e162_24, e162_26, e162_27, e162_28, e162_29, e162_30, e162_31, e162_32, e162_32n, e162_33, e162_36, e162_39, e162_40, e162_40n, e162_41, e162_44, e162_45, e162_46, e162_47, e162_48, e162_51, e162_54, e162_54n, e162_55, e162_57, e162_60, e162_61, e162_62, e162_63, e162_64, e162_67, e162_67n, e162_68, e162_69, e162_72, e162_72n, e162_73, e162_76, e162_79, e162_82, e162_83, e162_85, e162_88, e162_88n, e162_89, e162_92, e162_95, e162_96, e162_97, e162_100, e162_100n, e162_101, e162_104, e162_107, e162_107n, e162_108, e162_109, e162_112, e162_115, e162_115n, e162_116, e162_119, e162_120, e162_121, e162_121n, e162_122, e162_125, e162_128, e162_130, e162_133, e162_133n, e162_134, e162_137, e162_138, e162_139, ↓reduceIte, zth_v, zth_n, zthv_s, zthi_s, zthm_s, true_or, or_true, eq_self, ne_eq, not_false_eq_true, not_true_eq_false, and_self, and_true, true_and, false_and, and_false, foMod_0, foMod_1, foMod_2, foMod_3, foMod_4, foMod_5, foMod_6, foMod_7, foMod_8, foMod_9, foMod_10, foMod_11, foMod_12, foMod_13, foMod_14, foMod_15, foMod_16, foMod_17, foMod_18, foMod_19, foMod_20, foMod_21, foMod_22, foMod_23, foMod_24, foMod_25, foMod_26, foMod_27, foMod_28, foMod_29, foMod_30, foMod_31, foMod_32, foMod_33, foMod_34, foMod_35, foMod_36, foMod_37, foMod_38, poMod_0, poMod_1, poMod_2, poMod_3, poMod_4, poMod_5, poMod_12, poMod_13, poMod_14, poMod_15, poMod_20, poMod_21, poMod_22, poMod_23, poMod_28, poMod_29, poMod_30, poMod_38, coMod, o44, x2, nI_0, Nat.reduceEqDiff]
  have g1 := c_le q1 q2
  have g2 : ¬ nI nr = 0 := nI_ne0 (by omega) (by omega)
  simp only [g1, if_false] at h9
  rcases (show (k < -2 ∨ 4 < k) ∨ (k = -2 ∨ k = -1 ∨ ∃ j, j < 5 ∧ k = nI j) from k5_or k) with qk | qk
  · refine ⟨-2, M, M, ?_, ?_, zSkip hz44 g0⟩
    · by_cases k1 : k < -2
      · simp only [e86_0, e86_0n, e86_1, e86_4, e86_7, e86_10, e86_12, e86_13, e86_14, e86_16, e86_19, e86_20, e86_21, e86_24, e86_26, e86_27, e86_27n, e86_28, e86_31, e86_31n, e86_32, e86_35, e86_38, e86_39, e86_41, e86_44, e86_44n, e86_45, e86_48, e86_51, e86_52, e86_53, e86_54, e86_57, e86_57n, e86_58, e86_61, e86_64, e86_67, e86_67n, e86_68, e86_71, e86_72, e86_75, ↓reduceIte, zth_v, zth_n, zthv_s, zthi_s, zthm_s, true_or, or_true, eq_self, ne_eq, not_false_eq_true, not_true_eq_false, and_self, and_true, true_and, false_and, and_false, foRR_0, foRR_1, foRR_2, foRR_3, foRR_4, foRR_5, foRR_6, foRR_7, poRR_6, poRR_7, coRR, k0, hz2, h9, k1, i10, Nat.reduceEqDiff]
      · have k2 := qk.resolve_left k1
        have k3 : ¬ k < 5 := by
          rw [Int32.lt_iff_toInt_lt, show (4 : Int32).toInt = 4 from by decide] at k2
          rw [Int32.lt_iff_toInt_lt, show (5 : Int32).toInt = 5 from by decide]
          omega
        simp only [e86_0, e86_0n, e86_1, e86_4, e86_7, e86_10, e86_12, e86_13, e86_14, e86_16, e86_19, e86_20, e86_21, e86_24, e86_26, e86_27, e86_27n, e86_28, e86_31, e86_31n, e86_32, e86_35, e86_38, e86_39, e86_41, e86_44, e86_44n, e86_45, e86_48, e86_51, e86_52, e86_53, e86_54, e86_57, e86_57n, e86_58, e86_61, e86_64, e86_67, e86_67n, e86_68, e86_71, e86_72, e86_75, ↓reduceIte, zth_v, zth_n, zthv_s, zthi_s, zthm_s, true_or, or_true, eq_self, ne_eq, not_false_eq_true, not_true_eq_false, and_self, and_true, true_and, false_and, and_false, foRR_0, foRR_1, foRR_2, foRR_3, foRR_4, foRR_5, foRR_6, foRR_7, poRR_6, poRR_7, coRR, k0, hz2, h9, k1, k3, i10, Nat.reduceEqDiff]
    · simp only [e162_0, e162_0n, e162_1, e162_4, e162_7, e162_9, e162_10, e162_11, e162_12, e162_15, e162_18, e162_21, e162_24, e162_26, e162_27, e162_28, e162_29, e162_30, e162_31, e162_32, e162_32n, e162_33, e162_36, e162_39, e162_40, e162_40n, e162_41, e162_44, e162_45, e162_46, e162_47, e162_48, e162_51, e162_54, e162_54n, e162_55, e162_57, e162_60, e162_61, e162_62, e162_63, e162_64, e162_67, e162_67n, e162_68, e162_69, e162_72, e162_72n, e162_73, e162_76, e162_79, e162_82, e162_83, e162_85, e162_88, e162_88n, e162_89, e162_92, e162_95, e162_96, e162_97, e162_100, e162_100n, e162_101, e162_104, e162_107, e162_107n, e162_108, e162_109, e162_112, e162_115, e162_115n, e162_116, e162_119, e162_120, e162_121, e162_121n, e162_122, e162_125, e162_128, e162_130, e162_133, e162_133n, e162_134, e162_137, e162_138, e162_139, ↓reduceIte, zth_v, zth_n, zthv_s, zthi_s, zthm_s, true_or, or_true, eq_self, ne_eq, not_false_eq_true, not_true_eq_false, and_self, and_true, true_and, false_and, and_false, foMod_0, foMod_1, foMod_2, foMod_3, foMod_4, foMod_5, foMod_6, foMod_7, foMod_8, foMod_9, foMod_10, foMod_11, foMod_12, foMod_13, foMod_14, foMod_15, foMod_16, foMod_17, foMod_18, foMod_19, foMod_20, foMod_21, foMod_22, foMod_23, foMod_24, foMod_25, foMod_26, foMod_27, foMod_28, foMod_29, foMod_30, foMod_31, foMod_32, foMod_33, foMod_34, foMod_35, foMod_36, foMod_37, foMod_38, poMod_0, poMod_1, poMod_2, poMod_3, poMod_4, poMod_5, poMod_12, poMod_13, poMod_14, poMod_15, poMod_20, poMod_21, poMod_22, poMod_23, poMod_28, poMod_29, poMod_30, poMod_38, coMod, o44, x2, g2, m_in_2_4, qk, Nat.reduceEqDiff]
  have qk2 : ¬ (k < -2 ∨ 4 < k) := by
    rcases qk with rfl | rfl | ⟨j, hj, rfl⟩
    · decide
    · decide
    · rintro (z | z)
      · exact absurd (Int32.lt_trans z (show (-2 : Int32) < 0 from by decide)) (nI_pos (by omega))
      · exact nI_nlt (a := 4) (by omega) (by omega) z
  have qk3 : ¬ k < -2 := fun z => qk2 (Or.inl z)
  have qk4 : k < 5 := by
    have : ¬ 4 < k := fun z => qk2 (Or.inr z)
    rw [Int32.lt_iff_toInt_lt, show (4 : Int32).toInt = 4 from by decide] at this
    rw [Int32.lt_iff_toInt_lt, show (5 : Int32).toInt = 5 from by decide]
    omega
  obtain ⟨-, -, lg, mt, cm0, bs0, gv0, hG, hG0⟩ := id kP
  have hT := zT_ok hI
  obtain ⟨M1, cm, bs, gv, a1, a2, a3, a4, a5, a6, a7⟩ := g_finds hG hG0 kN hT (by omega)
  have mr : zMR x A q nl nr F r := ⟨x1, x2, x3, q1, q2, hl5, hr5, hN, hI⟩
  have G := guides_e (c := gC q nl nr F r) (nl := nl) (nr := nr) (cm := cm) (bs := bs) (gC_9 hI) gC_l gC_k hl5 hr5 (fun k l hk hl => by
    rw [a3 _ (by omega)]
    unfold gcm
    rw [show (k * 5 + l) / 5 = k from by omega, show (k * 5 + l) % 5 = l from by omega]
    by_cases c1 : k < nr
    · rw [if_pos c1]
      by_cases c2 : l < nl
      · rw [if_pos c2]; exact gC_e hI c1 c2
      · rw [if_neg c2, gC_l k l (by omega)]; rfl
    · rw [if_neg c1, gC_k k l (by omega)]; rfl) a4 a5
  have fr1 := a7.mono (lo' := 1) (hi' := 43) (by omega) (by omega)
  have hC2 := hC0.sp (M1 := M1) (fun a _ _ _ _ => a7.2.2 a (by omega)) (kP.guid (a7.mono (by omega) (by omega)) a2 a4)
  have hx1 : zMdl M1 x A := hx.fr fun a g1 g2 => fr1.2.2 _ (by omega)
  have hz4 : zoc (mget M1 44) = some 8 := by rw [hx1.1]; exact coMod
  -- the model
  have hRp : (nl + 1) ^ nr < 10000 := by
    have e1 : (nl + 1) ^ nr ≤ 6 ^ nr := Nat.pow_le_pow_left (by omega) nr
    have e2 : 6 ^ nr ≤ 6 ^ 5 := Nat.pow_le_pow_right (by omega) hr5
    have e3 : 6 ^ 5 = 7776 := by decide
    omega
  have hx2 := hx1.setX (upd x 14 (-9))
  have pw := m_power_loop hx1 x1 x2 hl5 hr5 (y1 := some (.int k)) nr 0 (by omega)
  obtain ⟨M2, y, B, b1, b2, b3, b4, b5, b6⟩ := m_rows_loop hRp (y1 := some (.int k)) ((nl + 1) ^ nr) 0 _ (upd x 14 (-9)) A (by omega) hx2 mr q4 (Or.inl ⟨fun j hj => by omega, rfl⟩)
  rw [Nat.pow_zero, nI_0] at pw
  rw [nI_0] at b1
  have P := dp_PBs (c := gC q nl nr F r) gC_l hl5 nr 0 0
  have Pp := nb_pos (c := gC q nl nr F r) nr 0 0
  have b3' : y 14 = nI (rgm (gC q nl nr F r) nl nr 0 (sIx (gC q nl nr F r) nl nr 0 0)).1 ∧ y 15 = nI (rgm (gC q nl nr F r) nl nr 0 (sIx (gC q nl nr F r) nl nr 0 0)).2 ∧ ∀ k, k < nr → B 58 k = nI (dg (nl + 1) (nr - 1 - k) (sIx (gC q nl nr F r) nl nr 0 0)) := by
    rcases b3 with ⟨z1, -⟩ | ⟨v, i, v1, p, u1, u2, u3⟩
    · have := z1 _ P.1
      have := P.2.1
      omega
    · have e := PBs_uniq p P
      subst e
      exact ⟨u1, u2, u3⟩
  obtain ⟨G1, G2, G3⟩ := G
  obtain ⟨B1, B2, B3⟩ := b3'
  have o1 := hx1.1
  have o2 := b2.1
  have yx : ∀ i, i ≠ 14 → i ≠ 15 → y i = x i := fun i h1 h2 => (b4 i h1 h2).trans (pk_un h1)
  have st8 : ev 162 0 [some (.ref 44), some (.int k), none, none] [] M1 = ev 162 82 [some (.ref 44), some (.int k), some (.int (nI ((nl + 1) ^ nr))), some (.int (nI ((nl + 1) ^ nr)))] [] M2 := by
    rw [← b1]
    have s1 : ev 162 0 [some (.ref 44), some (.int k), none, none] [] M1 = ev 162 31 [some (.ref 44), some (.int k), some (.int (nI 1)), some (.int 0)] [] M1 := by
      simp only [e162_0, e162_0n, e162_1, e162_4, e162_7, e162_9, e162_10, e162_11, e162_12, e162_15, e162_18, e162_21, e162_24, e162_26, e162_27, e162_28, e162_29, e162_30, e162_32, e162_32n, e162_33, e162_36, e162_39, e162_40, e162_40n, e162_41, e162_44, e162_45, e162_46, e162_47, e162_48, e162_51, e162_54, e162_54n, e162_55, e162_57, e162_60, e162_61, e162_62, e162_63, e162_64, e162_67, e162_67n, e162_68, e162_69, e162_72, e162_72n, e162_73, e162_76, e162_79, e162_82, e162_83, e162_85, e162_88, e162_88n, e162_89, e162_92, e162_95, e162_96, e162_97, e162_100, e162_100n, e162_101, e162_104, e162_107, e162_107n, e162_108, e162_109, e162_112, e162_115, e162_115n, e162_116, e162_119, e162_120, e162_121, e162_121n, e162_122, e162_125, e162_128, e162_130, e162_133, e162_133n, e162_134, e162_137, e162_138, e162_139, ↓reduceIte, zth_v, zth_n, zthv_s, zthi_s, zthm_s, true_or, or_true, eq_self, ne_eq, not_false_eq_true, not_true_eq_false, and_self, and_true, true_and, false_and, and_false, foMod_0, foMod_1, foMod_2, foMod_3, foMod_4, foMod_5, foMod_6, foMod_7, foMod_8, foMod_9, foMod_10, foMod_11, foMod_12, foMod_13, foMod_14, foMod_15, foMod_16, foMod_17, foMod_18, foMod_19, foMod_20, foMod_21, foMod_22, foMod_23, foMod_24, foMod_25, foMod_26, foMod_27, foMod_28, foMod_29, foMod_30, foMod_31, foMod_32, foMod_33, foMod_34, foMod_35, foMod_36, foMod_37, foMod_38, poMod_0, poMod_1, poMod_2, poMod_3, poMod_4, poMod_5, poMod_12, poMod_13, poMod_14, poMod_15, poMod_20, poMod_21, poMod_22, poMod_23, poMod_28, poMod_29, poMod_30, poMod_38, coMod, o1, x2, g2, m_in_2_4, qk2, i10, Nat.reduceEqDiff]
      rfl
    have em : mset M1 44 (oMod (x 0) (x 1) (x 2) (x 3) (x 4) (x 5) (x 6) (x 7) (x 8) (x 9) (x 10) (x 11) (x 12) (x 13) (-9) (x 15) (x 16) (x 17)) = mset M1 44 (oM (upd x 14 (-9))) := rfl
    rw [s1, pw]
    simp only [e162_0, e162_0n, e162_1, e162_4, e162_7, e162_9, e162_10, e162_11, e162_12, e162_15, e162_18, e162_21, e162_24, e162_26, e162_27, e162_28, e162_29, e162_30, e162_32, e162_32n, e162_33, e162_36, e162_39, e162_40, e162_40n, e162_41, e162_44, e162_45, e162_46, e162_47, e162_48, e162_51, e162_54, e162_54n, e162_55, e162_57, e162_60, e162_61, e162_63, e162_64, e162_67, e162_67n, e162_68, e162_69, e162_72, e162_72n, e162_73, e162_76, e162_79, e162_82, e162_83, e162_85, e162_88, e162_88n, e162_89, e162_92, e162_95, e162_96, e162_97, e162_100, e162_100n, e162_101, e162_104, e162_107, e162_107n, e162_108, e162_109, e162_112, e162_115, e162_115n, e162_116, e162_119, e162_120, e162_121, e162_121n, e162_122, e162_125, e162_128, e162_130, e162_133, e162_133n, e162_134, e162_137, e162_138, e162_139, ↓reduceIte, zth_v, zth_n, zthv_s, zthi_s, zthm_s, true_or, or_true, eq_self, ne_eq, not_false_eq_true, not_true_eq_false, and_self, and_true, true_and, false_and, and_false, foMod_0, foMod_1, foMod_2, foMod_3, foMod_4, foMod_5, foMod_6, foMod_7, foMod_8, foMod_9, foMod_10, foMod_11, foMod_12, foMod_13, foMod_14, foMod_15, foMod_16, foMod_17, foMod_18, foMod_19, foMod_20, foMod_21, foMod_22, foMod_23, foMod_24, foMod_25, foMod_26, foMod_27, foMod_28, foMod_29, foMod_30, foMod_31, foMod_32, foMod_33, foMod_34, foMod_35, foMod_36, foMod_37, foMod_38, poMod_0, poMod_1, poMod_2, poMod_3, poMod_4, poMod_5, poMod_12, poMod_13, poMod_14, poMod_15, poMod_20, poMod_21, poMod_22, poMod_23, poMod_28, poMod_29, poMod_30, poMod_38, coMod, o1, em, Nat.reduceEqDiff]
  have st7 : ev 86 0 [some (.ref 1), some (.int k)] [] M = ev 86 38 [some (.ref 1), some (.int k)] [] M1 := by
    have hz31 : zoc (mget M 31) = some 0 := by rw [hG.2.1]; exact coGuid
    simp only [e86_0, e86_0n, e86_1, e86_4, e86_7, e86_10, e86_12, e86_13, e86_14, e86_16, e86_19, e86_20, e86_21, e86_24, e86_26, e86_27, e86_27n, e86_28, e86_31, e86_31n, e86_32, e86_35, e86_39, e86_41, e86_44, e86_44n, e86_45, e86_48, e86_51, e86_52, e86_53, e86_54, e86_57, e86_57n, e86_58, e86_61, e86_64, e86_67, e86_67n, e86_68, e86_71, e86_72, e86_75, ↓reduceIte, zth_v, zth_n, zthv_s, zthi_s, zthm_s, true_or, or_true, eq_self, ne_eq, not_false_eq_true, not_true_eq_false, and_self, and_true, true_and, false_and, and_false, foRR_0, foRR_1, foRR_2, foRR_3, foRR_4, foRR_5, foRR_6, foRR_7, poRR_6, poRR_7, coRR, k0, hz2, hz31, h9, a1, qk3, qk4, i10, Nat.reduceEqDiff]
  have k1 : mget M1 1 = some (oRR 2 10 18 27 31 35 tr ft) := (a7.2.2 1 (by omega)).trans k0
  have fin := (zFin (M1 := M1) (M2 := M2) h65 (z44 hz44 fr1) fr1 ((zFr.rf.set (a := 44) (c := oM (upd x 14 (-9))) (by omega) (by omega)).tr b6) hC2 ⟨y, B, b2, ⟨(yx 0 (by omega) (by omega)).trans x0, (yx 1 (by omega) (by omega)).trans x1, (yx 2 (by omega) (by omega)).trans x2, (yx 3 (by omega) (by omega)).trans x3, (yx 4 (by omega) (by omega)).trans x4, (yx 5 (by omega) (by omega)).trans x5, (yx 16 (by omega) (by omega)).trans x16, (yx 17 (by omega) (by omega)).trans x17⟩, ⟨fun j hj => by rw [b5 45 (by omega) (by omega)]; exact hN.1 j hj, fun j hj => by
    rw [b5 46 (by omega) (by omega), b5 47 (by omega) (by omega), b5 48 (by omega) (by omega), b5 49 (by omega) (by omega), b5 50 (by omega) (by omega)]; exact hN.2 j hj⟩, ⟨by rw [b5 59 (by omega) (by omega)]; exact hR.1, by rw [b5 60 (by omega) (by omega)]; exact hR.2.1, by rw [b5 61 (by omega) (by omega)]; exact hR.2.2⟩, ⟨by rw [b5 62 (by omega) (by omega)]; exact hS.1, by rw [b5 63 (by omega) (by omega)]; exact hS.2.1, by rw [b5 64 (by omega) (by omega)]; exact hS.2.2⟩⟩ hI hJ hK)
  have a31 := a2.2.1
  rcases qk with rfl | rfl | ⟨j, hj, rfl⟩
  · refine ⟨nI (rgm (gC q nl nr F r) nl nr 0 (sIx (gC q nl nr F r) nl nr 0 0)).1, M1, M2, ?_, ?_, fin⟩
    · rw [st7, ← G1]
      simp only [e86_0, e86_0n, e86_1, e86_4, e86_7, e86_10, e86_12, e86_13, e86_14, e86_16, e86_19, e86_20, e86_21, e86_24, e86_26, e86_27, e86_27n, e86_28, e86_31, e86_31n, e86_32, e86_35, e86_38, e86_39, e86_41, e86_44, e86_44n, e86_45, e86_48, e86_51, e86_52, e86_53, e86_54, e86_57, e86_57n, e86_58, e86_61, e86_64, e86_67, e86_67n, e86_68, e86_71, e86_72, e86_75, ↓reduceIte, zth_v, zth_n, zthv_s, zthi_s, zthm_s, true_or, or_true, eq_self, ne_eq, not_false_eq_true, not_true_eq_false, and_self, and_true, true_and, false_and, and_false, foRR_0, foRR_1, foRR_2, foRR_3, foRR_4, foRR_5, foRR_6, foRR_7, poRR_6, poRR_7, coRR, foGuid_0, foGuid_1, foGuid_2, foGuid_3, foGuid_4, poGuid_3, poGuid_4, coGuid, k1, a31, Nat.reduceEqDiff]
    · rw [st8, ← B1]
      simp only [e162_0, e162_0n, e162_1, e162_4, e162_7, e162_9, e162_10, e162_11, e162_12, e162_15, e162_18, e162_21, e162_24, e162_26, e162_27, e162_28, e162_29, e162_30, e162_31, e162_32, e162_32n, e162_33, e162_36, e162_39, e162_40, e162_40n, e162_41, e162_44, e162_45, e162_46, e162_47, e162_48, e162_51, e162_54, e162_54n, e162_55, e162_57, e162_60, e162_61, e162_62, e162_63, e162_64, e162_67, e162_67n, e162_68, e162_69, e162_72, e162_72n, e162_73, e162_76, e162_79, e162_82, e162_83, e162_85, e162_88, e162_88n, e162_89, e162_92, e162_95, e162_96, e162_97, e162_100, e162_100n, e162_101, e162_104, e162_107, e162_107n, e162_108, e162_109, e162_112, e162_115, e162_115n, e162_116, e162_119, e162_120, e162_121, e162_121n, e162_122, e162_125, e162_128, e162_130, e162_133, e162_133n, e162_134, e162_137, e162_138, e162_139, ↓reduceIte, zth_v, zth_n, zthv_s, zthi_s, zthm_s, true_or, or_true, eq_self, ne_eq, not_false_eq_true, not_true_eq_false, and_self, and_true, true_and, false_and, and_false, foMod_0, foMod_1, foMod_2, foMod_3, foMod_4, foMod_5, foMod_6, foMod_7, foMod_8, foMod_9, foMod_10, foMod_11, foMod_12, foMod_13, foMod_14, foMod_15, foMod_16, foMod_17, foMod_18, foMod_19, foMod_20, foMod_21, foMod_22, foMod_23, foMod_24, foMod_25, foMod_26, foMod_27, foMod_28, foMod_29, foMod_30, foMod_31, foMod_32, foMod_33, foMod_34, foMod_35, foMod_36, foMod_37, foMod_38, poMod_0, poMod_1, poMod_2, poMod_3, poMod_4, poMod_5, poMod_12, poMod_13, poMod_14, poMod_15, poMod_20, poMod_21, poMod_22, poMod_23, poMod_28, poMod_29, poMod_30, poMod_38, coMod, o2, Nat.reduceEqDiff]
  · have n1 : ¬ (-1 : Int32) = -2 := by decide
    refine ⟨nI (rgm (gC q nl nr F r) nl nr 0 (sIx (gC q nl nr F r) nl nr 0 0)).2, M1, M2, ?_, ?_, fin⟩
    · rw [st7, ← G2]
      simp only [e86_0, e86_0n, e86_1, e86_4, e86_7, e86_10, e86_12, e86_13, e86_14, e86_16, e86_19, e86_20, e86_21, e86_24, e86_26, e86_27, e86_27n, e86_28, e86_31, e86_31n, e86_32, e86_35, e86_38, e86_39, e86_41, e86_44, e86_44n, e86_45, e86_48, e86_51, e86_52, e86_53, e86_54, e86_57, e86_57n, e86_58, e86_61, e86_64, e86_67, e86_67n, e86_68, e86_71, e86_72, e86_75, ↓reduceIte, zth_v, zth_n, zthv_s, zthi_s, zthm_s, true_or, or_true, eq_self, ne_eq, not_false_eq_true, not_true_eq_false, and_self, and_true, true_and, false_and, and_false, foRR_0, foRR_1, foRR_2, foRR_3, foRR_4, foRR_5, foRR_6, foRR_7, poRR_6, poRR_7, coRR, foGuid_0, foGuid_1, foGuid_2, foGuid_3, foGuid_4, poGuid_3, poGuid_4, coGuid, k1, a31, n1, Nat.reduceEqDiff]
    · rw [st8, ← B2]
      simp only [e162_0, e162_0n, e162_1, e162_4, e162_7, e162_9, e162_10, e162_11, e162_12, e162_15, e162_18, e162_21, e162_24, e162_26, e162_27, e162_28, e162_29, e162_30, e162_31, e162_32, e162_32n, e162_33, e162_36, e162_39, e162_40, e162_40n, e162_41, e162_44, e162_45, e162_46, e162_47, e162_48, e162_51, e162_54, e162_54n, e162_55, e162_57, e162_60, e162_61, e162_62, e162_63, e162_64, e162_67, e162_67n, e162_68, e162_69, e162_72, e162_72n, e162_73, e162_76, e162_79, e162_82, e162_83, e162_85, e162_88, e162_88n, e162_89, e162_92, e162_95, e162_96, e162_97, e162_100, e162_100n, e162_101, e162_104, e162_107, e162_107n, e162_108, e162_109, e162_112, e162_115, e162_115n, e162_116, e162_119, e162_120, e162_121, e162_121n, e162_122, e162_125, e162_128, e162_130, e162_133, e162_133n, e162_134, e162_137, e162_138, e162_139, ↓reduceIte, zth_v, zth_n, zthv_s, zthi_s, zthm_s, true_or, or_true, eq_self, ne_eq, not_false_eq_true, not_true_eq_false, and_self, and_true, true_and, false_and, and_false, foMod_0, foMod_1, foMod_2, foMod_3, foMod_4, foMod_5, foMod_6, foMod_7, foMod_8, foMod_9, foMod_10, foMod_11, foMod_12, foMod_13, foMod_14, foMod_15, foMod_16, foMod_17, foMod_18, foMod_19, foMod_20, foMod_21, foMod_22, foMod_23, foMod_24, foMod_25, foMod_26, foMod_27, foMod_28, foMod_29, foMod_30, foMod_31, foMod_32, foMod_33, foMod_34, foMod_35, foMod_36, foMod_37, foMod_38, poMod_0, poMod_1, poMod_2, poMod_3, poMod_4, poMod_5, poMod_12, poMod_13, poMod_14, poMod_15, poMod_20, poMod_21, poMod_22, poMod_23, poMod_28, poMod_29, poMod_30, poMod_38, coMod, o2, n1, Nat.reduceEqDiff]
  · have gj := g_landGivenTo_in a2 hj
    rw [a6 j hj, G3 j hj] at gj
    have hz31 : zoc (mget M1 31) = some 0 := by rw [a31]; exact coGuid
    have hz5 : zoc (mget M2 44) = some 8 := by rw [o2]; exact coMod
    have p0 : ¬ nI j < 0 := nI_pos (by omega)
    have n2 : ¬ nI j = -2 := fun z => by rw [z] at p0; exact p0 (by decide)
    have n1 : ¬ nI j = -1 := fun z => by rw [z] at p0; exact p0 (by decide)
    have y2 : y 2 = nI nr := (yx 2 (by omega) (by omega)).trans x2
    have y1 : y 1 = nI nl := (yx 1 (by omega) (by omega)).trans x1
    by_cases c1 : j < nr
    · rw [if_pos c1] at gj
      have h8 := m_noRider_in b2 y2 hr5 c1
      have o58 := b2.2 58 (by omega) (by omega)
      have z58 := zia_in (n := zsz 58) (f := B 58) (j := j) (show j < 5 by omega) (show 5 < 2 ^ 31 by omega)
      rw [B3 j c1] at z58
      have hd := dg_lt (nl + 1) (nr - 1 - j) (sIx (gC q nl nr F r) nl nr 0 0) (by omega)
      generalize dg (nl + 1) (nr - 1 - j) (sIx (gC q nl nr F r) nl nr 0 0) = d at *
      by_cases c2 : d = nl
      · rw [if_pos c2] at gj
        rw [c2] at z58
        refine ⟨-9, M1, M2, ?_, ?_, fin⟩
        · rw [st7]
          simp only [e86_0, e86_0n, e86_1, e86_4, e86_7, e86_10, e86_12, e86_13, e86_14, e86_16, e86_19, e86_20, e86_21, e86_24, e86_26, e86_27, e86_27n, e86_28, e86_31, e86_31n, e86_32, e86_35, e86_38, e86_39, e86_41, e86_44, e86_44n, e86_45, e86_48, e86_51, e86_52, e86_53, e86_54, e86_57, e86_57n, e86_58, e86_61, e86_64, e86_67, e86_67n, e86_68, e86_71, e86_72, e86_75, ↓reduceIte, zth_v, zth_n, zthv_s, zthi_s, zthm_s, true_or, or_true, eq_self, ne_eq, not_false_eq_true, not_true_eq_false, and_self, and_true, true_and, false_and, and_false, foRR_0, foRR_1, foRR_2, foRR_3, foRR_4, foRR_5, foRR_6, foRR_7, poRR_6, poRR_7, coRR, k1, hz31, n1, n2, gj, Nat.reduceEqDiff]
        · rw [st8]
          simp only [e162_0, e162_0n, e162_1, e162_4, e162_7, e162_9, e162_10, e162_11, e162_12, e162_15, e162_18, e162_21, e162_24, e162_26, e162_27, e162_28, e162_29, e162_30, e162_31, e162_32, e162_32n, e162_33, e162_36, e162_39, e162_40, e162_40n, e162_41, e162_44, e162_45, e162_46, e162_47, e162_48, e162_51, e162_54, e162_54n, e162_55, e162_57, e162_60, e162_61, e162_62, e162_63, e162_64, e162_67, e162_67n, e162_68, e162_69, e162_72, e162_72n, e162_73, e162_76, e162_79, e162_82, e162_83, e162_85, e162_88, e162_88n, e162_89, e162_92, e162_95, e162_96, e162_97, e162_100, e162_100n, e162_101, e162_104, e162_107, e162_107n, e162_108, e162_109, e162_112, e162_115, e162_115n, e162_116, e162_119, e162_120, e162_121, e162_121n, e162_122, e162_125, e162_128, e162_130, e162_133, e162_133n, e162_134, e162_137, e162_138, e162_139, ↓reduceIte, zth_v, zth_n, zthv_s, zthi_s, zthm_s, true_or, or_true, eq_self, ne_eq, not_false_eq_true, not_true_eq_false, and_self, and_true, true_and, false_and, and_false, foMod_0, foMod_1, foMod_2, foMod_3, foMod_4, foMod_5, foMod_6, foMod_7, foMod_8, foMod_9, foMod_10, foMod_11, foMod_12, foMod_13, foMod_14, foMod_15, foMod_16, foMod_17, foMod_18, foMod_19, foMod_20, foMod_21, foMod_22, foMod_23, foMod_24, foMod_25, foMod_26, foMod_27, foMod_28, foMod_29, foMod_30, foMod_31, foMod_32, foMod_33, foMod_34, foMod_35, foMod_36, foMod_37, foMod_38, poMod_0, poMod_1, poMod_2, poMod_3, poMod_4, poMod_5, poMod_12, poMod_13, poMod_14, poMod_15, poMod_20, poMod_21, poMod_22, poMod_23, poMod_28, poMod_29, poMod_30, poMod_38, coMod, o2, hz5, n1, n2, h8, o58, z58, y1, Nat.reduceEqDiff]
      · rw [if_neg c2] at gj
        have c3 : ¬ nI d = nI nl := fun z => c2 ((nI_eq (by omega) (by omega)).mp z)
        refine ⟨nI d, M1, M2, ?_, ?_, fin⟩
        · rw [st7]
          simp only [e86_0, e86_0n, e86_1, e86_4, e86_7, e86_10, e86_12, e86_13, e86_14, e86_16, e86_19, e86_20, e86_21, e86_24, e86_26, e86_27, e86_27n, e86_28, e86_31, e86_31n, e86_32, e86_35, e86_38, e86_39, e86_41, e86_44, e86_44n, e86_45, e86_48, e86_51, e86_52, e86_53, e86_54, e86_57, e86_57n, e86_58, e86_61, e86_64, e86_67, e86_67n, e86_68, e86_71, e86_72, e86_75, ↓reduceIte, zth_v, zth_n, zthv_s, zthi_s, zthm_s, true_or, or_true, eq_self, ne_eq, not_false_eq_true, not_true_eq_false, and_self, and_true, true_and, false_and, and_false, foRR_0, foRR_1, foRR_2, foRR_3, foRR_4, foRR_5, foRR_6, foRR_7, poRR_6, poRR_7, coRR, k1, hz31, n1, n2, gj, Nat.reduceEqDiff]
        · rw [st8]
          simp only [e162_0, e162_0n, e162_1, e162_4, e162_7, e162_9, e162_10, e162_11, e162_12, e162_15, e162_18, e162_21, e162_24, e162_26, e162_27, e162_28, e162_29, e162_30, e162_31, e162_32, e162_32n, e162_33, e162_36, e162_39, e162_40, e162_40n, e162_41, e162_44, e162_45, e162_46, e162_47, e162_48, e162_51, e162_54, e162_54n, e162_55, e162_57, e162_60, e162_61, e162_62, e162_63, e162_64, e162_67, e162_67n, e162_68, e162_69, e162_72, e162_72n, e162_73, e162_76, e162_79, e162_82, e162_83, e162_85, e162_88, e162_88n, e162_89, e162_92, e162_95, e162_96, e162_97, e162_100, e162_100n, e162_101, e162_104, e162_107, e162_107n, e162_108, e162_109, e162_112, e162_115, e162_115n, e162_116, e162_119, e162_120, e162_121, e162_121n, e162_122, e162_125, e162_128, e162_130, e162_133, e162_133n, e162_134, e162_137, e162_138, e162_139, ↓reduceIte, zth_v, zth_n, zthv_s, zthi_s, zthm_s, true_or, or_true, eq_self, ne_eq, not_false_eq_true, not_true_eq_false, and_self, and_true, true_and, false_and, and_false, foMod_0, foMod_1, foMod_2, foMod_3, foMod_4, foMod_5, foMod_6, foMod_7, foMod_8, foMod_9, foMod_10, foMod_11, foMod_12, foMod_13, foMod_14, foMod_15, foMod_16, foMod_17, foMod_18, foMod_19, foMod_20, foMod_21, foMod_22, foMod_23, foMod_24, foMod_25, foMod_26, foMod_27, foMod_28, foMod_29, foMod_30, foMod_31, foMod_32, foMod_33, foMod_34, foMod_35, foMod_36, foMod_37, foMod_38, poMod_0, poMod_1, poMod_2, poMod_3, poMod_4, poMod_5, poMod_12, poMod_13, poMod_14, poMod_15, poMod_20, poMod_21, poMod_22, poMod_23, poMod_28, poMod_29, poMod_30, poMod_38, coMod, o2, hz5, n1, n2, h8, o58, z58, y1, c3, Nat.reduceEqDiff]
    · rw [if_neg c1] at gj
      have h8 := m_noRider_out b2 y2 hr5 (k := nI j) (Or.inr (ni_ge (by omega) (by omega)))
      refine ⟨-9, M1, M2, ?_, ?_, fin⟩
      · rw [st7]
        simp only [e86_0, e86_0n, e86_1, e86_4, e86_7, e86_10, e86_12, e86_13, e86_14, e86_16, e86_19, e86_20, e86_21, e86_24, e86_26, e86_27, e86_27n, e86_28, e86_31, e86_31n, e86_32, e86_35, e86_38, e86_39, e86_41, e86_44, e86_44n, e86_45, e86_48, e86_51, e86_52, e86_53, e86_54, e86_57, e86_57n, e86_58, e86_61, e86_64, e86_67, e86_67n, e86_68, e86_71, e86_72, e86_75, ↓reduceIte, zth_v, zth_n, zthv_s, zthi_s, zthm_s, true_or, or_true, eq_self, ne_eq, not_false_eq_true, not_true_eq_false, and_self, and_true, true_and, false_and, and_false, foRR_0, foRR_1, foRR_2, foRR_3, foRR_4, foRR_5, foRR_6, foRR_7, poRR_6, poRR_7, coRR, k1, hz31, n1, n2, gj, Nat.reduceEqDiff]
      · rw [st8]
        simp only [e162_0, e162_0n, e162_1, e162_4, e162_7, e162_9, e162_10, e162_11, e162_12, e162_15, e162_18, e162_21, e162_24, e162_26, e162_27, e162_28, e162_29, e162_30, e162_31, e162_32, e162_32n, e162_33, e162_36, e162_39, e162_40, e162_40n, e162_41, e162_44, e162_45, e162_46, e162_47, e162_48, e162_51, e162_54, e162_54n, e162_55, e162_57, e162_60, e162_61, e162_62, e162_63, e162_64, e162_67, e162_67n, e162_68, e162_69, e162_72, e162_72n, e162_73, e162_76, e162_79, e162_82, e162_83, e162_85, e162_88, e162_88n, e162_89, e162_92, e162_95, e162_96, e162_97, e162_100, e162_100n, e162_101, e162_104, e162_107, e162_107n, e162_108, e162_109, e162_112, e162_115, e162_115n, e162_116, e162_119, e162_120, e162_121, e162_121n, e162_122, e162_125, e162_128, e162_130, e162_133, e162_133n, e162_134, e162_137, e162_138, e162_139, ↓reduceIte, zth_v, zth_n, zthv_s, zthi_s, zthm_s, true_or, or_true, eq_self, ne_eq, not_false_eq_true, not_true_eq_false, and_self, and_true, true_and, false_and, and_false, foMod_0, foMod_1, foMod_2, foMod_3, foMod_4, foMod_5, foMod_6, foMod_7, foMod_8, foMod_9, foMod_10, foMod_11, foMod_12, foMod_13, foMod_14, foMod_15, foMod_16, foMod_17, foMod_18, foMod_19, foMod_20, foMod_21, foMod_22, foMod_23, foMod_24, foMod_25, foMod_26, foMod_27, foMod_28, foMod_29, foMod_30, foMod_31, foMod_32, foMod_33, foMod_34, foMod_35, foMod_36, foMod_37, foMod_38, poMod_0, poMod_1, poMod_2, poMod_3, poMod_4, poMod_5, poMod_12, poMod_13, poMod_14, poMod_15, poMod_20, poMod_21, poMod_22, poMod_23, poMod_28, poMod_29, poMod_30, poMod_38, coMod, o2, hz5, n1, n2, h8, i10, Nat.reduceEqDiff]
