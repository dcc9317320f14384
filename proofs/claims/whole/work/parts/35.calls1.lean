/-! Call by call, one: far, wax, lean, trace, fault, reading, back -/
theorem zSkip {M : zMem} (h44 : zoc (mget M 44) = some 8) (g : zGood M) : zoc (mget M 44) = some 8 ∧ mget M 0 = mget M 0 ∧ zGood M ∧ zKeep M M := ⟨h44, rfl, g, rfl, by omega, by omega⟩
theorem z44 {M M1 : zMem} (h : zoc (mget M 44) = some 8) (f : zFr M M1 1 43) : zoc (mget M1 44) = some 8 := by rw [f.2.2 44 (by omega)]; exact h
theorem t_oneToNine {M : zMem} {v : Int32} : ev 113 0 [some (.int v)] [] M = some (some (.int (if v < 1 ∨ 9 < v then 0 else 1)), M) := by
  simp only [e113_0, e113_1, e113_2, e113_5, e113_6, e113_8, e113_11, e113_12, e113_15, e113_16, ↓reduceIte, zth_v, zth_n, zthv_s, zthi_s, zthm_s, true_or, or_true, eq_self, ne_eq, not_false_eq_true, not_true_eq_false, and_self, and_true, true_and, false_and, and_false]
  by_cases q1 : v < 1
  · rw [if_pos q1, if_pos (Or.inl q1)]
  · rw [if_neg q1]
    by_cases q2 : 9 < v
    · rw [if_pos q2, if_pos (Or.inr q2)]
    · rw [if_neg q2, if_neg (by rintro (z | z); exact q1 z; exact q2 z)]
theorem c_le {q : Nat} (h1 : 1 ≤ q) (h2 : q ≤ 9) : ¬ nI q ≤ 0 := ni_nle (b := q) (a := 0) h1 (by omega)
theorem q19 {q : Nat} (h1 : 1 ≤ q) (h2 : q ≤ 9) : ¬ (nI q < 1 ∨ 9 < nI q) := by
  rintro (z | z)
  · exact nI_nlt (a := q) (b := 1) (by omega) (by omega) z
  · exact nI_nlt (a := 9) (b := q) (by omega) (by omega) z
section CA
variable {M : zMem}
theorem p_far (g : zGood M) {k : Int32} : zPI 70 139 [some (.int k)] [some (.int k)] M := by
  have g0 := g
  obtain ⟨h65, c, nl, nr, m, F, r, n, o, mm, w, ln, sn, f, tr, ft, hC, ⟨x, A, hx, hX, hN, hR, hS⟩, hI, hJ, hK⟩ := g
  have hC0 := hC
  have hX0 := hX
  obtain ⟨k0, kN, kR, kS, kP⟩ := hC
  have hz2 : zoc (mget M 2) = some 1 := by rw [kN.2.2.2.1]; exact coNur
  have hz1 : zoc (mget M 1) = some 7 := by rw [k0]; exact coRR
  have hz44 : zoc (mget M 44) = some 8 := by rw [hx.1]; exact coMod
  have hl5 := kN.2.1
  have hr5 := kN.2.2.1
  have hn8 := kR.2.1
  obtain ⟨x0, x1, x2, x3, x4, x5, x16, x17⟩ := hX
  have o44 := hx.1
  rcases (show (k < 0 ∨ nI nl ≤ k) ∨ ∃ j, j < nl ∧ k = nI j from by rcases pk_ix k (n := nl) (by omega) with h | h | h <;> simp [h]) with q | ⟨j, hj, rfl⟩
  · have h9 := n_isLand_out kN q
    have h8 := m_noLand_out hx x1 hl5 q
    refine ⟨-1, M, M, ?_, ?_, zSkip hz44 g0⟩
    · simp only [e70_0, e70_0n, e70_1, e70_4, e70_5, e70_8, e70_11, e70_11n, e70_12, e70_15, e70_16, e70_19, e70_22, e70_23, ↓reduceIte, zth_v, zth_n, zthv_s, zthi_s, zthm_s, true_or, or_true, eq_self, ne_eq, not_false_eq_true, not_true_eq_false, and_self, and_true, true_and, false_and, and_false, foRR_0, foRR_1, foRR_2, foRR_3, foRR_4, foRR_5, foRR_6, foRR_7, poRR_6, poRR_7, coRR, k0, hz2, h9, Nat.reduceEqDiff]
    · simp only [e139_0, e139_0n, e139_1, e139_2, e139_5, e139_8, e139_9, e139_12, e139_12n, e139_13, e139_16, e139_17, e139_18, ↓reduceIte, zth_v, zth_n, zthv_s, zthi_s, zthm_s, true_or, or_true, eq_self, ne_eq, not_false_eq_true, not_true_eq_false, and_self, and_true, true_and, false_and, and_false, foMod_0, foMod_1, foMod_2, foMod_3, foMod_4, foMod_5, foMod_6, foMod_7, foMod_8, foMod_9, foMod_10, foMod_11, foMod_12, foMod_13, foMod_14, foMod_15, foMod_16, foMod_17, foMod_18, foMod_19, foMod_20, foMod_21, foMod_22, foMod_23, foMod_24, foMod_25, foMod_26, foMod_27, foMod_28, foMod_29, foMod_30, foMod_31, foMod_32, foMod_33, foMod_34, foMod_35, foMod_36, foMod_37, foMod_38, poMod_0, poMod_1, poMod_2, poMod_3, poMod_4, poMod_5, poMod_12, poMod_13, poMod_14, poMod_15, poMod_20, poMod_21, poMod_22, poMod_23, poMod_28, poMod_29, poMod_30, poMod_38, coMod, hz44, h8, i10, Nat.reduceEqDiff]
  · have h9 := n_isLand_in kN hj
    have h7 := n_farOf_in kN hj
    have h8 := m_noLand_in hx x1 hl5 hj
    have h6 := hx.2 45 (by omega) (by omega)
    have g1 := zia_in (n := zsz 45) (f := A 45) (j := j) (show j < 5 by omega) (show 5 < 2 ^ 31 by omega)
    refine ⟨F j, M, M, ?_, ?_, zSkip hz44 g0⟩
    · simp only [e70_0, e70_0n, e70_1, e70_4, e70_5, e70_8, e70_11, e70_11n, e70_12, e70_15, e70_16, e70_19, e70_22, e70_23, ↓reduceIte, zth_v, zth_n, zthv_s, zthi_s, zthm_s, true_or, or_true, eq_self, ne_eq, not_false_eq_true, not_true_eq_false, and_self, and_true, true_and, false_and, and_false, foRR_0, foRR_1, foRR_2, foRR_3, foRR_4, foRR_5, foRR_6, foRR_7, poRR_6, poRR_7, coRR, k0, hz2, h9, h7, i10, Nat.reduceEqDiff]
    · simp only [e139_0, e139_0n, e139_1, e139_2, e139_5, e139_8, e139_9, e139_12, e139_12n, e139_13, e139_16, e139_17, e139_18, ↓reduceIte, zth_v, zth_n, zthv_s, zthi_s, zthm_s, true_or, or_true, eq_self, ne_eq, not_false_eq_true, not_true_eq_false, and_self, and_true, true_and, false_and, and_false, foMod_0, foMod_1, foMod_2, foMod_3, foMod_4, foMod_5, foMod_6, foMod_7, foMod_8, foMod_9, foMod_10, foMod_11, foMod_12, foMod_13, foMod_14, foMod_15, foMod_16, foMod_17, foMod_18, foMod_19, foMod_20, foMod_21, foMod_22, foMod_23, foMod_24, foMod_25, foMod_26, foMod_27, foMod_28, foMod_29, foMod_30, foMod_31, foMod_32, foMod_33, foMod_34, foMod_35, foMod_36, foMod_37, foMod_38, poMod_0, poMod_1, poMod_2, poMod_3, poMod_4, poMod_5, poMod_12, poMod_13, poMod_14, poMod_15, poMod_20, poMod_21, poMod_22, poMod_23, poMod_28, poMod_29, poMod_30, poMod_38, coMod, o44, hz44, h8, h6, g1, hN.1 j hj, Nat.reduceEqDiff]
theorem p_trace (g : zGood M) : zPI 108 182 [] [] M := by
  have g0 := g
  obtain ⟨h65, c, nl, nr, m, F, r, n, o, mm, w, ln, sn, f, tr, ft, hC, ⟨x, A, hx, hX, hN, hR, hS⟩, hI, hJ, hK⟩ := g
  have hC0 := hC
  have hX0 := hX
  obtain ⟨k0, kN, kR, kS, kP⟩ := hC
  have hz2 : zoc (mget M 2) = some 1 := by rw [kN.2.2.2.1]; exact coNur
  have hz1 : zoc (mget M 1) = some 7 := by rw [k0]; exact coRR
  have hz44 : zoc (mget M 44) = some 8 := by rw [hx.1]; exact coMod
  have hl5 := kN.2.1
  have hr5 := kN.2.2.1
  have hn8 := kR.2.1
  obtain ⟨x0, x1, x2, x3, x4, x5, x16, x17⟩ := hX
  have o44 := hx.1
  refine ⟨tr, M, M, ?_, ?_, zSkip hz44 g0⟩
  · simp only [e108_0, e108_0n, e108_1, e108_4, ↓reduceIte, zth_v, zth_n, zthv_s, zthi_s, zthm_s, true_or, or_true, eq_self, ne_eq, not_false_eq_true, not_true_eq_false, and_self, and_true, true_and, false_and, and_false, foRR_0, foRR_1, foRR_2, foRR_3, foRR_4, foRR_5, foRR_6, foRR_7, poRR_6, poRR_7, coRR, k0, Nat.reduceEqDiff]
  · simp only [e182_0, e182_0n, e182_1, e182_4, ↓reduceIte, zth_v, zth_n, zthv_s, zthi_s, zthm_s, true_or, or_true, eq_self, ne_eq, not_false_eq_true, not_true_eq_false, and_self, and_true, true_and, false_and, and_false, foMod_0, foMod_1, foMod_2, foMod_3, foMod_4, foMod_5, foMod_6, foMod_7, foMod_8, foMod_9, foMod_10, foMod_11, foMod_12, foMod_13, foMod_14, foMod_15, foMod_16, foMod_17, foMod_18, foMod_19, foMod_20, foMod_21, foMod_22, foMod_23, foMod_24, foMod_25, foMod_26, foMod_27, foMod_28, foMod_29, foMod_30, foMod_31, foMod_32, foMod_33, foMod_34, foMod_35, foMod_36, foMod_37, foMod_38, poMod_0, poMod_1, poMod_2, poMod_3, poMod_4, poMod_5, poMod_12, poMod_13, poMod_14, poMod_15, poMod_20, poMod_21, poMod_22, poMod_23, poMod_28, poMod_29, poMod_30, poMod_38, coMod, o44, x17, Nat.reduceEqDiff]
theorem p_fault (g : zGood M) : zPI 109 183 [] [] M := by
  have g0 := g
  obtain ⟨h65, c, nl, nr, m, F, r, n, o, mm, w, ln, sn, f, tr, ft, hC, ⟨x, A, hx, hX, hN, hR, hS⟩, hI, hJ, hK⟩ := g
  have hC0 := hC
  have hX0 := hX
  obtain ⟨k0, kN, kR, kS, kP⟩ := hC
  have hz2 : zoc (mget M 2) = some 1 := by rw [kN.2.2.2.1]; exact coNur
  have hz1 : zoc (mget M 1) = some 7 := by rw [k0]; exact coRR
  have hz44 : zoc (mget M 44) = some 8 := by rw [hx.1]; exact coMod
  have hl5 := kN.2.1
  have hr5 := kN.2.2.1
  have hn8 := kR.2.1
  obtain ⟨x0, x1, x2, x3, x4, x5, x16, x17⟩ := hX
  have o44 := hx.1
  refine ⟨ft, M, M, ?_, ?_, zSkip hz44 g0⟩
  · simp only [e109_0, e109_0n, e109_1, e109_4, ↓reduceIte, zth_v, zth_n, zthv_s, zthi_s, zthm_s, true_or, or_true, eq_self, ne_eq, not_false_eq_true, not_true_eq_false, and_self, and_true, true_and, false_and, and_false, foRR_0, foRR_1, foRR_2, foRR_3, foRR_4, foRR_5, foRR_6, foRR_7, poRR_6, poRR_7, coRR, k0, Nat.reduceEqDiff]
  · simp only [e183_0, e183_0n, e183_1, e183_4, ↓reduceIte, zth_v, zth_n, zthv_s, zthi_s, zthm_s, true_or, or_true, eq_self, ne_eq, not_false_eq_true, not_true_eq_false, and_self, and_true, true_and, false_and, and_false, foMod_0, foMod_1, foMod_2, foMod_3, foMod_4, foMod_5, foMod_6, foMod_7, foMod_8, foMod_9, foMod_10, foMod_11, foMod_12, foMod_13, foMod_14, foMod_15, foMod_16, foMod_17, foMod_18, foMod_19, foMod_20, foMod_21, foMod_22, foMod_23, foMod_24, foMod_25, foMod_26, foMod_27, foMod_28, foMod_29, foMod_30, foMod_31, foMod_32, foMod_33, foMod_34, foMod_35, foMod_36, foMod_37, foMod_38, poMod_0, poMod_1, poMod_2, poMod_3, poMod_4, poMod_5, poMod_12, poMod_13, poMod_14, poMod_15, poMod_20, poMod_21, poMod_22, poMod_23, poMod_28, poMod_29, poMod_30, poMod_38, coMod, o44, x0, Nat.reduceEqDiff]
theorem zCl.setN {M : zMem} {c : Int32} {nl nr : Nat} {m : Int32} {F : Nat → Int32} {r : Nat → zRD} {n : Nat} {o mm w : Nat → Int32} {ln : Nat → Int32} {sn : Nat → Nat} {f : Nat → Nat → Int32} {tr ft : Int32} (h : zCl M c nl nr m F r n o mm w ln sn f tr ft) {M1 : zMem} (hf : zFr M M1 2 9) {c' : Int32} {nl' nr' : Nat} {m' : Int32} {F' : Nat → Int32} {r' : Nat → zRD} (hN : zNur M1 2 c' nl' nr' m' F' r') : zCl M1 c' nl' nr' m' F' r' n o mm w ln sn f tr ft := by
  obtain ⟨h1, h2, h3, h4, h5⟩ := h
  refine ⟨(hf.2.2 _ (by omega)).trans h1, hN, h3.fr fun a g1 g2 => hf.2.2 _ (by omega), h4.fr fun a g1 g2 => hf.2.2 _ (by omega), ?_⟩
  obtain ⟨⟨_, _, _, _, _, _, h1⟩, ⟨_, _, _, _, _, h2, h3, _, h4⟩, _, _, _, _, _, h5, h6⟩ := h5
  exact ⟨⟨_, _, _, _, _, _, h1.fr fun a g1 g2 => hf.2.2 _ (by omega)⟩, ⟨_, _, _, _, _, h2, (hf.2.2 _ (by omega)).trans h3, _, h4.fr fun a g1 g2 => hf.2.2 _ (by omega)⟩, _, _, _, _, _, h5.fr fun a g1 g2 => hf.2.2 _ (by omega), h6⟩
theorem zCl.setR {M : zMem} {c : Int32} {nl nr : Nat} {m : Int32} {F : Nat → Int32} {r : Nat → zRD} {n : Nat} {o mm w : Nat → Int32} {ln : Nat → Int32} {sn : Nat → Nat} {f : Nat → Nat → Int32} {tr ft : Int32} (h : zCl M c nl nr m F r n o mm w ln sn f tr ft) {M1 : zMem} (hf : zFr M M1 27 30) {n' : Nat} {o' mm' w' : Nat → Int32} (hN : zRead M1 27 n' o' mm' w') : zCl M1 c nl nr m F r n' o' mm' w' ln sn f tr ft := by
  obtain ⟨h1, h2, h3, h4, h5⟩ := h
  refine ⟨(hf.2.2 _ (by omega)).trans h1, h2.fr fun a g1 g2 => hf.2.2 _ (by omega), hN, h4.fr fun a g1 g2 => hf.2.2 _ (by omega), ?_⟩
  obtain ⟨⟨_, _, _, _, _, _, h1⟩, ⟨_, _, _, _, _, h2, h3, _, h4⟩, _, _, _, _, _, h5, h6⟩ := h5
  exact ⟨⟨_, _, _, _, _, _, h1.fr fun a g1 g2 => hf.2.2 _ (by omega)⟩, ⟨_, _, _, _, _, h2, (hf.2.2 _ (by omega)).trans h3, _, h4.fr fun a g1 g2 => hf.2.2 _ (by omega)⟩, _, _, _, _, _, h5.fr fun a g1 g2 => hf.2.2 _ (by omega), h6⟩
theorem p_wax (g : zGood M) {v : Int32} : zPI 71 140 [some (.int v), none] [some (.int v), none] M := by
  have g0 := g
  obtain ⟨h65, c, nl, nr, m, F, r, n, o, mm, w, ln, sn, f, tr, ft, hC, ⟨x, A, hx, hX, hN, hR, hS⟩, hI, hJ, hK⟩ := g
  have hC0 := hC
  have hX0 := hX
  obtain ⟨k0, kN, kR, kS, kP⟩ := hC
  have hz2 : zoc (mget M 2) = some 1 := by rw [kN.2.2.2.1]; exact coNur
  have hz1 : zoc (mget M 1) = some 7 := by rw [k0]; exact coRR
  have hz44 : zoc (mget M 44) = some 8 := by rw [hx.1]; exact coMod
  have hl5 := kN.2.1
  have hr5 := kN.2.2.1
  have hn8 := kR.2.1
  obtain ⟨x0, x1, x2, x3, x4, x5, x16, x17⟩ := hX
  have o44 := hx.1
  have h9 := n_isThere kN
  rcases hI.1 with ⟨rfl, rfl, rfl⟩ | ⟨⟨q, q1, q2, rfl⟩, q3, q4⟩
  · refine ⟨-3, M, M, ?_, ?_, zSkip hz44 g0⟩
    · simp only [e71_0, e71_0n, e71_1, e71_4, e71_7, e71_10, e71_12, e71_13, e71_14, e71_17, e71_20, e71_22, e71_23, e71_23n, e71_24, e71_27, e71_30, e71_31, e71_31n, e71_32, e71_35, e71_36, e71_39, e71_40, ↓reduceIte, zth_v, zth_n, zthv_s, zthi_s, zthm_s, true_or, or_true, eq_self, ne_eq, not_false_eq_true, not_true_eq_false, and_self, and_true, true_and, false_and, and_false, foRR_0, foRR_1, foRR_2, foRR_3, foRR_4, foRR_5, foRR_6, foRR_7, poRR_6, poRR_7, coRR, k0, hz2, h9, Int32.le_refl, Nat.reduceEqDiff]
    · simp only [e140_0, e140_0n, e140_1, e140_4, e140_7, e140_9, e140_10, e140_11, e140_12, e140_13, e140_16, e140_19, e140_22, e140_24, e140_25, e140_25n, e140_26, e140_29, e140_30, e140_30n, e140_31, e140_32, e140_35, e140_36, ↓reduceIte, zth_v, zth_n, zthv_s, zthi_s, zthm_s, true_or, or_true, eq_self, ne_eq, not_false_eq_true, not_true_eq_false, and_self, and_true, true_and, false_and, and_false, foMod_0, foMod_1, foMod_2, foMod_3, foMod_4, foMod_5, foMod_6, foMod_7, foMod_8, foMod_9, foMod_10, foMod_11, foMod_12, foMod_13, foMod_14, foMod_15, foMod_16, foMod_17, foMod_18, foMod_19, foMod_20, foMod_21, foMod_22, foMod_23, foMod_24, foMod_25, foMod_26, foMod_27, foMod_28, foMod_29, foMod_30, foMod_31, foMod_32, foMod_33, foMod_34, foMod_35, foMod_36, foMod_37, foMod_38, poMod_0, poMod_1, poMod_2, poMod_3, poMod_4, poMod_5, poMod_12, poMod_13, poMod_14, poMod_15, poMod_20, poMod_21, poMod_22, poMod_23, poMod_28, poMod_29, poMod_30, poMod_38, coMod, o44, x2, nI_0, Nat.reduceEqDiff]
  · have g1 := c_le q1 q2
    have g2 : ¬ nI nr = 0 := nI_ne0 (by omega) (by omega)
    simp only [g1, if_false] at h9
    rcases pk19 v with qv | ⟨v, v1, v2, rfl⟩
    · refine ⟨-2, M, M, ?_, ?_, zSkip hz44 g0⟩
      · simp only [e71_0, e71_0n, e71_1, e71_4, e71_7, e71_10, e71_12, e71_13, e71_14, e71_17, e71_20, e71_22, e71_23, e71_23n, e71_24, e71_27, e71_30, e71_31, e71_31n, e71_32, e71_35, e71_36, e71_39, e71_40, ↓reduceIte, zth_v, zth_n, zthv_s, zthi_s, zthm_s, true_or, or_true, eq_self, ne_eq, not_false_eq_true, not_true_eq_false, and_self, and_true, true_and, false_and, and_false, foRR_0, foRR_1, foRR_2, foRR_3, foRR_4, foRR_5, foRR_6, foRR_7, poRR_6, poRR_7, coRR, k0, hz2, h9, t_oneToNine, qv, i10, Nat.reduceEqDiff]
      · simp only [e140_0, e140_0n, e140_1, e140_4, e140_7, e140_9, e140_10, e140_11, e140_12, e140_13, e140_16, e140_19, e140_22, e140_24, e140_25, e140_25n, e140_26, e140_29, e140_30, e140_30n, e140_31, e140_32, e140_35, e140_36, ↓reduceIte, zth_v, zth_n, zthv_s, zthi_s, zthm_s, true_or, or_true, eq_self, ne_eq, not_false_eq_true, not_true_eq_false, and_self, and_true, true_and, false_and, and_false, foMod_0, foMod_1, foMod_2, foMod_3, foMod_4, foMod_5, foMod_6, foMod_7, foMod_8, foMod_9, foMod_10, foMod_11, foMod_12, foMod_13, foMod_14, foMod_15, foMod_16, foMod_17, foMod_18, foMod_19, foMod_20, foMod_21, foMod_22, foMod_23, foMod_24, foMod_25, foMod_26, foMod_27, foMod_28, foMod_29, foMod_30, foMod_31, foMod_32, foMod_33, foMod_34, foMod_35, foMod_36, foMod_37, foMod_38, poMod_0, poMod_1, poMod_2, poMod_3, poMod_4, poMod_5, poMod_12, poMod_13, poMod_14, poMod_15, poMod_20, poMod_21, poMod_22, poMod_23, poMod_28, poMod_29, poMod_30, poMod_38, coMod, o44, x2, g2, m_in_1_9, qv, i10, Nat.reduceEqDiff]
    · have g3 := q19 v1 v2
      have kn := kN.setN (c' := nI v) (m' := m) hl5 hr5
      have fr1 : zFr M (mset M 2 (oNur 3 4 (nI v) (nI nl) (nI nr) m)) 2 9 := zFr.rf.set (by omega) (by omega)
      have fr1' := fr1.mono (lo' := 1) (hi' := 43) (by omega) (by omega)
      have hx1 : zMdl (mset M 2 (oNur 3 4 (nI v) (nI nl) (nI nr) m)) x A := hx.fr fun a g1 g2 => mget_ne (by omega)
      have kn2 := kN.2.2.2.1
      refine ⟨nI q, mset M 2 (oNur 3 4 (nI v) (nI nl) (nI nr) m), mset (mset M 2 (oNur 3 4 (nI v) (nI nl) (nI nr) m)) 44 (oM (upd (upd x 2 (nI nr)) 3 (nI v))), ?_, ?_, zFin h65 (z44 hz44 fr1') fr1' (zFr.rf.set (by omega) (by omega)) (hC0.setN fr1 kn) ⟨upd (upd x 2 (nI nr)) 3 (nI v), A, hx1.setX _, ⟨x0, x1, rfl, rfl, x4, x5, x16, x17⟩, hN, hR, hS⟩ ⟨Or.inr ⟨⟨v, v1, v2, rfl⟩, q3, q4⟩, hI.2⟩ hJ hK⟩
      · simp only [e71_0, e71_0n, e71_1, e71_4, e71_7, e71_10, e71_12, e71_13, e71_14, e71_17, e71_20, e71_22, e71_23, e71_23n, e71_24, e71_27, e71_30, e71_31, e71_31n, e71_32, e71_35, e71_36, e71_39, e71_40, ↓reduceIte, zth_v, zth_n, zthv_s, zthi_s, zthm_s, true_or, or_true, eq_self, ne_eq, not_false_eq_true, not_true_eq_false, and_self, and_true, true_and, false_and, and_false, foRR_0, foRR_1, foRR_2, foRR_3, foRR_4, foRR_5, foRR_6, foRR_7, poRR_6, poRR_7, coRR, foNur_0, foNur_1, foNur_2, foNur_3, foNur_4, foNur_5, poNur_2, poNur_3, poNur_4, poNur_5, coNur, k0, kn2, hz2, h9, t_oneToNine, g3, i10, Nat.reduceEqDiff, Nat.reduceAdd]
      · have o44' := hx1.1
        simp only [e140_0, e140_0n, e140_1, e140_4, e140_7, e140_9, e140_10, e140_11, e140_12, e140_13, e140_16, e140_19, e140_22, e140_24, e140_25, e140_25n, e140_26, e140_29, e140_30, e140_30n, e140_31, e140_32, e140_35, e140_36, ↓reduceIte, zth_v, zth_n, zthv_s, zthi_s, zthm_s, true_or, or_true, eq_self, ne_eq, not_false_eq_true, not_true_eq_false, and_self, and_true, true_and, false_and, and_false, foMod_0, foMod_1, foMod_2, foMod_3, foMod_4, foMod_5, foMod_6, foMod_7, foMod_8, foMod_9, foMod_10, foMod_11, foMod_12, foMod_13, foMod_14, foMod_15, foMod_16, foMod_17, foMod_18, foMod_19, foMod_20, foMod_21, foMod_22, foMod_23, foMod_24, foMod_25, foMod_26, foMod_27, foMod_28, foMod_29, foMod_30, foMod_31, foMod_32, foMod_33, foMod_34, foMod_35, foMod_36, foMod_37, foMod_38, poMod_0, poMod_1, poMod_2, poMod_3, poMod_4, poMod_5, poMod_12, poMod_13, poMod_14, poMod_15, poMod_20, poMod_21, poMod_22, poMod_23, poMod_28, poMod_29, poMod_30, poMod_38, coMod, o44', x2, x3, g2, m_in_1_9, g3, i10, Nat.reduceEqDiff]
        rfl
theorem p_reading (g : zGood M) {k t v : Int32} : zPI 87 163 [some (.int k), some (.int t), some (.int v)] [some (.int k), some (.int t), some (.int v)] M := by
  have g0 := g
  obtain ⟨h65, c, nl, nr, m, F, r, n, o, mm, w, ln, sn, f, tr, ft, hC, ⟨x, A, hx, hX, hN, hR, hS⟩, hI, hJ, hK⟩ := g
  have hC0 := hC
  have hX0 := hX
  obtain ⟨k0, kN, kR, kS, kP⟩ := hC
  have hz2 : zoc (mget M 2) = some 1 := by rw [kN.2.2.2.1]; exact coNur
  have hz1 : zoc (mget M 1) = some 7 := by rw [k0]; exact coRR
  have hz44 : zoc (mget M 44) = some 8 := by rw [hx.1]; exact coMod
  have hl5 := kN.2.1
  have hr5 := kN.2.2.1
  have hn8 := kR.2.1
  obtain ⟨x0, x1, x2, x3, x4, x5, x16, x17⟩ := hX
  have o44 := hx.1
  have hz27 : zoc (mget M 27) = some 2 := by rw [kR.2.2.1]; exact coRead
  have k27 := kR.2.2.1
  rcases (show (k < 0 ∨ nI nr ≤ k) ∨ ∃ j, j < nr ∧ k = nI j from by rcases pk_ix k (n := nr) (by omega) with h | h | h <;> simp [h]) with q | ⟨j, hj, rfl⟩
  · have h9 := n_riderAt_out kN q
    have h8 := m_noRider_out hx x2 hr5 q
    refine ⟨-1, M, M, ?_, ?_, zSkip hz44 g0⟩
    · simp only [e87_0, e87_0n, e87_1, e87_4, e87_5, e87_8, e87_8n, e87_11, e87_12, e87_13, e87_14, e87_17, e87_18, e87_20, e87_23, e87_24, e87_27, e87_28, e87_31, e87_34, e87_36, e87_37, e87_37n, e87_38, e87_41, e87_44, e87_46, e87_49, e87_51, e87_52, e87_52n, e87_53, e87_56, e87_57, e87_58, e87_59, e87_62, e87_62n, e87_63, e87_66, e87_69, e87_70, e87_71, ↓reduceIte, zth_v, zth_n, zthv_s, zthi_s, zthm_s, true_or, or_true, eq_self, ne_eq, not_false_eq_true, not_true_eq_false, and_self, and_true, true_and, false_and, and_false, foRR_0, foRR_1, foRR_2, foRR_3, foRR_4, foRR_5, foRR_6, foRR_7, poRR_6, poRR_7, coRR, k0, hz2, h9, Nat.reduceEqDiff]
    · simp only [e163_0, e163_0n, e163_1, e163_2, e163_5, e163_8, e163_9, e163_10, e163_11, e163_12, e163_13, e163_16, e163_19, e163_22, e163_23, e163_24, e163_25, e163_28, e163_31, e163_34, e163_36, e163_37, e163_37n, e163_38, e163_41, e163_43, e163_46, e163_48, e163_49, e163_49n, e163_50, e163_53, e163_53n, e163_54, e163_57, e163_58, e163_59, e163_59n, e163_60, e163_63, e163_63n, e163_64, e163_67, e163_68, e163_69, e163_69n, e163_70, e163_73, e163_73n, e163_74, e163_77, e163_78, e163_79, e163_79n, e163_80, e163_81, e163_84, e163_85, e163_86, e163_89, e163_89n, e163_90, e163_93, e163_94, e163_95, ↓reduceIte, zth_v, zth_n, zthv_s, zthi_s, zthm_s, true_or, or_true, eq_self, ne_eq, not_false_eq_true, not_true_eq_false, and_self, and_true, true_and, false_and, and_false, foMod_0, foMod_1, foMod_2, foMod_3, foMod_4, foMod_5, foMod_6, foMod_7, foMod_8, foMod_9, foMod_10, foMod_11, foMod_12, foMod_13, foMod_14, foMod_15, foMod_16, foMod_17, foMod_18, foMod_19, foMod_20, foMod_21, foMod_22, foMod_23, foMod_24, foMod_25, foMod_26, foMod_27, foMod_28, foMod_29, foMod_30, foMod_31, foMod_32, foMod_33, foMod_34, foMod_35, foMod_36, foMod_37, foMod_38, poMod_0, poMod_1, poMod_2, poMod_3, poMod_4, poMod_5, poMod_12, poMod_13, poMod_14, poMod_15, poMod_20, poMod_21, poMod_22, poMod_23, poMod_28, poMod_29, poMod_30, poMod_38, coMod, hz44, h8, i10, Nat.reduceEqDiff]
  · have h9 := n_riderAt_in kN hj
    have h8 := m_noRider_in hx x2 hr5 hj
    by_cases t1 : t < 0 ∨ 20 < t
    · refine ⟨-2, M, M, ?_, ?_, zSkip hz44 g0⟩
      · by_cases t2 : t < 0
        · simp only [e87_0, e87_0n, e87_1, e87_4, e87_5, e87_8, e87_8n, e87_11, e87_12, e87_13, e87_14, e87_17, e87_18, e87_20, e87_23, e87_24, e87_27, e87_28, e87_31, e87_34, e87_36, e87_37, e87_37n, e87_38, e87_41, e87_44, e87_46, e87_49, e87_51, e87_52, e87_52n, e87_53, e87_56, e87_57, e87_58, e87_59, e87_62, e87_62n, e87_63, e87_66, e87_69, e87_70, e87_71, ↓reduceIte, zth_v, zth_n, zthv_s, zthi_s, zthm_s, true_or, or_true, eq_self, ne_eq, not_false_eq_true, not_true_eq_false, and_self, and_true, true_and, false_and, and_false, foRR_0, foRR_1, foRR_2, foRR_3, foRR_4, foRR_5, foRR_6, foRR_7, poRR_6, poRR_7, coRR, k0, hz2, h9, t2, Nat.reduceEqDiff]
        · have t3 := t1.resolve_left t2
          have t4 : ¬ t ≤ 20 := Int32.not_le.mpr t3
          simp only [e87_0, e87_0n, e87_1, e87_4, e87_5, e87_8, e87_8n, e87_11, e87_12, e87_13, e87_14, e87_17, e87_18, e87_20, e87_23, e87_24, e87_27, e87_28, e87_31, e87_34, e87_36, e87_37, e87_37n, e87_38, e87_41, e87_44, e87_46, e87_49, e87_51, e87_52, e87_52n, e87_53, e87_56, e87_57, e87_58, e87_59, e87_62, e87_62n, e87_63, e87_66, e87_69, e87_70, e87_71, ↓reduceIte, zth_v, zth_n, zthv_s, zthi_s, zthm_s, true_or, or_true, eq_self, ne_eq, not_false_eq_true, not_true_eq_false, and_self, and_true, true_and, false_and, and_false, foRR_0, foRR_1, foRR_2, foRR_3, foRR_4, foRR_5, foRR_6, foRR_7, poRR_6, poRR_7, coRR, k0, hz2, h9, t2, t3, t4, Nat.reduceEqDiff]
      · simp only [e163_0, e163_0n, e163_1, e163_2, e163_5, e163_8, e163_9, e163_10, e163_11, e163_12, e163_13, e163_16, e163_19, e163_22, e163_23, e163_24, e163_25, e163_28, e163_31, e163_34, e163_36, e163_37, e163_37n, e163_38, e163_41, e163_43, e163_46, e163_48, e163_49, e163_49n, e163_50, e163_53, e163_53n, e163_54, e163_57, e163_58, e163_59, e163_59n, e163_60, e163_63, e163_63n, e163_64, e163_67, e163_68, e163_69, e163_69n, e163_70, e163_73, e163_73n, e163_74, e163_77, e163_78, e163_79, e163_79n, e163_80, e163_81, e163_84, e163_85, e163_86, e163_89, e163_89n, e163_90, e163_93, e163_94, e163_95, ↓reduceIte, zth_v, zth_n, zthv_s, zthi_s, zthm_s, true_or, or_true, eq_self, ne_eq, not_false_eq_true, not_true_eq_false, and_self, and_true, true_and, false_and, and_false, foMod_0, foMod_1, foMod_2, foMod_3, foMod_4, foMod_5, foMod_6, foMod_7, foMod_8, foMod_9, foMod_10, foMod_11, foMod_12, foMod_13, foMod_14, foMod_15, foMod_16, foMod_17, foMod_18, foMod_19, foMod_20, foMod_21, foMod_22, foMod_23, foMod_24, foMod_25, foMod_26, foMod_27, foMod_28, foMod_29, foMod_30, foMod_31, foMod_32, foMod_33, foMod_34, foMod_35, foMod_36, foMod_37, foMod_38, poMod_0, poMod_1, poMod_2, poMod_3, poMod_4, poMod_5, poMod_12, poMod_13, poMod_14, poMod_15, poMod_20, poMod_21, poMod_22, poMod_23, poMod_28, poMod_29, poMod_30, poMod_38, coMod, hz44, h8, m_in_0_20, t1, Nat.reduceEqDiff]
    · have t2 : ¬ t < 0 := fun z => t1 (Or.inl z)
      have t3 : ¬ 20 < t := fun z => t1 (Or.inr z)
      by_cases v1 : v < 0 ∨ 400 < v
      · refine ⟨-2, M, M, ?_, ?_, zSkip hz44 g0⟩
        · by_cases v2 : v < 0
          · simp only [e87_0, e87_0n, e87_1, e87_4, e87_5, e87_8, e87_8n, e87_11, e87_12, e87_13, e87_14, e87_17, e87_18, e87_20, e87_23, e87_24, e87_27, e87_28, e87_31, e87_34, e87_36, e87_37, e87_37n, e87_38, e87_41, e87_44, e87_46, e87_49, e87_51, e87_52, e87_52n, e87_53, e87_56, e87_57, e87_58, e87_59, e87_62, e87_62n, e87_63, e87_66, e87_69, e87_70, e87_71, ↓reduceIte, zth_v, zth_n, zthv_s, zthi_s, zthm_s, true_or, or_true, eq_self, ne_eq, not_false_eq_true, not_true_eq_false, and_self, and_true, true_and, false_and, and_false, foRR_0, foRR_1, foRR_2, foRR_3, foRR_4, foRR_5, foRR_6, foRR_7, poRR_6, poRR_7, coRR, k0, hz2, h9, t2, t3, v2, Nat.reduceEqDiff]
          · have v3 := v1.resolve_left v2
            have v4 : ¬ v ≤ 400 := Int32.not_le.mpr v3
            simp only [e87_0, e87_0n, e87_1, e87_4, e87_5, e87_8, e87_8n, e87_11, e87_12, e87_13, e87_14, e87_17, e87_18, e87_20, e87_23, e87_24, e87_27, e87_28, e87_31, e87_34, e87_36, e87_37, e87_37n, e87_38, e87_41, e87_44, e87_46, e87_49, e87_51, e87_52, e87_52n, e87_53, e87_56, e87_57, e87_58, e87_59, e87_62, e87_62n, e87_63, e87_66, e87_69, e87_70, e87_71, ↓reduceIte, zth_v, zth_n, zthv_s, zthi_s, zthm_s, true_or, or_true, eq_self, ne_eq, not_false_eq_true, not_true_eq_false, and_self, and_true, true_and, false_and, and_false, foRR_0, foRR_1, foRR_2, foRR_3, foRR_4, foRR_5, foRR_6, foRR_7, poRR_6, poRR_7, coRR, k0, hz2, h9, t2, t3, v2, v3, v4, Nat.reduceEqDiff]
        · simp only [e163_0, e163_0n, e163_1, e163_2, e163_5, e163_8, e163_9, e163_10, e163_11, e163_12, e163_13, e163_16, e163_19, e163_22, e163_23, e163_24, e163_25, e163_28, e163_31, e163_34, e163_36, e163_37, e163_37n, e163_38, e163_41, e163_43, e163_46, e163_48, e163_49, e163_49n, e163_50, e163_53, e163_53n, e163_54, e163_57, e163_58, e163_59, e163_59n, e163_60, e163_63, e163_63n, e163_64, e163_67, e163_68, e163_69, e163_69n, e163_70, e163_73, e163_73n, e163_74, e163_77, e163_78, e163_79, e163_79n, e163_80, e163_81, e163_84, e163_85, e163_86, e163_89, e163_89n, e163_90, e163_93, e163_94, e163_95, ↓reduceIte, zth_v, zth_n, zthv_s, zthi_s, zthm_s, true_or, or_true, eq_self, ne_eq, not_false_eq_true, not_true_eq_false, and_self, and_true, true_and, false_and, and_false, foMod_0, foMod_1, foMod_2, foMod_3, foMod_4, foMod_5, foMod_6, foMod_7, foMod_8, foMod_9, foMod_10, foMod_11, foMod_12, foMod_13, foMod_14, foMod_15, foMod_16, foMod_17, foMod_18, foMod_19, foMod_20, foMod_21, foMod_22, foMod_23, foMod_24, foMod_25, foMod_26, foMod_27, foMod_28, foMod_29, foMod_30, foMod_31, foMod_32, foMod_33, foMod_34, foMod_35, foMod_36, foMod_37, foMod_38, poMod_0, poMod_1, poMod_2, poMod_3, poMod_4, poMod_5, poMod_12, poMod_13, poMod_14, poMod_15, poMod_20, poMod_21, poMod_22, poMod_23, poMod_28, poMod_29, poMod_30, poMod_38, coMod, hz44, h8, m_in_0_20, m_in_0_400, t1, v1, i10, Nat.reduceEqDiff]
      · have v2 : ¬ v < 0 := fun z => v1 (Or.inl z)
        have v3 : ¬ 400 < v := fun z => v1 (Or.inr z)
        have v4 : v ≤ 400 := Int32.not_lt.mp v3
        by_cases n8 : n = 8
        · subst n8
          refine ⟨-4, M, M, ?_, ?_, zSkip hz44 g0⟩
          · have g1 : (8 : Int32) ≤ nI 8 := by decide
            have g2 : ¬ nI 8 < (8 : Int32) := by decide
            simp only [e87_0, e87_0n, e87_1, e87_4, e87_5, e87_8, e87_8n, e87_11, e87_12, e87_13, e87_14, e87_17, e87_18, e87_20, e87_23, e87_24, e87_27, e87_28, e87_31, e87_34, e87_36, e87_37, e87_37n, e87_38, e87_41, e87_44, e87_46, e87_49, e87_51, e87_52, e87_52n, e87_53, e87_56, e87_57, e87_58, e87_59, e87_62, e87_62n, e87_63, e87_66, e87_69, e87_70, e87_71, ↓reduceIte, zth_v, zth_n, zthv_s, zthi_s, zthm_s, true_or, or_true, eq_self, ne_eq, not_false_eq_true, not_true_eq_false, and_self, and_true, true_and, false_and, and_false, foRR_0, foRR_1, foRR_2, foRR_3, foRR_4, foRR_5, foRR_6, foRR_7, poRR_6, poRR_7, coRR, foRead_0, foRead_1, foRead_2, foRead_3, poRead_3, coRead, k0, k27, hz2, h9, t2, t3, v2, v3, v4, g1, g2, Nat.reduceEqDiff]
          · have g2 : nI 8 = (8 : Int32) := rfl
            simp only [e163_0, e163_0n, e163_1, e163_2, e163_5, e163_8, e163_9, e163_10, e163_11, e163_12, e163_13, e163_16, e163_19, e163_22, e163_23, e163_24, e163_25, e163_28, e163_31, e163_34, e163_36, e163_37, e163_37n, e163_38, e163_41, e163_43, e163_46, e163_48, e163_49, e163_49n, e163_50, e163_53, e163_53n, e163_54, e163_57, e163_58, e163_59, e163_59n, e163_60, e163_63, e163_63n, e163_64, e163_67, e163_68, e163_69, e163_69n, e163_70, e163_73, e163_73n, e163_74, e163_77, e163_78, e163_79, e163_79n, e163_80, e163_81, e163_84, e163_85, e163_86, e163_89, e163_89n, e163_90, e163_93, e163_94, e163_95, ↓reduceIte, zth_v, zth_n, zthv_s, zthi_s, zthm_s, true_or, or_true, eq_self, ne_eq, not_false_eq_true, not_true_eq_false, and_self, and_true, true_and, false_and, and_false, foMod_0, foMod_1, foMod_2, foMod_3, foMod_4, foMod_5, foMod_6, foMod_7, foMod_8, foMod_9, foMod_10, foMod_11, foMod_12, foMod_13, foMod_14, foMod_15, foMod_16, foMod_17, foMod_18, foMod_19, foMod_20, foMod_21, foMod_22, foMod_23, foMod_24, foMod_25, foMod_26, foMod_27, foMod_28, foMod_29, foMod_30, foMod_31, foMod_32, foMod_33, foMod_34, foMod_35, foMod_36, foMod_37, foMod_38, poMod_0, poMod_1, poMod_2, poMod_3, poMod_4, poMod_5, poMod_12, poMod_13, poMod_14, poMod_15, poMod_20, poMod_21, poMod_22, poMod_23, poMod_28, poMod_29, poMod_30, poMod_38, coMod, o44, x16, hz44, h8, m_in_0_20, m_in_0_400, t1, v1, i10, g2, Nat.reduceEqDiff]
        · have n7 : n < 8 := by omega
          obtain ⟨M1, a1, a2, a3⟩ := r_adds kR n7 (k := nI j) (t := t) (v := v)
          have fr1' := a3.mono (lo' := 1) (hi' := 43) (by omega) (by omega)
          have hx1 : zMdl M1 x A := hx.fr fun a g1 g2 => a3.2.2 _ (by omega)
          have y1 := (hx1.setA 59 (by omega) (by omega) (upd o n (nI j)))
          have y2 := (y1.setA 60 (by omega) (by omega) (upd mm n t))
          have y3 := (y2.setA 61 (by omega) (by omega) (upd w n v)).setX (upd x 16 (nI (n + 1)))
          obtain ⟨r59, r60, r61⟩ := hR
          refine ⟨nI n, M1, _, ?_, ?_, zFin h65 (z44 hz44 fr1') fr1' ((((zFr.rf.set (by omega) (by omega)).set (by omega) (by omega)).set (by omega) (by omega)).set (by omega) (by omega)) (hC0.setR (a3.mono (by omega) (by omega)) a2) ⟨_, _, y3, ⟨x0, x1, x2, x3, x4, x5, rfl, x17⟩, hN, ⟨rfl, rfl, rfl⟩, hS⟩ hI (fun i hi => by
            by_cases e : i = n
            · subst e; exact ⟨j, hj, pk_us⟩
            · rw [pk_un e]; exact hJ i (by omega)) hK⟩
          · have g1 : ¬ (8 : Int32) ≤ nI n := ni_nle (b := 8) n7 (by omega)
            have g2 : nI n < (8 : Int32) := nI_lt (b := 8) n7 (by omega)
            have k1 : mget M1 1 = some (oRR 2 10 18 27 31 35 tr ft) := (a3.2.2 1 (by omega)).trans k0
            have k2 := a2.2.2.1
            have e1 : nI (n + 1) - 1 = nI n := by rw [show (1 : Int32) = nI 1 from rfl, pk_sub (by omega)]; rfl
            simp only [e87_0, e87_0n, e87_1, e87_4, e87_5, e87_8, e87_8n, e87_11, e87_12, e87_13, e87_14, e87_17, e87_18, e87_20, e87_23, e87_24, e87_27, e87_28, e87_31, e87_34, e87_36, e87_37, e87_37n, e87_38, e87_41, e87_44, e87_46, e87_49, e87_51, e87_52, e87_52n, e87_53, e87_56, e87_57, e87_58, e87_59, e87_62, e87_62n, e87_63, e87_66, e87_69, e87_70, e87_71, ↓reduceIte, zth_v, zth_n, zthv_s, zthi_s, zthm_s, true_or, or_true, eq_self, ne_eq, not_false_eq_true, not_true_eq_false, and_self, and_true, true_and, false_and, and_false, foRR_0, foRR_1, foRR_2, foRR_3, foRR_4, foRR_5, foRR_6, foRR_7, poRR_6, poRR_7, coRR, foRead_0, foRead_1, foRead_2, foRead_3, poRead_3, coRead, k0, k1, k2, k27, hz2, hz27, h9, t2, t3, v2, v3, v4, g1, g2, a1, e1, Nat.reduceEqDiff]
          · have g2 : ¬ nI n = (8 : Int32) := fun z => by have := (nI_eq (a := n) (b := 8) (by omega) (by omega)).mp z; omega
            have o1 := hx1.1
            have h8' := m_noRider_in hx1 x2 hr5 hj
            have hz1' : zoc (mget M1 44) = some 8 := by rw [o1]; exact coMod
            have w1 := hx1.2 59 (by omega) (by omega)
            have w2 := hx1.2 60 (by omega) (by omega)
            have w3 := hx1.2 61 (by omega) (by omega)
            have e1 : nI (n + 1) - 1 = nI n := by rw [show (1 : Int32) = nI 1 from rfl, pk_sub (by omega)]; rfl
            have u1 := zis_in (n := zsz 59) (f := o) (j := n) (x := nI j) (show n < 8 by omega) (show 8 < 2 ^ 31 by omega)
            have u2 := zis_in (n := zsz 60) (f := mm) (j := n) (x := t) (show n < 8 by omega) (show 8 < 2 ^ 31 by omega)
            have u3 := zis_in (n := zsz 61) (f := w) (j := n) (x := v) (show n < 8 by omega) (show 8 < 2 ^ 31 by omega)
            simp only [e163_0, e163_0n, e163_1, e163_2, e163_5, e163_8, e163_9, e163_10, e163_11, e163_12, e163_13, e163_16, e163_19, e163_22, e163_23, e163_24, e163_25, e163_28, e163_31, e163_34, e163_36, e163_37, e163_37n, e163_38, e163_41, e163_43, e163_46, e163_48, e163_49, e163_49n, e163_50, e163_53, e163_53n, e163_54, e163_57, e163_58, e163_59, e163_59n, e163_60, e163_63, e163_63n, e163_64, e163_67, e163_68, e163_69, e163_69n, e163_70, e163_73, e163_73n, e163_74, e163_77, e163_78, e163_79, e163_79n, e163_80, e163_81, e163_84, e163_85, e163_86, e163_89, e163_89n, e163_90, e163_93, e163_94, e163_95, ↓reduceIte, zth_v, zth_n, zthv_s, zthi_s, zthm_s, true_or, or_true, eq_self, ne_eq, not_false_eq_true, not_true_eq_false, and_self, and_true, true_and, false_and, and_false, foMod_0, foMod_1, foMod_2, foMod_3, foMod_4, foMod_5, foMod_6, foMod_7, foMod_8, foMod_9, foMod_10, foMod_11, foMod_12, foMod_13, foMod_14, foMod_15, foMod_16, foMod_17, foMod_18, foMod_19, foMod_20, foMod_21, foMod_22, foMod_23, foMod_24, foMod_25, foMod_26, foMod_27, foMod_28, foMod_29, foMod_30, foMod_31, foMod_32, foMod_33, foMod_34, foMod_35, foMod_36, foMod_37, foMod_38, poMod_0, poMod_1, poMod_2, poMod_3, poMod_4, poMod_5, poMod_12, poMod_13, poMod_14, poMod_15, poMod_20, poMod_21, poMod_22, poMod_23, poMod_28, poMod_29, poMod_30, poMod_38, coMod, o1, x16, hz1', h8', m_in_0_20, m_in_0_400, t1, v1, i10, g2, w1, w2, w3, r59, r60, r61, u1, u2, u3, mget_set, e1, nI_1, Nat.reduceEqDiff]
            rfl
theorem p_back (g : zGood M) {k : Int32} : zPI 88 164 [some (.int k)] [some (.int k)] M := by
  have g0 := g
  obtain ⟨h65, c, nl, nr, m, F, r, n, o, mm, w, ln, sn, f, tr, ft, hC, ⟨x, A, hx, hX, hN, hR, hS⟩, hI, hJ, hK⟩ := g
  have hC0 := hC
  have hX0 := hX
  obtain ⟨k0, kN, kR, kS, kP⟩ := hC
  have hz2 : zoc (mget M 2) = some 1 := by rw [kN.2.2.2.1]; exact coNur
  have hz1 : zoc (mget M 1) = some 7 := by rw [k0]; exact coRR
  have hz44 : zoc (mget M 44) = some 8 := by rw [hx.1]; exact coMod
  have hl5 := kN.2.1
  have hr5 := kN.2.2.1
  have hn8 := kR.2.1
  obtain ⟨x0, x1, x2, x3, x4, x5, x16, x17⟩ := hX
  have o44 := hx.1
  have k27 := kR.2.2.1
  rcases (show (k < 0 ∨ nI (n + 1) ≤ k) ∨ ∃ j, j < n + 1 ∧ k = nI j from by rcases pk_ix k (n := n + 1) (by omega) with h | h | h <;> simp [h]) with q | ⟨j, hj, rfl⟩
  · have q' : k < 0 ∨ nI n < k := by
      rcases q with q | q
      · exact Or.inl q
      · right
        have e1 : (nI (n + 1)).toInt = n + 1 := by
          have z : ∀ n, n ≤ 9 → (nI n).toInt = (n : Int) := by decide +kernel
          exact z _ (by omega)
        have e2 : (nI n).toInt = n := by
          have z : ∀ n, n ≤ 9 → (nI n).toInt = (n : Int) := by decide +kernel
          exact z _ (by omega)
        rw [Int32.le_iff_toInt_le] at q
        rw [Int32.lt_iff_toInt_lt]
        omega
    refine ⟨-2, M, M, ?_, ?_, zSkip hz44 g0⟩
    · by_cases q2 : k < 0
      · simp only [e88_0, e88_1, e88_4, e88_5, e88_5n, e88_6, e88_9, e88_12, e88_15, e88_17, e88_18, e88_18n, e88_19, e88_22, e88_23, e88_26, e88_27, e88_28, e88_31, e88_31n, e88_32, e88_35, e88_38, ↓reduceIte, zth_v, zth_n, zthv_s, zthi_s, zthm_s, true_or, or_true, eq_self, ne_eq, not_false_eq_true, not_true_eq_false, and_self, and_true, true_and, false_and, and_false, q2]
      · have q3 := q'.resolve_left q2
        have q4 : ¬ k ≤ nI n := Int32.not_le.mpr q3
        simp only [e88_0, e88_1, e88_4, e88_5, e88_5n, e88_6, e88_9, e88_12, e88_15, e88_17, e88_18, e88_18n, e88_19, e88_22, e88_23, e88_26, e88_27, e88_28, e88_31, e88_31n, e88_32, e88_35, e88_38, ↓reduceIte, zth_v, zth_n, zthv_s, zthi_s, zthm_s, true_or, or_true, eq_self, ne_eq, not_false_eq_true, not_true_eq_false, and_self, and_true, true_and, false_and, and_false, foRR_0, foRR_1, foRR_2, foRR_3, foRR_4, foRR_5, foRR_6, foRR_7, poRR_6, poRR_7, coRR, foRead_0, foRead_1, foRead_2, foRead_3, poRead_3, coRead, k0, k27, q2, q3, q4, Nat.reduceEqDiff]
    · simp only [e164_0, e164_1, e164_2, e164_3, e164_3n, e164_4, e164_7, e164_8, e164_11, e164_14, e164_16, e164_17, e164_17n, e164_18, e164_19, e164_22, e164_23, e164_24, e164_27, e164_27n, e164_28, e164_31, ↓reduceIte, zth_v, zth_n, zthv_s, zthi_s, zthm_s, true_or, or_true, eq_self, ne_eq, not_false_eq_true, not_true_eq_false, and_self, and_true, true_and, false_and, and_false, foMod_0, foMod_1, foMod_2, foMod_3, foMod_4, foMod_5, foMod_6, foMod_7, foMod_8, foMod_9, foMod_10, foMod_11, foMod_12, foMod_13, foMod_14, foMod_15, foMod_16, foMod_17, foMod_18, foMod_19, foMod_20, foMod_21, foMod_22, foMod_23, foMod_24, foMod_25, foMod_26, foMod_27, foMod_28, foMod_29, foMod_30, foMod_31, foMod_32, foMod_33, foMod_34, foMod_35, foMod_36, foMod_37, foMod_38, poMod_0, poMod_1, poMod_2, poMod_3, poMod_4, poMod_5, poMod_12, poMod_13, poMod_14, poMod_15, poMod_20, poMod_21, poMod_22, poMod_23, poMod_28, poMod_29, poMod_30, poMod_38, coMod, o44, x16, m_in_n, q', Nat.reduceEqDiff]
  · have q2 : ¬ nI j < 0 := nI_pos (by omega)
    have q3 : ¬ nI n < nI j := nI_nlt (by omega) (by omega)
    have q4 : nI j ≤ nI n := Int32.not_lt.mp q3
    have q5 : ¬ (nI j < 0 ∨ nI n < nI j) := by rintro (z | z); exact q2 z; exact q3 z
    have e1 : nI n - nI j = nI (n - j) := pk_sub (by omega)
    have kr : zRead (mset M 27 (oRead 28 29 30 (nI (n - j)))) 27 (n - j) o mm w := by
      obtain ⟨a1, a2, a3, a4, a5, a6⟩ := kR
      exact ⟨a1, by omega, mget_self, (mget_ne (by omega)).trans a4, (mget_ne (by omega)).trans a5, (mget_ne (by omega)).trans a6⟩
    have fr1 : zFr M (mset M 27 (oRead 28 29 30 (nI (n - j)))) 27 30 := zFr.rf.set (by omega) (by omega)
    have fr1' := fr1.mono (lo' := 1) (hi' := 43) (by omega) (by omega)
    have hx1 : zMdl (mset M 27 (oRead 28 29 30 (nI (n - j)))) x A := hx.fr fun a g1 g2 => mget_ne (by omega)
    refine ⟨nI (n - j), _, _, ?_, ?_, zFin h65 (z44 hz44 fr1') fr1' (zFr.rf.set (by omega) (by omega)) (hC0.setR fr1 kr) ⟨_, _, hx1.setX (upd x 16 (nI (n - j))), ⟨x0, x1, x2, x3, x4, x5, rfl, x17⟩, hN, hR, hS⟩ hI (fun i hi => hJ i (by omega)) hK⟩
    · simp only [e88_0, e88_1, e88_4, e88_5, e88_5n, e88_6, e88_9, e88_12, e88_15, e88_17, e88_18, e88_18n, e88_19, e88_22, e88_23, e88_26, e88_27, e88_28, e88_31, e88_31n, e88_32, e88_35, e88_38, ↓reduceIte, zth_v, zth_n, zthv_s, zthi_s, zthm_s, true_or, or_true, eq_self, ne_eq, not_false_eq_true, not_true_eq_false, and_self, and_true, true_and, false_and, and_false, foRR_0, foRR_1, foRR_2, foRR_3, foRR_4, foRR_5, foRR_6, foRR_7, poRR_6, poRR_7, coRR, foRead_0, foRead_1, foRead_2, foRead_3, poRead_3, coRead, k0, k27, q2, q3, q4, e1, mget_set, Nat.reduceEqDiff, Nat.reduceAdd]
    · have o1 := hx1.1
      simp only [e164_0, e164_1, e164_2, e164_3, e164_3n, e164_4, e164_7, e164_8, e164_11, e164_14, e164_16, e164_17, e164_17n, e164_18, e164_19, e164_22, e164_23, e164_24, e164_27, e164_27n, e164_28, e164_31, ↓reduceIte, zth_v, zth_n, zthv_s, zthi_s, zthm_s, true_or, or_true, eq_self, ne_eq, not_false_eq_true, not_true_eq_false, and_self, and_true, true_and, false_and, and_false, foMod_0, foMod_1, foMod_2, foMod_3, foMod_4, foMod_5, foMod_6, foMod_7, foMod_8, foMod_9, foMod_10, foMod_11, foMod_12, foMod_13, foMod_14, foMod_15, foMod_16, foMod_17, foMod_18, foMod_19, foMod_20, foMod_21, foMod_22, foMod_23, foMod_24, foMod_25, foMod_26, foMod_27, foMod_28, foMod_29, foMod_30, foMod_31, foMod_32, foMod_33, foMod_34, foMod_35, foMod_36, foMod_37, foMod_38, poMod_0, poMod_1, poMod_2, poMod_3, poMod_4, poMod_5, poMod_12, poMod_13, poMod_14, poMod_15, poMod_20, poMod_21, poMod_22, poMod_23, poMod_28, poMod_29, poMod_30, poMod_38, coMod, o1, x16, m_in_n, q5, i10, e1, mget_set, Nat.reduceEqDiff]
      rfl
end CA
