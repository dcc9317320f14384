/-! Call by call, sixteen: scouts, whole -/
theorem all_set : ∀ n, n ≤ 5 → ((1 : Int32) <<< (nI n &&& 31)) - 1 = nI (2 ^ n - 1) := by decide +kernel
theorem all_pc : ∀ n, n ≤ 5 → ∀ s, s < 2 ^ n - 1 → pcn s < pcn (2 ^ n - 1) := by decide +kernel
theorem all_lt : ∀ n, n ≤ 5 → 2 ^ n - 1 < 32 := by decide +kernel
theorem p_scouts {M : zMem} (g : zGood M) : zPI 85 159 [none, none, none, none] [none, none, none, none] M := by
  have g0 := g
  obtain ⟨h65, c, nl, nr, m, F, r, n, o, mm, w, ln, sn, f, tr, ft, hC, ⟨x, A, hx, hX, hN, hR, hS⟩, hI, hJ, hK⟩ := g
  have hC0 := hC
  have hX0 := hX
  obtain ⟨k0, kN, kR, kS, kP⟩ := hC
  have hz2 : zoc (mget M 2) = some 1 := by rw [kN.2.2.2.1]; exact coNur
  have hz1 : zoc (mget M 1) = some 7 := by rw [k0]; exact coRR
  have hz44 : zoc (mget M 44) = some 8 := by rw [hx.1]; exact coMod
  have hl5 := kN.2.1
  have hr5 := kN.2.2.1
  have hn8 := kR.2.1
  obtain ⟨x0, x1, x2, x3, x4, x5, x16, x17⟩ := hX
  have o44 := hx.1
  have h9 := n_isThere kN
  rcases hI.1 with ⟨rfl, rfl, rfl⟩ | ⟨⟨q, q1, q2, rfl⟩, q3, q4⟩
  · refine ⟨-3, M, M, ?_, ?_, zSkip hz44 g0⟩
    · simp only [e85_0, e85_0n, e85_1, e85_4, e85_7, e85_10, e85_12, e85_13, e85_14, e85_14n, e85_15, e85_18, e85_21, e85_22, e85_23, e85_24, e85_25, e85_25n, e85_26, e85_29, e85_30, e85_33, e85_34, e85_35, e85_36, e85_37, e85_39, e85_41, e85_42, e85_45, e85_47, e85_50, e85_51, e85_54, e85_57, e85_57n, e85_58, e85_61, e85_63, e85_66, e85_67, e85_70, e85_72, e85_73, e85_76, e85_79, e85_80, ↓reduceIte, zth_v, zth_n, zthv_s, zthi_s, zthm_s, true_or, or_true, eq_self, ne_eq, not_false_eq_true, not_true_eq_false, and_self, and_true, true_and, false_and, and_false, foRR_0, foRR_1, foRR_2, foRR_3, foRR_4, foRR_5, foRR_6, foRR_7, poRR_6, poRR_7, coRR, k0, hz2, h9, Int32.le_refl, Nat.reduceEqDiff]
    · simp only [e159_0, e159_0n, e159_1, e159_4, e159_7, e159_9, e159_10, e159_11, e159_11n, e159_12, e159_15, e159_16, e159_17, e159_18, e159_19, e159_19n, e159_20, e159_21, e159_24, e159_25, e159_26, e159_27, e159_28, e159_30, e159_32, e159_35, e159_35n, e159_36, e159_38, e159_41, e159_42, e159_45, e159_47, e159_50, e159_51, e159_54, e159_57, e159_59, e159_62, e159_63, e159_64, e159_67, e159_70, e159_71, ↓reduceIte, zth_v, zth_n, zthv_s, zthi_s, zthm_s, true_or, or_true, eq_self, ne_eq, not_false_eq_true, not_true_eq_false, and_self, and_true, true_and, false_and, and_false, foMod_0, foMod_1, foMod_2, foMod_3, foMod_4, foMod_5, foMod_6, foMod_7, foMod_8, foMod_9, foMod_10, foMod_11, foMod_12, foMod_13, foMod_14, foMod_15, foMod_16, foMod_17, foMod_18, foMod_19, foMod_20, foMod_21, foMod_22, foMod_23, foMod_24, foMod_25, foMod_26, foMod_27, foMod_28, foMod_29, foMod_30, foMod_31, foMod_32, foMod_33, foMod_34, foMod_35, foMod_36, foMod_37, foMod_38, poMod_0, poMod_1, poMod_2, poMod_3, poMod_4, poMod_5, poMod_12, poMod_13, poMod_14, poMod_15, poMod_20, poMod_21, poMod_22, poMod_23, poMod_28, poMod_29, poMod_30, poMod_38, coMod, o44, x2, nI_0, Nat.reduceEqDiff]
  have g1 := c_le q1 q2
  have g2 : ¬ nI nr = 0 := nI_ne0 (by omega) (by omega)
  simp only [g1, if_false] at h9
  have k2 := kN.2.2.2.1
  have hT := zT_ok hI
  have z : zMR x A q nl nr F r := ⟨x1, x2, x3, q1, q2, hl5, hr5, hN, hI⟩
  have al := all_lt nr hr5
  have ap := all_pc nr hr5
  have ae := all_set nr hr5
  have hw := n_landsComeToBy kN hT (set := nI (2 ^ nr - 1))
  have sw := m_seenBy hx z (set := nI (2 ^ nr - 1))
  have cl := t_scouts_loop k0 kN hT al (w := zcomeBy (nI (2 ^ nr - 1)) (fun j => zreach (zcome (nI q) F (r j) (zLa r j)) nl) nr) (2 ^ nr - 1) 0 (2 ^ nr - 1) (by omega) al
  have ml := m_scouts_loop hx z (y := some (.int (nI (2 ^ nr - 1)))) (w := zcomeBy (nI (2 ^ nr - 1)) (fun j => zreach (zcome (nI q) F (r j) (zLa r j)) nl) nr) (2 ^ nr - 1 + 1) (2 ^ nr - 1) (by omega) al
  have Pa : (fun s => decide (zcomeBy (nI s) (fun j => zreach (zcome (nI q) F (r j) (zLa r j)) nl) nr = zcomeBy (nI (2 ^ nr - 1)) (fun j => zreach (zcome (nI q) F (r j) (zLa r j)) nl) nr)) (2 ^ nr - 1) = true := decide_eq_true rfl
  obtain ⟨c1, c2, c3⟩ := cS_ok (P := fun s => decide (zcomeBy (nI s) (fun j => zreach (zcome (nI q) F (r j) (zLa r j)) nl) nr = zcomeBy (nI (2 ^ nr - 1)) (fun j => zreach (zcome (nI q) F (r j) (zLa r j)) nl) nr)) ap (2 ^ nr - 1) 0 (2 ^ nr - 1) (by omega) Pa (Or.inl rfl) (fun t ht hP => by
    rcases ht with h | h
    · omega
    · subst h; exact Or.inr ⟨rfl, Nat.le_refl _⟩)
  obtain ⟨m1, m2, m3⟩ := mS_ok (P := fun s => decide (zcomeBy (nI s) (fun j => zreach (zcome (nI q) F (r j) (zLa r j)) nl) nr = zcomeBy (nI (2 ^ nr - 1)) (fun j => zreach (zcome (nI q) F (r j) (zLa r j)) nl) nr)) (all := 2 ^ nr - 1) (2 ^ nr - 1 + 1) (2 ^ nr - 1) (by omega) Pa (Nat.le_refl _) (Or.inr ⟨rfl, rfl⟩) (fun t h1 h2 hP => by omega)
  have ee := sLe_anti (c3 _ m2 m1) (m3 _ c2 c1)
  rw [← ee] at ml
  rw [nI_0] at cl
  refine ⟨nI (cS (fun s => decide (zcomeBy (nI s) (fun j => zreach (zcome (nI q) F (r j) (zLa r j)) nl) nr = zcomeBy (nI (2 ^ nr - 1)) (fun j => zreach (zcome (nI q) F (r j) (zLa r j)) nl) nr)) (2 ^ nr - 1) 0 (2 ^ nr - 1)), M, M, ?_, ?_, zSkip hz44 g0⟩
  · simp only [e85_0, e85_0n, e85_1, e85_4, e85_7, e85_10, e85_12, e85_13, e85_14, e85_14n, e85_15, e85_18, e85_21, e85_22, e85_23, e85_24, e85_25, e85_25n, e85_26, e85_29, e85_30, e85_33, e85_34, e85_35, e85_36, e85_37, e85_41, e85_42, e85_45, e85_47, e85_50, e85_51, e85_54, e85_57, e85_57n, e85_58, e85_61, e85_63, e85_66, e85_67, e85_70, e85_72, e85_73, e85_76, e85_79, e85_80, ↓reduceIte, zth_v, zth_n, zthv_s, zthi_s, zthm_s, true_or, or_true, eq_self, ne_eq, not_false_eq_true, not_true_eq_false, and_self, and_true, true_and, false_and, and_false, foRR_0, foRR_1, foRR_2, foRR_3, foRR_4, foRR_5, foRR_6, foRR_7, poRR_6, poRR_7, coRR, foNur_0, foNur_1, foNur_2, foNur_3, foNur_4, foNur_5, poNur_2, poNur_3, poNur_4, poNur_5, coNur, k0, k2, hz2, h9, ae, hw, i10, Nat.reduceEqDiff]
    exact cl
  · simp only [e159_0, e159_0n, e159_1, e159_4, e159_7, e159_9, e159_10, e159_11, e159_11n, e159_12, e159_15, e159_16, e159_17, e159_18, e159_19, e159_19n, e159_20, e159_21, e159_24, e159_25, e159_26, e159_27, e159_28, e159_32, e159_35, e159_35n, e159_36, e159_38, e159_41, e159_42, e159_45, e159_47, e159_50, e159_51, e159_54, e159_57, e159_59, e159_62, e159_63, e159_64, e159_67, e159_70, e159_71, ↓reduceIte, zth_v, zth_n, zthv_s, zthi_s, zthm_s, true_or, or_true, eq_self, ne_eq, not_false_eq_true, not_true_eq_false, and_self, and_true, true_and, false_and, and_false, foMod_0, foMod_1, foMod_2, foMod_3, foMod_4, foMod_5, foMod_6, foMod_7, foMod_8, foMod_9, foMod_10, foMod_11, foMod_12, foMod_13, foMod_14, foMod_15, foMod_16, foMod_17, foMod_18, foMod_19, foMod_20, foMod_21, foMod_22, foMod_23, foMod_24, foMod_25, foMod_26, foMod_27, foMod_28, foMod_29, foMod_30, foMod_31, foMod_32, foMod_33, foMod_34, foMod_35, foMod_36, foMod_37, foMod_38, poMod_0, poMod_1, poMod_2, poMod_3, poMod_4, poMod_5, poMod_12, poMod_13, poMod_14, poMod_15, poMod_20, poMod_21, poMod_22, poMod_23, poMod_28, poMod_29, poMod_30, poMod_38, coMod, o44, hz44, x2, g2, ae, sw, Nat.reduceEqDiff]
    exact ml
