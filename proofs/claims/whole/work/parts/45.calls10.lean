/-! Call by call, ten: creaks, shut, look -/
section CK
variable {M : zMem} {x : Nat → Int32} {A : Nat → Nat → Int32} {n : Nat}
theorem m_creaks_loop (x16 : x 16 = nI n) (hn : n ≤ 8) (ho : ∀ i, i < n → ∃ u, u < 5 ∧ A 59 i = nI u) {was : Option Value} : ∀ k v M y acc, v + k = 10 → 1 ≤ v → zMdl M (upd x 3 y) A → ∃ M' y', ev 168 19 [some (.ref 44), was, some (.int acc), some (.int (nI v))] [] M = ev 168 53 [some (.ref 44), was, some (.int (zacc (fun v => zall (mSo v (A 46) (A 47) (A 59) (A 60) (A 61)) n 0) k v acc)), some (.int (nI 10))] [] M' ∧ zMdl M' (upd x 3 y') A ∧ zFr M M' 44 65 := by
  intro k
  induction k with
  | zero =>
    intro v M y acc hv hv1 h
    obtain rfl : v = 10 := by omega
    refine ⟨M, y, ?_, h, zFr.rf⟩
    have g1 : (10 : Int32) ≤ nI 10 := by decide
    simp only [e168_0, e168_0n, e168_1, e168_4, e168_7, e168_9, e168_10, e168_10n, e168_11, e168_14, e168_15, e168_16, e168_17, e168_18, e168_19, e168_20, e168_22, e168_25, e168_25n, e168_26, e168_27, e168_30, e168_31, e168_31n, e168_32, e168_35, e168_38, e168_39, e168_40, e168_41, e168_44, e168_45, e168_46, e168_47, e168_50, e168_54, e168_55, e168_58, e168_59, ↓reduceIte, zth_v, zth_n, zthv_s, zthi_s, zthm_s, true_or, or_true, eq_self, ne_eq, not_false_eq_true, not_true_eq_false, and_self, and_true, true_and, false_and, and_false, g1, zacc]
  | succ k ih =>
    intro v M y acc hv hv1 h
    have g1 : ¬ (10 : Int32) ≤ nI v := ni_nle (b := 10) (by omega) (by omega)
    have h1 := h.setX (upd (upd x 3 y) 3 (nI v))
    have eo : oM (upd (upd x 3 y) 3 (nI v)) = oM (upd x 3 (nI v)) := by rw [upd_upd]
    rw [upd_upd] at h1
    have so := m_areSo h1 (q := v) rfl hv1 (by omega) x16 hn ho
    obtain ⟨M', y', i1, i2, i3⟩ := ih (v + 1) _ (nI v) (if zall (mSo v (A 46) (A 47) (A 59) (A 60) (A 61)) n 0 = 0 then acc else acc ||| (1 <<< (nI v &&& 31))) (by omega) (by omega) h1
    refine ⟨M', y', ?_, i2, zFr.tr (zFr.rf.set (by omega) (by omega)) i3⟩
    have o44 := h.1
    have hz44 : zoc (mget M 44) = some 8 := by rw [h.1]; exact coMod
    have hz44' : zoc (mget (mset M 44 (oM (upd x 3 (nI v)))) 44) = some 8 := by rw [h1.1]; exact coMod
    have em : ∀ b, mset M 44 (oMod (upd x 3 y 0) (upd x 3 y 1) (upd x 3 y 2) b (upd x 3 y 4) (upd x 3 y 5) (upd x 3 y 6) (upd x 3 y 7) (upd x 3 y 8) (upd x 3 y 9) (upd x 3 y 10) (upd x 3 y 11) (upd x 3 y 12) (upd x 3 y 13) (upd x 3 y 14) (upd x 3 y 15) (upd x 3 y 16) (upd x 3 y 17)) = mset M 44 (oM (upd x 3 b)) := fun b => rfl
    rw [zacc, ← i1, e168_19]
    rcases zall_or (mSo v (A 46) (A 47) (A 59) (A 60) (A 61)) n 0 with e | e
    · rw [e] at so
      simp only [e168_0, e168_0n, e168_1, e168_4, e168_7, e168_9, e168_10, e168_10n, e168_11, e168_14, e168_15, e168_16, e168_17, e168_18, e168_20, e168_22, e168_25, e168_25n, e168_26, e168_27, e168_30, e168_31, e168_31n, e168_32, e168_35, e168_38, e168_39, e168_40, e168_41, e168_44, e168_45, e168_46, e168_47, e168_50, e168_54, e168_55, e168_58, e168_59, ↓reduceIte, zth_v, zth_n, zthv_s, zthi_s, zthm_s, true_or, or_true, eq_self, ne_eq, not_false_eq_true, not_true_eq_false, and_self, and_true, true_and, false_and, and_false, foMod_0, foMod_1, foMod_2, foMod_3, foMod_4, foMod_5, foMod_6, foMod_7, foMod_8, foMod_9, foMod_10, foMod_11, foMod_12, foMod_13, foMod_14, foMod_15, foMod_16, foMod_17, foMod_18, foMod_19, foMod_20, foMod_21, foMod_22, foMod_23, foMod_24, foMod_25, foMod_26, foMod_27, foMod_28, foMod_29, foMod_30, foMod_31, foMod_32, foMod_33, foMod_34, foMod_35, foMod_36, foMod_37, foMod_38, poMod_0, poMod_1, poMod_2, poMod_3, poMod_4, poMod_5, poMod_12, poMod_13, poMod_14, poMod_15, poMod_20, poMod_21, poMod_22, poMod_23, poMod_28, poMod_29, poMod_30, poMod_38, coMod, o44, em, hz44', so, g1, e, or_0, nI_1, Nat.reduceEqDiff]
    · rw [e] at so
      simp only [e168_0, e168_0n, e168_1, e168_4, e168_7, e168_9, e168_10, e168_10n, e168_11, e168_14, e168_15, e168_16, e168_17, e168_18, e168_20, e168_22, e168_25, e168_25n, e168_26, e168_27, e168_30, e168_31, e168_31n, e168_32, e168_35, e168_38, e168_39, e168_40, e168_41, e168_44, e168_45, e168_46, e168_47, e168_50, e168_54, e168_55, e168_58, e168_59, ↓reduceIte, zth_v, zth_n, zthv_s, zthi_s, zthm_s, true_or, or_true, eq_self, ne_eq, not_false_eq_true, not_true_eq_false, and_self, and_true, true_and, false_and, and_false, foMod_0, foMod_1, foMod_2, foMod_3, foMod_4, foMod_5, foMod_6, foMod_7, foMod_8, foMod_9, foMod_10, foMod_11, foMod_12, foMod_13, foMod_14, foMod_15, foMod_16, foMod_17, foMod_18, foMod_19, foMod_20, foMod_21, foMod_22, foMod_23, foMod_24, foMod_25, foMod_26, foMod_27, foMod_28, foMod_29, foMod_30, foMod_31, foMod_32, foMod_33, foMod_34, foMod_35, foMod_36, foMod_37, foMod_38, poMod_0, poMod_1, poMod_2, poMod_3, poMod_4, poMod_5, poMod_12, poMod_13, poMod_14, poMod_15, poMod_20, poMod_21, poMod_22, poMod_23, poMod_28, poMod_29, poMod_30, poMod_38, coMod, o44, em, hz44', so, g1, e, i10, nI_1, Nat.reduceEqDiff]
end CK
theorem t_creaks_loop {M : zMem} {tr ft : Int32} (k0 : mget M 1 = some (oRR 2 10 18 27 31 35 tr ft)) {c m : Int32} {nl nr : Nat} {F : Nat → Int32} {r : Nat → zRD} (kN : zNur M 2 c nl nr m F r) {n : Nat} {o mm w : Nat → Int32} (kR : zRead M 27 n o mm w) (hJ : zInR nr n o) : ∀ k v acc, v + k = 10 → ev 91 17 [some (.ref 1), some (.int acc), some (.int (nI v))] [] M = some (some (.int (zacc (fun v => zall (zsoC (nI v) r o mm w (-9) 0 0) n 0) k v acc)), M) := by
  have k2 := kN.2.2.2.1
  have hz27 : zoc (mget M 27) = some 2 := by rw [kR.2.2.1]; exact coRead
  intro k
  induction k with
  | zero =>
    intro v acc hv
    obtain rfl : v = 10 := by omega
    have g1 : (9 : Int32) < nI 10 := by decide
    have g2 : ¬ nI 10 ≤ (9 : Int32) := by decide
    simp only [e91_0, e91_0n, e91_1, e91_4, e91_7, e91_10, e91_12, e91_13, e91_14, e91_15, e91_16, e91_17, e91_18, e91_20, e91_23, e91_23n, e91_24, e91_27, e91_27n, e91_28, e91_31, e91_33, e91_34, e91_35, e91_36, e91_39, e91_42, e91_43, e91_44, e91_45, e91_46, e91_47, e91_48, e91_51, e91_54, e91_55, ↓reduceIte, zth_v, zth_n, zthv_s, zthi_s, zthm_s, true_or, or_true, eq_self, ne_eq, not_false_eq_true, not_true_eq_false, and_self, and_true, true_and, false_and, and_false, g1, g2, zacc]
  | succ k ih =>
    intro v acc hv
    have g1 : ¬ (9 : Int32) < nI v := nI_nlt (a := 9) (by omega) (by omega)
    have g2 : nI v ≤ (9 : Int32) := Int32.not_lt.mp g1
    have so := r_areSo kR kN hJ (k := -9) (kd := 0) (ln := 0) (cr := nI v)
    have ih := fun acc => ih (v + 1) acc (by omega)
    rw [zacc, ← ih, e91_17]
    rcases zall_or (zsoC (nI v) r o mm w (-9) 0 0) n 0 with e | e
    · rw [e] at so
      simp only [e91_0, e91_0n, e91_1, e91_4, e91_7, e91_10, e91_12, e91_13, e91_14, e91_15, e91_16, e91_18, e91_20, e91_23, e91_23n, e91_24, e91_27, e91_27n, e91_28, e91_31, e91_33, e91_34, e91_35, e91_36, e91_39, e91_42, e91_43, e91_44, e91_45, e91_46, e91_47, e91_48, e91_51, e91_54, e91_55, ↓reduceIte, zth_v, zth_n, zthv_s, zthi_s, zthm_s, true_or, or_true, eq_self, ne_eq, not_false_eq_true, not_true_eq_false, and_self, and_true, true_and, false_and, and_false, foRR_0, foRR_1, foRR_2, foRR_3, foRR_4, foRR_5, foRR_6, foRR_7, poRR_6, poRR_7, coRR, k0, hz27, so, g1, g2, e, nI_1, Nat.reduceEqDiff]
    · rw [e] at so
      simp only [e91_0, e91_0n, e91_1, e91_4, e91_7, e91_10, e91_12, e91_13, e91_14, e91_15, e91_16, e91_18, e91_20, e91_23, e91_23n, e91_24, e91_27, e91_27n, e91_28, e91_31, e91_33, e91_34, e91_35, e91_36, e91_39, e91_42, e91_43, e91_44, e91_45, e91_46, e91_47, e91_48, e91_51, e91_54, e91_55, ↓reduceIte, zth_v, zth_n, zthv_s, zthi_s, zthm_s, true_or, or_true, eq_self, ne_eq, not_false_eq_true, not_true_eq_false, and_self, and_true, true_and, false_and, and_false, foRR_0, foRR_1, foRR_2, foRR_3, foRR_4, foRR_5, foRR_6, foRR_7, poRR_6, poRR_7, coRR, k0, hz27, so, g1, g2, e, i10, nI_1, Nat.reduceEqDiff]
theorem zacc_congr {g g' : Nat → Int32} : ∀ k j a, (∀ i, j ≤ i → i < j + k → g i = g' i) → zacc g k j a = zacc g' k j a := by
  intro k
  induction k with
  | zero => intro j a _; rfl
  | succ k ih =>
    intro j a h
    rw [zacc, zacc, h j (by omega) (by omega), ih (j + 1) _ (fun i h1 h2 => h i (by omega) (by omega))]
theorem p_creaks {M : zMem} (g : zGood M) : zPI 91 168 [none, none] [none, none, none] M := by
  have g0 := g
  obtain ⟨h65, c, nl, nr, m, F, r, n, o, mm, w, ln, sn, f, tr, ft, hC, ⟨x, A, hx, hX, hN, hR, hS⟩, hI, hJ, hK⟩ := g
  have hC0 := hC
  have hX0 := hX
  obtain ⟨k0, kN, kR, kS, kP⟩ := hC
  have hz2 : zoc (mget M 2) = some 1 := by rw [kN.2.2.2.1]; exact coNur
  have hz1 : zoc (mget M 1) = some 7 := by rw [k0]; exact coRR
  have hz44 : zoc (mget M 44) = some 8 := by rw [hx.1]; exact coMod
  have hl5 := kN.2.1
  have hr5 := kN.2.2.1
  have hn8 := kR.2.1
  obtain ⟨x0, x1, x2, x3, x4, x5, x16, x17⟩ := hX
  have o44 := hx.1
  have h9 := n_isThere kN
  rcases hI.1 with ⟨rfl, rfl, rfl⟩ | ⟨⟨q, q1, q2, rfl⟩, q3, q4⟩
  · refine ⟨-3, M, M, ?_, ?_, zSkip hz44 g0⟩
    · simp only [e91_0, e91_0n, e91_1, e91_4, e91_7, e91_10, e91_12, e91_13, e91_14, e91_15, e91_16, e91_17, e91_18, e91_20, e91_23, e91_23n, e91_24, e91_27, e91_27n, e91_28, e91_31, e91_33, e91_34, e91_35, e91_36, e91_39, e91_42, e91_43, e91_44, e91_45, e91_46, e91_47, e91_48, e91_51, e91_54, e91_55, ↓reduceIte, zth_v, zth_n, zthv_s, zthi_s, zthm_s, true_or, or_true, eq_self, ne_eq, not_false_eq_true, not_true_eq_false, and_self, and_true, true_and, false_and, and_false, foRR_0, foRR_1, foRR_2, foRR_3, foRR_4, foRR_5, foRR_6, foRR_7, poRR_6, poRR_7, coRR, k0, hz2, h9, Int32.le_refl, Nat.reduceEqDiff]
    · simp only [e168_0, e168_0n, e168_1, e168_4, e168_7, e168_9, e168_10, e168_10n, e168_11, e168_14, e168_15, e168_16, e168_17, e168_18, e168_19, e168_20, e168_22, e168_25, e168_25n, e168_26, e168_27, e168_30, e168_31, e168_31n, e168_32, e168_35, e168_38, e168_39, e168_40, e168_41, e168_44, e168_45, e168_46, e168_47, e168_50, e168_53, e168_53n, e168_54, e168_55, e168_58, e168_59, ↓reduceIte, zth_v, zth_n, zthv_s, zthi_s, zthm_s, true_or, or_true, eq_self, ne_eq, not_false_eq_true, not_true_eq_false, and_self, and_true, true_and, false_and, and_false, foMod_0, foMod_1, foMod_2, foMod_3, foMod_4, foMod_5, foMod_6, foMod_7, foMod_8, foMod_9, foMod_10, foMod_11, foMod_12, foMod_13, foMod_14, foMod_15, foMod_16, foMod_17, foMod_18, foMod_19, foMod_20, foMod_21, foMod_22, foMod_23, foMod_24, foMod_25, foMod_26, foMod_27, foMod_28, foMod_29, foMod_30, foMod_31, foMod_32, foMod_33, foMod_34, foMod_35, foMod_36, foMod_37, foMod_38, poMod_0, poMod_1, poMod_2, poMod_3, poMod_4, poMod_5, poMod_12, poMod_13, poMod_14, poMod_15, poMod_20, poMod_21, poMod_22, poMod_23, poMod_28, poMod_29, poMod_30, poMod_38, coMod, o44, x2, nI_0, Nat.reduceEqDiff]
  have g1 := c_le q1 q2
  have g2 : ¬ nI nr = 0 := nI_ne0 (by omega) (by omega)
  simp only [g1, if_false] at h9
  have tl := t_creaks_loop k0 kN kR hJ 9 1 0 (by omega)
  obtain ⟨r59, r60, r61⟩ := hR
  have hx0 : zMdl M (upd x 3 (x 3)) A := by rw [upd_id]; exact hx
  obtain ⟨M', y', i1, i2, i3⟩ := m_creaks_loop (A := A) (was := some (.int (nI q))) x16 hn8 (fun i hi => by
    obtain ⟨u, hu, e⟩ := hJ i hi
    exact ⟨u, by omega, by rw [r59]; exact e⟩) 9 1 M _ 0 (by omega) (by omega) hx0
  have e9 : zacc (fun v => zall (mSo v (A 46) (A 47) (A 59) (A 60) (A 61)) n 0) 9 1 0 = zacc (fun v => zall (zsoC (nI v) r o mm w (-9) 0 0) n 0) 9 1 0 := by
    apply zacc_congr
    intro v hv1 hv2
    apply zall_congr
    intro i _ hi
    obtain ⟨u, hu, e⟩ := hJ i (by omega)
    obtain ⟨a1, a2, a3⟩ := hN.2 u hu
    unfold mSo zsoC
    rw [r59, r60, r61, e, zquo_q hv1 (show v ≤ 9 by omega), Int32.mul_comm (mm i), nI_clamp (show u < 2 ^ 31 by omega), if_neg (n9v (show u ≤ 9 by omega)), a1, a2]
  rw [e9] at i1
  have i2' := i2.setX (upd (upd x 3 y') 3 (nI q))
  rw [upd_upd, ← x3, upd_id] at i2'
  have o44' := i2.1
  refine ⟨zacc (fun v => zall (zsoC (nI v) r o mm w (-9) 0 0) n 0) 9 1 0, M, _, ?_, ?_, zFin h65 hz44 zFr.rf (zFr.tr i3 (zFr.rf.set (by omega) (by omega))) hC0 ⟨_, _, i2', hX0, hN, ⟨r59, r60, r61⟩, hS⟩ hI hJ hK⟩
  · simp only [e91_0, e91_0n, e91_1, e91_4, e91_7, e91_10, e91_12, e91_13, e91_14, e91_15, e91_16, e91_18, e91_20, e91_23, e91_23n, e91_24, e91_27, e91_27n, e91_28, e91_31, e91_33, e91_34, e91_35, e91_36, e91_39, e91_42, e91_43, e91_44, e91_45, e91_46, e91_47, e91_48, e91_51, e91_54, e91_55, ↓reduceIte, zth_v, zth_n, zthv_s, zthi_s, zthm_s, true_or, or_true, eq_self, ne_eq, not_false_eq_true, not_true_eq_false, and_self, and_true, true_and, false_and, and_false, foRR_0, foRR_1, foRR_2, foRR_3, foRR_4, foRR_5, foRR_6, foRR_7, poRR_6, poRR_7, coRR, k0, hz2, h9, i10, Nat.reduceEqDiff]
    exact tl
  · have st : ev 168 0 [some (.ref 44), none, none, none] [] M = ev 168 19 [some (.ref 44), some (.int (nI q)), some (.int 0), some (.int 1)] [] M := by
      simp only [e168_0, e168_0n, e168_1, e168_4, e168_7, e168_9, e168_10, e168_10n, e168_11, e168_14, e168_15, e168_16, e168_17, e168_18, e168_20, e168_22, e168_25, e168_25n, e168_26, e168_27, e168_30, e168_31, e168_31n, e168_32, e168_35, e168_38, e168_39, e168_40, e168_41, e168_44, e168_45, e168_46, e168_47, e168_50, e168_53, e168_53n, e168_54, e168_55, e168_58, e168_59, ↓reduceIte, zth_v, zth_n, zthv_s, zthi_s, zthm_s, true_or, or_true, eq_self, ne_eq, not_false_eq_true, not_true_eq_false, and_self, and_true, true_and, false_and, and_false, foMod_0, foMod_1, foMod_2, foMod_3, foMod_4, foMod_5, foMod_6, foMod_7, foMod_8, foMod_9, foMod_10, foMod_11, foMod_12, foMod_13, foMod_14, foMod_15, foMod_16, foMod_17, foMod_18, foMod_19, foMod_20, foMod_21, foMod_22, foMod_23, foMod_24, foMod_25, foMod_26, foMod_27, foMod_28, foMod_29, foMod_30, foMod_31, foMod_32, foMod_33, foMod_34, foMod_35, foMod_36, foMod_37, foMod_38, poMod_0, poMod_1, poMod_2, poMod_3, poMod_4, poMod_5, poMod_12, poMod_13, poMod_14, poMod_15, poMod_20, poMod_21, poMod_22, poMod_23, poMod_28, poMod_29, poMod_30, poMod_38, coMod, o44, x2, x3, g2, Nat.reduceEqDiff]
    rw [st]
    refine i1.trans ?_
    simp only [e168_0, e168_0n, e168_1, e168_4, e168_7, e168_9, e168_10, e168_10n, e168_11, e168_14, e168_15, e168_16, e168_17, e168_18, e168_19, e168_20, e168_22, e168_25, e168_25n, e168_26, e168_27, e168_30, e168_31, e168_31n, e168_32, e168_35, e168_38, e168_39, e168_40, e168_41, e168_44, e168_45, e168_46, e168_47, e168_50, e168_53, e168_53n, e168_54, e168_55, e168_58, e168_59, ↓reduceIte, zth_v, zth_n, zthv_s, zthi_s, zthm_s, true_or, or_true, eq_self, ne_eq, not_false_eq_true, not_true_eq_false, and_self, and_true, true_and, false_and, and_false, foMod_0, foMod_1, foMod_2, foMod_3, foMod_4, foMod_5, foMod_6, foMod_7, foMod_8, foMod_9, foMod_10, foMod_11, foMod_12, foMod_13, foMod_14, foMod_15, foMod_16, foMod_17, foMod_18, foMod_19, foMod_20, foMod_21, foMod_22, foMod_23, foMod_24, foMod_25, foMod_26, foMod_27, foMod_28, foMod_29, foMod_30, foMod_31, foMod_32, foMod_33, foMod_34, foMod_35, foMod_36, foMod_37, foMod_38, poMod_0, poMod_1, poMod_2, poMod_3, poMod_4, poMod_5, poMod_12, poMod_13, poMod_14, poMod_15, poMod_20, poMod_21, poMod_22, poMod_23, poMod_28, poMod_29, poMod_30, poMod_38, coMod, o44', Nat.reduceEqDiff]
    refine congrArg (fun z => some (some (Value.int (zacc (fun v => zall (zsoC (nI v) r o mm w (-9) 0 0) n 0) 9 1 0)), mset M' 44 z)) ?_
    show oM (upd x 3 (nI q)) = oM x
    rw [← x3, upd_id]
theorem bt_xor : ∀ t, t < 32 → ∀ l, l < 5 → nI t &&& (((1 : Int32) <<< (nI l &&& 31)) ^^^ (-1)) = nI (t &&& (31 ^^^ 2 ^ l)) := by decide +kernel
theorem zshut_shut {r : Nat → zRD} {n j : Nat} (hn : n ≤ 5) (hj : j < n) {q : zRD} (hq : q.2.2.2.2.2 = 1) : zshut (va_up r j q) n = zshut r n ||| (1 <<< (nI j &&& 31)) := by
  rw [zshut_set _ n hn, zshut_set r n hn, bt_or _ (bset_lt _ n hn) j (by omega)]
  congr 1
  apply Nat.eq_of_testBit_eq
  intro i
  rw [bset_test, Nat.testBit_or, bset_test, Nat.testBit_two_pow]
  unfold rShutB
  by_cases e : i = j
  · subst e
    rw [va_up_self, hq]
    simp [hj]
  · rw [va_up_ne _ _ e]
    have : decide (j = i) = false := by simp; omega
    rw [this]; simp
theorem zshut_up {r : Nat → zRD} {n j : Nat} (hn : n ≤ 5) (hj : j < n) {q : zRD} (hq : q.2.2.2.2.2 = 0) : zshut (va_up r j q) n = zshut r n &&& (((1 : Int32) <<< (nI j &&& 31)) ^^^ (-1)) := by
  rw [zshut_set _ n hn, zshut_set r n hn, bt_xor _ (bset_lt _ n hn) j (by omega)]
  congr 1
  apply Nat.eq_of_testBit_eq
  intro i
  rw [bset_test, Nat.testBit_and, bset_test, Nat.testBit_xor, Nat.testBit_two_pow, show 31 = 2 ^ 5 - 1 from rfl, Nat.testBit_two_pow_sub_one]
  unfold rShutB
  by_cases e : i = j
  · subst e
    rw [va_up_self, hq]
    have : decide (i < 5) = true := by simp; omega
    simp [this]
  · rw [va_up_ne _ _ e]
    have : decide (j = i) = false := by simp; omega
    rw [this]
    by_cases e2 : i < n
    · have : decide (i < 5) = true := by simp; omega
      simp [this, e2]
    · simp [e2]
