/-! Call by call, three: lean, tell, call, as -/
section TR
variable {M : zMem} {tr ft : Int32}
theorem t_leave (h : mget M 1 = some (oRR 2 10 18 27 31 35 tr ft)) {v : Int32} : ev 106 0 [some (.ref 1), some (.int v)] [] M = some (none, mset M 1 (oRR 2 10 18 27 31 35 (31 * tr + v) ft)) := by
  simp only [e106_0, e106_0n, e106_1, e106_3, e106_3n, e106_4, e106_7, e106_8, e106_9, e106_10, e106_13, ↓reduceIte, zth_v, zth_n, zthv_s, zthi_s, zthm_s, true_or, or_true, eq_self, ne_eq, not_false_eq_true, not_true_eq_false, and_self, and_true, true_and, false_and, and_false, foRR_0, foRR_1, foRR_2, foRR_3, foRR_4, foRR_5, foRR_6, foRR_7, poRR_6, poRR_7, coRR, h, Nat.reduceEqDiff]
theorem t_faulted (h : mget M 1 = some (oRR 2 10 18 27 31 35 tr ft)) {v : Int32} : ev 115 0 [some (.ref 1), some (.int v)] [] M = some (some (.int (-10 - v)), mset M 1 (oRR 2 10 18 27 31 35 tr v)) := by
  simp only [e115_0, e115_0n, e115_1, e115_2, e115_5, e115_7, e115_8, e115_9, ↓reduceIte, zth_v, zth_n, zthv_s, zthi_s, zthm_s, true_or, or_true, eq_self, ne_eq, not_false_eq_true, not_true_eq_false, and_self, and_true, true_and, false_and, and_false, foRR_0, foRR_1, foRR_2, foRR_3, foRR_4, foRR_5, foRR_6, foRR_7, poRR_6, poRR_7, coRR, h, Nat.reduceEqDiff]
theorem t_childTells (h : mget M 1 = some (oRR 2 10 18 27 31 35 tr ft)) {a : Nat} {q : zRD} (ha : a ≠ 0) (h1 : a ≠ 1) (hq : mget M a = some (oRid q)) : ev 100 0 [some (.ref 1), some (.ref a)] [] M = some (some (.int q.2.1), mset M 1 (oRR 2 10 18 27 31 35 (31 * tr + 1) ft)) := by
  have hz : zoc (mget M 1) = some 7 := by rw [h]; exact coRR
  have h9 := t_leave h (v := 1)
  simp only [e100_0, e100_0n, e100_1, e100_2, e100_5, e100_5n, e100_6, e100_9, ↓reduceIte, zth_v, zth_n, zthv_s, zthi_s, zthm_s, true_or, or_true, eq_self, ne_eq, not_false_eq_true, not_true_eq_false, and_self, and_true, true_and, false_and, and_false, foRR_0, foRR_1, foRR_2, foRR_3, foRR_4, foRR_5, foRR_6, foRR_7, poRR_6, poRR_7, coRR, foRid_0, foRid_1, foRid_2, foRid_3, foRid_4, foRid_5, poRid_0, poRid_1, poRid_2, poRid_3, poRid_4, poRid_5a, poRid_5b, coRid, hz, h9, mget_set, h1, ha, hq, Nat.reduceEqDiff]
theorem t_maidTells (h : mget M 1 = some (oRR 2 10 18 27 31 35 tr ft)) {a : Nat} {q : zRD} (ha : a ≠ 0) (h1 : a ≠ 1) (hq : mget M a = some (oRid q)) : ev 101 0 [some (.ref 1), some (.ref a)] [] M = some (some (.int (q.2.1 + 100)), mset M 1 (oRR 2 10 18 27 31 35 (31 * (31 * tr + 2) + 1) ft)) := by
  have hz : zoc (mget M 1) = some 7 := by rw [h]; exact coRR
  have h9 := t_leave h (v := 2)
  have h8 := t_childTells (M := mset M 1 (oRR 2 10 18 27 31 35 (31 * tr + 2) ft)) mget_self ha h1 ((mget_ne h1).trans hq)
  have hz2 : zoc (mget (mset M 1 (oRR 2 10 18 27 31 35 (31 * tr + 2) ft)) 1) = some 7 := by rw [mget_self]; exact coRR
  simp only [e101_0, e101_0n, e101_1, e101_2, e101_5, e101_5n, e101_6, e101_6n, e101_7, e101_10, e101_12, e101_13, ↓reduceIte, zth_v, zth_n, zthv_s, zthi_s, zthm_s, true_or, or_true, eq_self, ne_eq, not_false_eq_true, not_true_eq_false, and_self, and_true, true_and, false_and, and_false, hz, hz2, h9, h8, mset_mset, Nat.reduceEqDiff]
theorem t_uncleTells (h : mget M 1 = some (oRR 2 10 18 27 31 35 tr ft)) {a : Nat} {q : zRD} (ha : a ≠ 0) (h1 : a ≠ 1) (hq : mget M a = some (oRid q)) : ev 102 0 [some (.ref 1), some (.ref a), none] [] M = some (some (.int (q.2.1 + 100 + q.2.1)), mset M 1 (oRR 2 10 18 27 31 35 (31 * (31 * (31 * (31 * tr + 3) + 2) + 1) + 1) ft)) := by
  have hz : zoc (mget M 1) = some 7 := by rw [h]; exact coRR
  have h9 := t_leave h (v := 3)
  have h8 := t_maidTells (M := mset M 1 (oRR 2 10 18 27 31 35 (31 * tr + 3) ft)) mget_self ha h1 ((mget_ne h1).trans hq)
  have hz2 : zoc (mget (mset M 1 (oRR 2 10 18 27 31 35 (31 * tr + 3) ft)) 1) = some 7 := by rw [mget_self]; exact coRR
  rw [mset_mset] at h8
  have h7 := t_childTells (M := mset M 1 (oRR 2 10 18 27 31 35 (31 * (31 * (31 * tr + 3) + 2) + 1) ft)) mget_self ha h1 ((mget_ne h1).trans hq)
  have hz3 : zoc (mget (mset M 1 (oRR 2 10 18 27 31 35 (31 * (31 * (31 * tr + 3) + 2) + 1) ft)) 1) = some 7 := by rw [mget_self]; exact coRR
  rw [mset_mset] at h7
  simp only [e102_0, e102_0n, e102_1, e102_2, e102_5, e102_5n, e102_6, e102_6n, e102_7, e102_10, e102_11, e102_12, e102_12n, e102_13, e102_13n, e102_14, e102_17, e102_18, ↓reduceIte, zth_v, zth_n, zthv_s, zthi_s, zthm_s, true_or, or_true, eq_self, ne_eq, not_false_eq_true, not_true_eq_false, and_self, and_true, true_and, false_and, and_false, hz, hz2, hz3, h9, h8, h7, Nat.reduceEqDiff]
variable {x : Nat → Int32} {A : Nat → Nat → Int32}
theorem m_traced (h : zMdl M x A) {v : Int32} : ev 178 0 [some (.ref 44), some (.int v)] [] M = some (none, mset M 44 (oM (upd x 17 (31 * x 17 + v)))) := by
  have o44 := h.1
  simp only [e178_0, e178_0n, e178_1, e178_3, e178_3n, e178_4, e178_7, e178_8, e178_9, e178_10, e178_13, ↓reduceIte, zth_v, zth_n, zthv_s, zthi_s, zthm_s, true_or, or_true, eq_self, ne_eq, not_false_eq_true, not_true_eq_false, and_self, and_true, true_and, false_and, and_false, foMod_0, foMod_1, foMod_2, foMod_3, foMod_4, foMod_5, foMod_6, foMod_7, foMod_8, foMod_9, foMod_10, foMod_11, foMod_12, foMod_13, foMod_14, foMod_15, foMod_16, foMod_17, foMod_18, foMod_19, foMod_20, foMod_21, foMod_22, foMod_23, foMod_24, foMod_25, foMod_26, foMod_27, foMod_28, foMod_29, foMod_30, foMod_31, foMod_32, foMod_33, foMod_34, foMod_35, foMod_36, foMod_37, foMod_38, poMod_0, poMod_1, poMod_2, poMod_3, poMod_4, poMod_5, poMod_12, poMod_13, poMod_14, poMod_15, poMod_20, poMod_21, poMod_22, poMod_23, poMod_28, poMod_29, poMod_30, poMod_38, coMod, o44, Nat.reduceEqDiff]
  rfl
theorem m_refused (h : zMdl M x A) {v : Int32} : ev 124 0 [some (.ref 44), some (.int v)] [] M = some (some (.int v), mset M 44 (oM (upd x 0 0))) := by
  have o44 := h.1
  simp only [e124_0, e124_0n, e124_1, e124_2, e124_5, e124_6, ↓reduceIte, zth_v, zth_n, zthv_s, zthi_s, zthm_s, true_or, or_true, eq_self, ne_eq, not_false_eq_true, not_true_eq_false, and_self, and_true, true_and, false_and, and_false, foMod_0, foMod_1, foMod_2, foMod_3, foMod_4, foMod_5, foMod_6, foMod_7, foMod_8, foMod_9, foMod_10, foMod_11, foMod_12, foMod_13, foMod_14, foMod_15, foMod_16, foMod_17, foMod_18, foMod_19, foMod_20, foMod_21, foMod_22, foMod_23, foMod_24, foMod_25, foMod_26, foMod_27, foMod_28, foMod_29, foMod_30, foMod_31, foMod_32, foMod_33, foMod_34, foMod_35, foMod_36, foMod_37, foMod_38, poMod_0, poMod_1, poMod_2, poMod_3, poMod_4, poMod_5, poMod_12, poMod_13, poMod_14, poMod_15, poMod_20, poMod_21, poMod_22, poMod_23, poMod_28, poMod_29, poMod_30, poMod_38, coMod, o44, Nat.reduceEqDiff]
  rfl
theorem m_failed (h : zMdl M x A) {v : Int32} : ev 125 0 [some (.ref 44), some (.int v)] [] M = some (some (.int (-10 - v)), mset M 44 (oM (upd x 0 v))) := by
  have o44 := h.1
  simp only [e125_0, e125_0n, e125_1, e125_2, e125_5, e125_7, e125_8, e125_9, ↓reduceIte, zth_v, zth_n, zthv_s, zthi_s, zthm_s, true_or, or_true, eq_self, ne_eq, not_false_eq_true, not_true_eq_false, and_self, and_true, true_and, false_and, and_false, foMod_0, foMod_1, foMod_2, foMod_3, foMod_4, foMod_5, foMod_6, foMod_7, foMod_8, foMod_9, foMod_10, foMod_11, foMod_12, foMod_13, foMod_14, foMod_15, foMod_16, foMod_17, foMod_18, foMod_19, foMod_20, foMod_21, foMod_22, foMod_23, foMod_24, foMod_25, foMod_26, foMod_27, foMod_28, foMod_29, foMod_30, foMod_31, foMod_32, foMod_33, foMod_34, foMod_35, foMod_36, foMod_37, foMod_38, poMod_0, poMod_1, poMod_2, poMod_3, poMod_4, poMod_5, poMod_12, poMod_13, poMod_14, poMod_15, poMod_20, poMod_21, poMod_22, poMod_23, poMod_28, poMod_29, poMod_30, poMod_38, coMod, o44, Nat.reduceEqDiff]
  rfl
theorem m_failedLong (h : zMdl M x A) {v : Int32} : ev 126 0 [some (.ref 44), some (.int v)] [] M = some (some (.long (-9223372036854775808)), mset M 44 (oM (upd x 0 v))) := by
  have o44 := h.1
  simp only [e126_0, e126_0n, e126_1, e126_2, e126_5, e126_8, ↓reduceIte, zth_v, zth_n, zthv_s, zthi_s, zthm_s, true_or, or_true, eq_self, ne_eq, not_false_eq_true, not_true_eq_false, and_self, and_true, true_and, false_and, and_false, foMod_0, foMod_1, foMod_2, foMod_3, foMod_4, foMod_5, foMod_6, foMod_7, foMod_8, foMod_9, foMod_10, foMod_11, foMod_12, foMod_13, foMod_14, foMod_15, foMod_16, foMod_17, foMod_18, foMod_19, foMod_20, foMod_21, foMod_22, foMod_23, foMod_24, foMod_25, foMod_26, foMod_27, foMod_28, foMod_29, foMod_30, foMod_31, foMod_32, foMod_33, foMod_34, foMod_35, foMod_36, foMod_37, foMod_38, poMod_0, poMod_1, poMod_2, poMod_3, poMod_4, poMod_5, poMod_12, poMod_13, poMod_14, poMod_15, poMod_20, poMod_21, poMod_22, poMod_23, poMod_28, poMod_29, poMod_30, poMod_38, coMod, e120_0, e120_3, o44, Nat.reduceEqDiff]
  rfl
end TR
section CC
variable {M : zMem}
theorem p_call (g : zGood M) {k : Int32} : zPI 103 180 [some (.int k), none] [some (.int k)] M := by
  have g0 := g
  obtain ⟨h65, c, nl, nr, m, F, r, n, o, mm, w, ln, sn, f, tr, ft, hC, ⟨x, A, hx, hX, hN, hR, hS⟩, hI, hJ, hK⟩ := g
  have hC0 := hC
  have hX0 := hX
  obtain ⟨k0, kN, kR, kS, kP⟩ := hC
  have hz2 : zoc (mget M 2) = some 1 := by rw [kN.2.2.2.1]; exact coNur
  have hz1 : zoc (mget M 1) = some 7 := by rw [k0]; exact coRR
  have hz44 : zoc (mget M 44) = some 8 := by rw [hx.1]; exact coMod
  have hl5 := kN.2.1
  have hr5 := kN.2.2.1
  have hn8 := kR.2.1
  obtain ⟨x0, x1, x2, x3, x4, x5, x16, x17⟩ := hX
  have o44 := hx.1
  rcases kr_or k (n := nr) (by omega) with q | ⟨j, hj, rfl⟩
  · have h9 := n_riderAt_out kN q
    have h8 := m_noRider_out hx x2 hr5 q
    refine ⟨-1, M, M, ?_, ?_, zSkip hz44 g0⟩
    · simp only [e103_0, e103_0n, e103_1, e103_4, e103_5, e103_8, e103_8n, e103_9, e103_9n, e103_10, e103_10n, e103_13, e103_14, e103_15, e103_15n, e103_16, e103_19, e103_20, e103_23, e103_23n, e103_24, e103_27, e103_30, e103_30n, e103_31, e103_32, e103_35, ↓reduceIte, zth_v, zth_n, zthv_s, zthi_s, zthm_s, true_or, or_true, eq_self, ne_eq, not_false_eq_true, not_true_eq_false, and_self, and_true, true_and, false_and, and_false, foRR_0, foRR_1, foRR_2, foRR_3, foRR_4, foRR_5, foRR_6, foRR_7, poRR_6, poRR_7, coRR, k0, hz2, h9, Nat.reduceEqDiff]
    · simp only [e180_0, e180_0n, e180_1, e180_2, e180_5, e180_8, e180_9, e180_10, e180_10n, e180_11, e180_11n, e180_12, e180_15, e180_16, e180_17, e180_18, e180_21, e180_22, e180_25, e180_26, e180_29, e180_29n, e180_30, e180_33, e180_34, e180_35, e180_36, e180_39, e180_41, e180_44, e180_45, ↓reduceIte, zth_v, zth_n, zthv_s, zthi_s, zthm_s, true_or, or_true, eq_self, ne_eq, not_false_eq_true, not_true_eq_false, and_self, and_true, true_and, false_and, and_false, foMod_0, foMod_1, foMod_2, foMod_3, foMod_4, foMod_5, foMod_6, foMod_7, foMod_8, foMod_9, foMod_10, foMod_11, foMod_12, foMod_13, foMod_14, foMod_15, foMod_16, foMod_17, foMod_18, foMod_19, foMod_20, foMod_21, foMod_22, foMod_23, foMod_24, foMod_25, foMod_26, foMod_27, foMod_28, foMod_29, foMod_30, foMod_31, foMod_32, foMod_33, foMod_34, foMod_35, foMod_36, foMod_37, foMod_38, poMod_0, poMod_1, poMod_2, poMod_3, poMod_4, poMod_5, poMod_12, poMod_13, poMod_14, poMod_15, poMod_20, poMod_21, poMod_22, poMod_23, poMod_28, poMod_29, poMod_30, poMod_38, coMod, hz44, h8, i10, Nat.reduceEqDiff]
  have h9 := n_riderAt_in kN hj
  have h8 := m_noRider_in hx x2 hr5 hj
  have k4 := kN.2.2.2.2.2.2.1 j (by omega)
  have n3 : 2 + 3 + j ≠ 0 := by omega
  obtain ⟨y46, y47, y48, y49, y50⟩ := hN.2 j hj
  have z46 := zia_in (n := zsz 46) (f := A 46) (j := j) (show j < 5 by omega) (show 5 < 2 ^ 31 by omega)
  have fr1 : ∀ c, zFr M (mset M 1 c) 1 43 := fun c => zFr.rf.set (by omega) (by omega)
  have hx1 : ∀ c, zMdl (mset M 1 c) x A := fun c => hx.fr fun a g1 g2 => mget_ne (by omega)
  have hz1' : ∀ c, zoc (mget (mset M 1 c) 44) = some 8 := fun c => by rw [(hx1 c).1]; exact coMod
  have h8' := fun c => m_noRider_in (hx1 c) x2 hr5 hj
  have o44' := fun c => (hx1 c).1
  have o46' := fun c => (hx1 c).2 46 (by omega) (by omega)
  by_cases u : (r j).1 = 2
  · refine ⟨80, mset M 1 (oRR 2 10 18 27 31 35 (31 * tr + 5) ft), mset (mset M 1 (oRR 2 10 18 27 31 35 (31 * tr + 5) ft)) 44 (oM (upd x 17 (31 * x 17 + 5))), ?_, ?_, zFin h65 (z44 hz44 (fr1 _)) (fr1 _) (zFr.rf.set (by omega) (by omega)) hC0.setT ⟨_, _, (hx1 _).setX _, ⟨x0, x1, x2, x3, x4, x5, x16, by rw [← x17]; rfl⟩, hN, hR, hS⟩ hI hJ hK⟩
    · have t1 := t_leave k0 (v := 5)
      simp only [e103_0, e103_0n, e103_1, e103_4, e103_5, e103_8, e103_8n, e103_9, e103_9n, e103_10, e103_10n, e103_13, e103_14, e103_15, e103_15n, e103_16, e103_19, e103_20, e103_23, e103_23n, e103_24, e103_27, e103_30, e103_30n, e103_31, e103_32, e103_35, e105_0, e105_0n, e105_1, e105_2, e105_5, e105_7, ↓reduceIte, zth_v, zth_n, zthv_s, zthi_s, zthm_s, true_or, or_true, eq_self, ne_eq, not_false_eq_true, not_true_eq_false, and_self, and_true, true_and, false_and, and_false, foRR_0, foRR_1, foRR_2, foRR_3, foRR_4, foRR_5, foRR_6, foRR_7, poRR_6, poRR_7, coRR, foRid_0, foRid_1, foRid_2, foRid_3, foRid_4, foRid_5, poRid_0, poRid_1, poRid_2, poRid_3, poRid_4, poRid_5a, poRid_5b, coRid, k0, hz1, hz2, h9, k4, n3, u, t1, Nat.reduceEqDiff]
    · have t2 := fun c => m_traced (hx1 c) (v := 5)
      have t3 := fun c => ((hx1 c).setX (upd x 17 (31 * x 17 + 5))).1
      have t4 := fun c => ((hx1 c).setX (upd x 17 (31 * x 17 + 5))).2 46 (by omega) (by omega)
      simp only [e180_0, e180_0n, e180_1, e180_2, e180_5, e180_8, e180_9, e180_10, e180_10n, e180_11, e180_11n, e180_12, e180_15, e180_16, e180_17, e180_18, e180_21, e180_22, e180_25, e180_26, e180_29, e180_29n, e180_30, e180_33, e180_34, e180_35, e180_36, e180_39, e180_41, e180_44, e180_45, ↓reduceIte, zth_v, zth_n, zthv_s, zthi_s, zthm_s, true_or, or_true, eq_self, ne_eq, not_false_eq_true, not_true_eq_false, and_self, and_true, true_and, false_and, and_false, foMod_0, foMod_1, foMod_2, foMod_3, foMod_4, foMod_5, foMod_6, foMod_7, foMod_8, foMod_9, foMod_10, foMod_11, foMod_12, foMod_13, foMod_14, foMod_15, foMod_16, foMod_17, foMod_18, foMod_19, foMod_20, foMod_21, foMod_22, foMod_23, foMod_24, foMod_25, foMod_26, foMod_27, foMod_28, foMod_29, foMod_30, foMod_31, foMod_32, foMod_33, foMod_34, foMod_35, foMod_36, foMod_37, foMod_38, poMod_0, poMod_1, poMod_2, poMod_3, poMod_4, poMod_5, poMod_12, poMod_13, poMod_14, poMod_15, poMod_20, poMod_21, poMod_22, poMod_23, poMod_28, poMod_29, poMod_30, poMod_38, coMod, hz1', h8', o44', o46', z46, y46, u, t2, t3, t4, Nat.reduceEqDiff]
  · refine ⟨nI j, mset M 1 (oRR 2 10 18 27 31 35 (31 * tr + 4) ft), mset (mset M 1 (oRR 2 10 18 27 31 35 (31 * tr + 4) ft)) 44 (oM (upd x 17 (31 * x 17 + 4))), ?_, ?_, zFin h65 (z44 hz44 (fr1 _)) (fr1 _) (zFr.rf.set (by omega) (by omega)) hC0.setT ⟨_, _, (hx1 _).setX _, ⟨x0, x1, x2, x3, x4, x5, x16, by rw [← x17]; rfl⟩, hN, hR, hS⟩ hI hJ hK⟩
    · have t1 := t_leave k0 (v := 4)
      simp only [e103_0, e103_0n, e103_1, e103_4, e103_5, e103_8, e103_8n, e103_9, e103_9n, e103_10, e103_10n, e103_13, e103_14, e103_15, e103_15n, e103_16, e103_19, e103_20, e103_23, e103_23n, e103_24, e103_27, e103_30, e103_30n, e103_31, e103_32, e103_35, e104_0, e104_0n, e104_1, e104_2, e104_5, e104_6, ↓reduceIte, zth_v, zth_n, zthv_s, zthi_s, zthm_s, true_or, or_true, eq_self, ne_eq, not_false_eq_true, not_true_eq_false, and_self, and_true, true_and, false_and, and_false, foRR_0, foRR_1, foRR_2, foRR_3, foRR_4, foRR_5, foRR_6, foRR_7, poRR_6, poRR_7, coRR, foRid_0, foRid_1, foRid_2, foRid_3, foRid_4, foRid_5, poRid_0, poRid_1, poRid_2, poRid_3, poRid_4, poRid_5a, poRid_5b, coRid, k0, hz1, hz2, h9, k4, n3, u, t1, Nat.reduceEqDiff]
    · have t2 := fun c => m_traced (hx1 c) (v := 4)
      have t3 := fun c => ((hx1 c).setX (upd x 17 (31 * x 17 + 4))).1
      have t4 := fun c => ((hx1 c).setX (upd x 17 (31 * x 17 + 4))).2 46 (by omega) (by omega)
      simp only [e180_0, e180_0n, e180_1, e180_2, e180_5, e180_8, e180_9, e180_10, e180_10n, e180_11, e180_11n, e180_12, e180_15, e180_16, e180_17, e180_18, e180_21, e180_22, e180_25, e180_26, e180_29, e180_29n, e180_30, e180_33, e180_34, e180_35, e180_36, e180_39, e180_41, e180_44, e180_45, ↓reduceIte, zth_v, zth_n, zthv_s, zthi_s, zthm_s, true_or, or_true, eq_self, ne_eq, not_false_eq_true, not_true_eq_false, and_self, and_true, true_and, false_and, and_false, foMod_0, foMod_1, foMod_2, foMod_3, foMod_4, foMod_5, foMod_6, foMod_7, foMod_8, foMod_9, foMod_10, foMod_11, foMod_12, foMod_13, foMod_14, foMod_15, foMod_16, foMod_17, foMod_18, foMod_19, foMod_20, foMod_21, foMod_22, foMod_23, foMod_24, foMod_25, foMod_26, foMod_27, foMod_28, foMod_29, foMod_30, foMod_31, foMod_32, foMod_33, foMod_34, foMod_35, foMod_36, foMod_37, foMod_38, poMod_0, poMod_1, poMod_2, poMod_3, poMod_4, poMod_5, poMod_12, poMod_13, poMod_14, poMod_15, poMod_20, poMod_21, poMod_22, poMod_23, poMod_28, poMod_29, poMod_30, poMod_38, coMod, hz1', h8', o44', o46', z46, y46, u, t2, t3, t4, Nat.reduceEqDiff]
theorem p_tell (g : zGood M) {k : Int32} : zPI 99 179 [some (.int k), none] [some (.int k), none, none] M := by
  have g0 := g
  obtain ⟨h65, c, nl, nr, m, F, r, n, o, mm, w, ln, sn, f, tr, ft, hC, ⟨x, A, hx, hX, hN, hR, hS⟩, hI, hJ, hK⟩ := g
  have hC0 := hC
  have hX0 := hX
  obtain ⟨k0, kN, kR, kS, kP⟩ := hC
  have hz2 : zoc (mget M 2) = some 1 := by rw [kN.2.2.2.1]; exact coNur
  have hz1 : zoc (mget M 1) = some 7 := by rw [k0]; exact coRR
  have hz44 : zoc (mget M 44) = some 8 := by rw [hx.1]; exact coMod
  have hl5 := kN.2.1
  have hr5 := kN.2.2.1
  have hn8 := kR.2.1
  obtain ⟨x0, x1, x2, x3, x4, x5, x16, x17⟩ := hX
  have o44 := hx.1
  rcases kr_or k (n := nr) (by omega) with q | ⟨j, hj, rfl⟩
  · have h9 := n_riderAt_out kN q
    have h8 := m_noRider_out hx x2 hr5 q
    refine ⟨-1, M, M, ?_, ?_, zSkip hz44 g0⟩
    · simp only [e99_0, e99_0n, e99_1, e99_4, e99_5, e99_8, e99_8n, e99_9, e99_9n, e99_10, e99_10n, e99_13, e99_14, e99_15, e99_15n, e99_16, e99_19, e99_20, e99_23, e99_23n, e99_24, e99_24n, e99_25, e99_28, e99_29, e99_29n, e99_30, e99_33, e99_34, e99_37, e99_37n, e99_38, e99_38n, e99_39, e99_42, e99_45, e99_45n, e99_46, e99_46n, e99_47, e99_50, ↓reduceIte, zth_v, zth_n, zthv_s, zthi_s, zthm_s, true_or, or_true, eq_self, ne_eq, not_false_eq_true, not_true_eq_false, and_self, and_true, true_and, false_and, and_false, foRR_0, foRR_1, foRR_2, foRR_3, foRR_4, foRR_5, foRR_6, foRR_7, poRR_6, poRR_7, coRR, k0, hz2, h9, Nat.reduceEqDiff]
    · simp only [e179_0, e179_0n, e179_1, e179_2, e179_5, e179_8, e179_9, e179_10, e179_10n, e179_11, e179_14, e179_15, e179_16, e179_17, e179_18, e179_19, e179_22, e179_22n, e179_23, e179_24, e179_27, e179_28, e179_31, e179_31n, e179_32, e179_33, e179_36, e179_36n, e179_37, e179_38, e179_41, e179_42, e179_43, e179_46, e179_46n, e179_47, e179_48, e179_51, e179_51n, e179_52, e179_55, e179_56, e179_57, e179_58, e179_59, e179_62, e179_63, e179_66, e179_67, e179_68, e179_71, e179_72, e179_74, e179_75, e179_78, e179_79, e179_80, e179_81, e179_83, e179_84, ↓reduceIte, zth_v, zth_n, zthv_s, zthi_s, zthm_s, true_or, or_true, eq_self, ne_eq, not_false_eq_true, not_true_eq_false, and_self, and_true, true_and, false_and, and_false, foMod_0, foMod_1, foMod_2, foMod_3, foMod_4, foMod_5, foMod_6, foMod_7, foMod_8, foMod_9, foMod_10, foMod_11, foMod_12, foMod_13, foMod_14, foMod_15, foMod_16, foMod_17, foMod_18, foMod_19, foMod_20, foMod_21, foMod_22, foMod_23, foMod_24, foMod_25, foMod_26, foMod_27, foMod_28, foMod_29, foMod_30, foMod_31, foMod_32, foMod_33, foMod_34, foMod_35, foMod_36, foMod_37, foMod_38, poMod_0, poMod_1, poMod_2, poMod_3, poMod_4, poMod_5, poMod_12, poMod_13, poMod_14, poMod_15, poMod_20, poMod_21, poMod_22, poMod_23, poMod_28, poMod_29, poMod_30, poMod_38, coMod, hz44, h8, i10, Nat.reduceEqDiff]
  have h9 := n_riderAt_in kN hj
  have k4 := kN.2.2.2.2.2.2.1 j (by omega)
  have n3 : 2 + 3 + j ≠ 0 := by omega
  have n4 : 2 + 3 + j ≠ 1 := by omega
  obtain ⟨y46, y47, y48, y49, y50⟩ := hN.2 j hj
  have z46 := zia_in (n := zsz 46) (f := A 46) (j := j) (show j < 5 by omega) (show 5 < 2 ^ 31 by omega)
  have z47 := zia_in (n := zsz 47) (f := A 47) (j := j) (show j < 5 by omega) (show 5 < 2 ^ 31 by omega)
  have fr1 : ∀ c, zFr M (mset M 1 c) 1 43 := fun c => zFr.rf.set (by omega) (by omega)
  have hx1 : ∀ c, zMdl (mset M 1 c) x A := fun c => hx.fr fun a g1 g2 => mget_ne (by omega)
  have hz1' : ∀ c, zoc (mget (mset M 1 c) 44) = some 8 := fun c => by rw [(hx1 c).1]; exact coMod
  have h8' := fun c => m_noRider_in (hx1 c) x2 hr5 hj
  have o44' := fun c => (hx1 c).1
  have o46' := fun c => (hx1 c).2 46 (by omega) (by omega)
  have o47' := fun c => (hx1 c).2 47 (by omega) (by omega)
  have hxy : ∀ c y, zMdl (mset (mset M 1 c) 44 (oM y)) y A := fun c y => (hx1 c).setX y
  have hzy : ∀ c y, zoc (mget (mset (mset M 1 c) 44 (oM y)) 44) = some 8 := fun c y => by rw [(hxy c y).1]; exact coMod
  have tT := fun c v => m_traced (hx1 c) (v := v)
  have tY := fun c y v => m_traced (hxy c y) (v := v)
  simp only [mset_mset] at tY
  have oY := fun c y => (hxy c y).2 47 (by omega) (by omega)
  have oX := fun c y => (hxy c y).1
  rcases (hI.2.2 j hj).1 with u | u | u
  · refine ⟨(r j).2.1, mset M 1 (oRR 2 10 18 27 31 35 (31 * tr + 1) ft), mset (mset M 1 (oRR 2 10 18 27 31 35 (31 * tr + 1) ft)) 44 (oM (upd x 17 (31 * x 17 + 1))), ?_, ?_, zFin h65 (z44 hz44 (fr1 _)) (fr1 _) (zFr.rf.set (by omega) (by omega)) hC0.setT ⟨_, _, (hx1 _).setX _, ⟨x0, x1, x2, x3, x4, x5, x16, by rw [← x17]; rfl⟩, hN, hR, hS⟩ hI hJ hK⟩
    · have t1 := t_childTells k0 n3 n4 k4
      simp only [e99_0, e99_0n, e99_1, e99_4, e99_5, e99_8, e99_8n, e99_9, e99_9n, e99_10, e99_10n, e99_13, e99_14, e99_15, e99_15n, e99_16, e99_19, e99_20, e99_23, e99_23n, e99_24, e99_24n, e99_25, e99_28, e99_29, e99_29n, e99_30, e99_33, e99_34, e99_37, e99_37n, e99_38, e99_38n, e99_39, e99_42, e99_45, e99_45n, e99_46, e99_46n, e99_47, e99_50, ↓reduceIte, zth_v, zth_n, zthv_s, zthi_s, zthm_s, true_or, or_true, eq_self, ne_eq, not_false_eq_true, not_true_eq_false, and_self, and_true, true_and, false_and, and_false, foRR_0, foRR_1, foRR_2, foRR_3, foRR_4, foRR_5, foRR_6, foRR_7, poRR_6, poRR_7, coRR, foRid_0, foRid_1, foRid_2, foRid_3, foRid_4, foRid_5, poRid_0, poRid_1, poRid_2, poRid_3, poRid_4, poRid_5a, poRid_5b, coRid, k0, hz1, hz2, h9, k4, n3, u, t1, i01, show ((0 : Int32) = 2) = False from by decide, Nat.reduceEqDiff]
    · simp only [e179_0, e179_0n, e179_1, e179_2, e179_5, e179_8, e179_9, e179_10, e179_10n, e179_11, e179_14, e179_15, e179_16, e179_17, e179_18, e179_19, e179_22, e179_22n, e179_23, e179_24, e179_27, e179_28, e179_31, e179_31n, e179_32, e179_33, e179_36, e179_36n, e179_37, e179_38, e179_41, e179_42, e179_43, e179_46, e179_46n, e179_47, e179_48, e179_51, e179_51n, e179_52, e179_55, e179_56, e179_57, e179_58, e179_59, e179_62, e179_63, e179_66, e179_67, e179_68, e179_71, e179_72, e179_74, e179_75, e179_78, e179_79, e179_80, e179_81, e179_83, e179_84, ↓reduceIte, zth_v, zth_n, zthv_s, zthi_s, zthm_s, true_or, or_true, eq_self, ne_eq, not_false_eq_true, not_true_eq_false, and_self, and_true, true_and, false_and, and_false, foMod_0, foMod_1, foMod_2, foMod_3, foMod_4, foMod_5, foMod_6, foMod_7, foMod_8, foMod_9, foMod_10, foMod_11, foMod_12, foMod_13, foMod_14, foMod_15, foMod_16, foMod_17, foMod_18, foMod_19, foMod_20, foMod_21, foMod_22, foMod_23, foMod_24, foMod_25, foMod_26, foMod_27, foMod_28, foMod_29, foMod_30, foMod_31, foMod_32, foMod_33, foMod_34, foMod_35, foMod_36, foMod_37, foMod_38, poMod_0, poMod_1, poMod_2, poMod_3, poMod_4, poMod_5, poMod_12, poMod_13, poMod_14, poMod_15, poMod_20, poMod_21, poMod_22, poMod_23, poMod_28, poMod_29, poMod_30, poMod_38, coMod, hz1', h8', o44', o46', z46, y46, u, tT, oY, oX, z47, y47, show ((0 : Int32) = 2) = False from by decide, show ((0 : Int32) ≤ 0) = True from by decide, Nat.reduceEqDiff]
  · refine ⟨(r j).2.1 + 100, mset M 1 (oRR 2 10 18 27 31 35 (31 * (31 * tr + 2) + 1) ft), mset (mset M 1 (oRR 2 10 18 27 31 35 (31 * (31 * tr + 2) + 1) ft)) 44 (oM (upd (upd x 17 (31 * x 17 + 2)) 17 (31 * (31 * x 17 + 2) + 1))), ?_, ?_, zFin h65 (z44 hz44 (fr1 _)) (fr1 _) (zFr.rf.set (by omega) (by omega)) hC0.setT ⟨_, _, (hx1 _).setX _, ⟨x0, x1, x2, x3, x4, x5, x16, by rw [← x17]; rfl⟩, hN, hR, hS⟩ hI hJ hK⟩
    · have t1 := t_maidTells k0 n3 n4 k4
      simp only [e99_0, e99_0n, e99_1, e99_4, e99_5, e99_8, e99_8n, e99_9, e99_9n, e99_10, e99_10n, e99_13, e99_14, e99_15, e99_15n, e99_16, e99_19, e99_20, e99_23, e99_23n, e99_24, e99_24n, e99_25, e99_28, e99_29, e99_29n, e99_30, e99_33, e99_34, e99_37, e99_37n, e99_38, e99_38n, e99_39, e99_42, e99_45, e99_45n, e99_46, e99_46n, e99_47, e99_50, ↓reduceIte, zth_v, zth_n, zthv_s, zthi_s, zthm_s, true_or, or_true, eq_self, ne_eq, not_false_eq_true, not_true_eq_false, and_self, and_true, true_and, false_and, and_false, foRR_0, foRR_1, foRR_2, foRR_3, foRR_4, foRR_5, foRR_6, foRR_7, poRR_6, poRR_7, coRR, foRid_0, foRid_1, foRid_2, foRid_3, foRid_4, foRid_5, poRid_0, poRid_1, poRid_2, poRid_3, poRid_4, poRid_5a, poRid_5b, coRid, k0, hz1, hz2, h9, k4, n3, u, t1, show ((1 : Int32) = 2) = False from by decide, Nat.reduceEqDiff]
    · simp only [e179_0, e179_0n, e179_1, e179_2, e179_5, e179_8, e179_9, e179_10, e179_10n, e179_11, e179_14, e179_15, e179_16, e179_17, e179_18, e179_19, e179_22, e179_22n, e179_23, e179_24, e179_27, e179_28, e179_31, e179_31n, e179_32, e179_33, e179_36, e179_36n, e179_37, e179_38, e179_41, e179_42, e179_43, e179_46, e179_46n, e179_47, e179_48, e179_51, e179_51n, e179_52, e179_55, e179_56, e179_57, e179_58, e179_59, e179_62, e179_63, e179_66, e179_67, e179_68, e179_71, e179_72, e179_74, e179_75, e179_78, e179_79, e179_80, e179_81, e179_83, e179_84, ↓reduceIte, zth_v, zth_n, zthv_s, zthi_s, zthm_s, true_or, or_true, eq_self, ne_eq, not_false_eq_true, not_true_eq_false, and_self, and_true, true_and, false_and, and_false, foMod_0, foMod_1, foMod_2, foMod_3, foMod_4, foMod_5, foMod_6, foMod_7, foMod_8, foMod_9, foMod_10, foMod_11, foMod_12, foMod_13, foMod_14, foMod_15, foMod_16, foMod_17, foMod_18, foMod_19, foMod_20, foMod_21, foMod_22, foMod_23, foMod_24, foMod_25, foMod_26, foMod_27, foMod_28, foMod_29, foMod_30, foMod_31, foMod_32, foMod_33, foMod_34, foMod_35, foMod_36, foMod_37, foMod_38, poMod_0, poMod_1, poMod_2, poMod_3, poMod_4, poMod_5, poMod_12, poMod_13, poMod_14, poMod_15, poMod_20, poMod_21, poMod_22, poMod_23, poMod_28, poMod_29, poMod_30, poMod_38, coMod, hz1', h8', o44', o46', z46, y46, u, tT, hzy, tY, oY, oX, z47, y47, i10, show ((1 : Int32) = 2) = False from by decide, show ((1 : Int32) ≤ 0) = False from by decide, Nat.reduceEqDiff]
      rfl
  · refine ⟨(r j).2.1 + 100 + (r j).2.1, mset M 1 (oRR 2 10 18 27 31 35 (31 * (31 * (31 * (31 * tr + 3) + 2) + 1) + 1) ft), mset (mset M 1 (oRR 2 10 18 27 31 35 (31 * (31 * (31 * (31 * tr + 3) + 2) + 1) + 1) ft)) 44 (oM (upd (upd (upd (upd x 17 (31 * x 17 + 3)) 17 (31 * (31 * x 17 + 3) + 2)) 17 (31 * (31 * (31 * x 17 + 3) + 2) + 1)) 17 (31 * (31 * (31 * (31 * x 17 + 3) + 2) + 1) + 1))), ?_, ?_, zFin h65 (z44 hz44 (fr1 _)) (fr1 _) (zFr.rf.set (by omega) (by omega)) hC0.setT ⟨_, _, (hx1 _).setX _, ⟨x0, x1, x2, x3, x4, x5, x16, by rw [← x17]; rfl⟩, hN, hR, hS⟩ hI hJ hK⟩
    · have t1 := t_uncleTells k0 n3 n4 k4
      simp only [e99_0, e99_0n, e99_1, e99_4, e99_5, e99_8, e99_8n, e99_9, e99_9n, e99_10, e99_10n, e99_13, e99_14, e99_15, e99_15n, e99_16, e99_19, e99_20, e99_23, e99_23n, e99_24, e99_24n, e99_25, e99_28, e99_29, e99_29n, e99_30, e99_33, e99_34, e99_37, e99_37n, e99_38, e99_38n, e99_39, e99_42, e99_45, e99_45n, e99_46, e99_46n, e99_47, e99_50, ↓reduceIte, zth_v, zth_n, zthv_s, zthi_s, zthm_s, true_or, or_true, eq_self, ne_eq, not_false_eq_true, not_true_eq_false, and_self, and_true, true_and, false_and, and_false, foRR_0, foRR_1, foRR_2, foRR_3, foRR_4, foRR_5, foRR_6, foRR_7, poRR_6, poRR_7, coRR, foRid_0, foRid_1, foRid_2, foRid_3, foRid_4, foRid_5, poRid_0, poRid_1, poRid_2, poRid_3, poRid_4, poRid_5a, poRid_5b, coRid, k0, hz1, hz2, h9, k4, n3, u, t1, Nat.reduceEqDiff]
    · have e2 : ∀ a : Int32, 2 * a + 100 = a + 100 + a := fun a => by
        rw [show (2 : Int32) = 1 + 1 from rfl, Int32.add_mul, Int32.one_mul, Int32.add_assoc, Int32.add_assoc, Int32.add_comm a 100]
      simp only [e179_0, e179_0n, e179_1, e179_2, e179_5, e179_8, e179_9, e179_10, e179_10n, e179_11, e179_14, e179_15, e179_16, e179_17, e179_18, e179_19, e179_22, e179_22n, e179_23, e179_24, e179_27, e179_28, e179_31, e179_31n, e179_32, e179_33, e179_36, e179_36n, e179_37, e179_38, e179_41, e179_42, e179_43, e179_46, e179_46n, e179_47, e179_48, e179_51, e179_51n, e179_52, e179_55, e179_56, e179_57, e179_58, e179_59, e179_62, e179_63, e179_66, e179_67, e179_68, e179_71, e179_72, e179_74, e179_75, e179_78, e179_79, e179_80, e179_81, e179_83, e179_84, ↓reduceIte, zth_v, zth_n, zthv_s, zthi_s, zthm_s, true_or, or_true, eq_self, ne_eq, not_false_eq_true, not_true_eq_false, and_self, and_true, true_and, false_and, and_false, foMod_0, foMod_1, foMod_2, foMod_3, foMod_4, foMod_5, foMod_6, foMod_7, foMod_8, foMod_9, foMod_10, foMod_11, foMod_12, foMod_13, foMod_14, foMod_15, foMod_16, foMod_17, foMod_18, foMod_19, foMod_20, foMod_21, foMod_22, foMod_23, foMod_24, foMod_25, foMod_26, foMod_27, foMod_28, foMod_29, foMod_30, foMod_31, foMod_32, foMod_33, foMod_34, foMod_35, foMod_36, foMod_37, foMod_38, poMod_0, poMod_1, poMod_2, poMod_3, poMod_4, poMod_5, poMod_12, poMod_13, poMod_14, poMod_15, poMod_20, poMod_21, poMod_22, poMod_23, poMod_28, poMod_29, poMod_30, poMod_38, coMod, hz1', h8', o44', o46', z46, y46, u, tT, hzy, tY, oY, oX, z47, y47, e2, show ((2 : Int32) = 0) = False from by decide, show ((2 : Int32) = 1) = False from by decide, show ((2 : Int32) ≤ 0) = False from by decide, Nat.reduceEqDiff]
      rfl
end CC
