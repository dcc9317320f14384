/-! Call by call, eleven: shut, look -/
section LK
variable {M : zMem} {x : Nat → Int32} {A : Nat → Nat → Int32}
def xLk (x : Nat → Int32) (j : Nat) : Nat → Int32 := upd (upd x 5 (x 5 &&& (((1 : Int32) <<< (nI j &&& 31)) ^^^ (-1)))) 10 (x 10 + 1)
def aLk (A : Nat → Nat → Int32) (j : Nat) : Nat → Nat → Int32 := va_up (va_up A 49 (upd (A 49) j 0)) 50 (upd (A 50) j 0)
theorem m_looked (h : zMdl M x A) {j : Nat} (hj : j < 5) : ∃ M', ev 142 0 [some (.ref 44), some (.int (nI j))] [] M = some (none, M') ∧ zMdl M' (xLk x j) (aLk A j) ∧ zFr M M' 44 65 := by
  have h1 := h.setX (upd x 5 (x 5 &&& (((1 : Int32) <<< (nI j &&& 31)) ^^^ (-1))))
  have h2 := h1.setA 49 (by omega) (by omega) (upd (A 49) j 0)
  have h3 := h2.setA 50 (by omega) (by omega) (upd (A 50) j 0)
  have h4 := h3.setX (xLk x j)
  refine ⟨_, ?_, h4, (((zFr.rf.set (by omega) (by omega)).set (by omega) (by omega)).set (by omega) (by omega)).set (by omega) (by omega)⟩
  have o44 := h.1
  have o44' := h1.1
  have o44'' := h2.1
  have o44''' := h3.1
  have em : mset M 44 (oMod (x 0) (x 1) (x 2) (x 3) (x 4) (x 5 &&& (((1 : Int32) <<< (nI j &&& 31)) ^^^ (-1))) (x 6) (x 7) (x 8) (x 9) (x 10) (x 11) (x 12) (x 13) (x 14) (x 15) (x 16) (x 17)) = mset M 44 (oM (upd x 5 (x 5 &&& (((1 : Int32) <<< (nI j &&& 31)) ^^^ (-1))))) := rfl
  have o49 := h1.2 49 (by omega) (by omega)
  have o50 := h2.2 50 (by omega) (by omega)
  rw [va_up_ne _ _ (by omega)] at o50
  have s49 := zis_in (n := zsz 49) (f := A 49) (x := 0) (j := j) (show j < 5 by omega) (show 5 < 2 ^ 31 by omega)
  have s50 := zis_in (n := zsz 50) (f := A 50) (x := 0) (j := j) (show j < 5 by omega) (show 5 < 2 ^ 31 by omega)
  simp only [e142_0, e142_0n, e142_1, e142_2, e142_5, e142_6, e142_7, e142_8, e142_9, e142_10, e142_11, e142_14, e142_14n, e142_15, e142_18, e142_19, e142_20, e142_21, e142_21n, e142_22, e142_25, e142_26, e142_27, e142_28, e142_28n, e142_29, e142_30, e142_33, e142_34, e142_35, e142_38, ↓reduceIte, zth_v, zth_n, zthv_s, zthi_s, zthm_s, true_or, or_true, eq_self, ne_eq, not_false_eq_true, not_true_eq_false, and_self, and_true, true_and, false_and, and_false, foMod_0, foMod_1, foMod_2, foMod_3, foMod_4, foMod_5, foMod_6, foMod_7, foMod_8, foMod_9, foMod_10, foMod_11, foMod_12, foMod_13, foMod_14, foMod_15, foMod_16, foMod_17, foMod_18, foMod_19, foMod_20, foMod_21, foMod_22, foMod_23, foMod_24, foMod_25, foMod_26, foMod_27, foMod_28, foMod_29, foMod_30, foMod_31, foMod_32, foMod_33, foMod_34, foMod_35, foMod_36, foMod_37, foMod_38, poMod_0, poMod_1, poMod_2, poMod_3, poMod_4, poMod_5, poMod_12, poMod_13, poMod_14, poMod_15, poMod_20, poMod_21, poMod_22, poMod_23, poMod_28, poMod_29, poMod_30, poMod_38, coMod, o44, em, o44', o44'', o44''', o49, o50, s49, s50, Nat.reduceEqDiff]
  rfl
theorem m_shuts (h : zMdl M x A) {j : Nat} : ev 145 0 [some (.ref 44), some (.int (nI j)), none] [] M = some (some (.int (if (x 5 >>> (nI j &&& 31)) &&& 1 = 1 then 0 else 1)), mset M 44 (oM (upd x 5 (x 5 ||| (1 <<< (nI j &&& 31)))))) := by
  have o44 := h.1
  by_cases c : (x 5 >>> (nI j &&& 31)) &&& 1 = 1
  · simp only [e145_0, e145_0n, e145_1, e145_4, e145_5, e145_8, e145_11, e145_12, e145_15, e145_16, e145_17, e145_17n, e145_18, e145_19, e145_22, e145_23, e145_24, e145_25, e145_26, e145_29, e145_30, ↓reduceIte, zth_v, zth_n, zthv_s, zthi_s, zthm_s, true_or, or_true, eq_self, ne_eq, not_false_eq_true, not_true_eq_false, and_self, and_true, true_and, false_and, and_false, foMod_0, foMod_1, foMod_2, foMod_3, foMod_4, foMod_5, foMod_6, foMod_7, foMod_8, foMod_9, foMod_10, foMod_11, foMod_12, foMod_13, foMod_14, foMod_15, foMod_16, foMod_17, foMod_18, foMod_19, foMod_20, foMod_21, foMod_22, foMod_23, foMod_24, foMod_25, foMod_26, foMod_27, foMod_28, foMod_29, foMod_30, foMod_31, foMod_32, foMod_33, foMod_34, foMod_35, foMod_36, foMod_37, foMod_38, poMod_0, poMod_1, poMod_2, poMod_3, poMod_4, poMod_5, poMod_12, poMod_13, poMod_14, poMod_15, poMod_20, poMod_21, poMod_22, poMod_23, poMod_28, poMod_29, poMod_30, poMod_38, coMod, o44, m_isIn, c, i10, Nat.reduceEqDiff]
    rfl
  · simp only [e145_0, e145_0n, e145_1, e145_4, e145_5, e145_8, e145_11, e145_12, e145_15, e145_16, e145_17, e145_17n, e145_18, e145_19, e145_22, e145_23, e145_24, e145_25, e145_26, e145_29, e145_30, ↓reduceIte, zth_v, zth_n, zthv_s, zthi_s, zthm_s, true_or, or_true, eq_self, ne_eq, not_false_eq_true, not_true_eq_false, and_self, and_true, true_and, false_and, and_false, foMod_0, foMod_1, foMod_2, foMod_3, foMod_4, foMod_5, foMod_6, foMod_7, foMod_8, foMod_9, foMod_10, foMod_11, foMod_12, foMod_13, foMod_14, foMod_15, foMod_16, foMod_17, foMod_18, foMod_19, foMod_20, foMod_21, foMod_22, foMod_23, foMod_24, foMod_25, foMod_26, foMod_27, foMod_28, foMod_29, foMod_30, foMod_31, foMod_32, foMod_33, foMod_34, foMod_35, foMod_36, foMod_37, foMod_38, poMod_0, poMod_1, poMod_2, poMod_3, poMod_4, poMod_5, poMod_12, poMod_13, poMod_14, poMod_15, poMod_20, poMod_21, poMod_22, poMod_23, poMod_28, poMod_29, poMod_30, poMod_38, coMod, o44, m_isIn, c, Nat.reduceEqDiff]
    rfl
end LK
section CL
variable {M : zMem}
theorem p_shut (g : zGood M) {k : Int32} : zPI 74 146 [some (.int k), none] [some (.int k)] M := by
  have g0 := g
  obtain ⟨h65, c, nl, nr, m, F, r, n, o, mm, w, ln, sn, f, tr, ft, hC, ⟨x, A, hx, hX, hN, hR, hS⟩, hI, hJ, hK⟩ := g
  have hC0 := hC
  have hX0 := hX
  obtain ⟨k0, kN, kR, kS, kP⟩ := hC
  have hz2 : zoc (mget M 2) = some 1 := by rw [kN.2.2.2.1]; exact coNur
  have hz1 : zoc (mget M 1) = some 7 := by rw [k0]; exact coRR
  have hz44 : zoc (mget M 44) = some 8 := by rw [hx.1]; exact coMod
  have hl5 := kN.2.1
  have hr5 := kN.2.2.1
  have hn8 := kR.2.1
  obtain ⟨x0, x1, x2, x3, x4, x5, x16, x17⟩ := hX
  have o44 := hx.1
  rcases kr_or k (n := nr) (by omega) with h | ⟨j, hj, rfl⟩
  · have h9 := n_riderAt_out kN h
    have h8 := m_noRider_out hx x2 hr5 h
    refine ⟨-1, M, M, ?_, ?_, zSkip hz44 g0⟩
    · simp only [e74_0, e74_0n, e74_1, e74_4, e74_5, e74_8, e74_8n, e74_9, e74_9n, e74_10, e74_10n, e74_13, e74_14, e74_15, e74_15n, e74_16, e74_19, e74_22, e74_24, e74_25, e74_25n, e74_26, e74_29, e74_29n, e74_30, e74_33, e74_36, e74_39, ↓reduceIte, zth_v, zth_n, zthv_s, zthi_s, zthm_s, true_or, or_true, eq_self, ne_eq, not_false_eq_true, not_true_eq_false, and_self, and_true, true_and, false_and, and_false, foRR_0, foRR_1, foRR_2, foRR_3, foRR_4, foRR_5, foRR_6, foRR_7, poRR_6, poRR_7, coRR, k0, hz2, h9, Nat.reduceEqDiff]
    · simp only [e146_0, e146_0n, e146_1, e146_2, e146_5, e146_8, e146_9, e146_10, e146_10n, e146_11, e146_12, e146_15, e146_18, e146_18n, e146_19, e146_22, e146_25, e146_28, e146_30, ↓reduceIte, zth_v, zth_n, zthv_s, zthi_s, zthm_s, true_or, or_true, eq_self, ne_eq, not_false_eq_true, not_true_eq_false, and_self, and_true, true_and, false_and, and_false, hz44, h8, i10, Nat.reduceEqDiff]
  have h9 := n_riderAt_in kN hj
  have h8 := m_noRider_in hx x2 hr5 hj
  have k4 := kN.2.2.2.2.2.2.1 j (by omega)
  have k5 := kN.2.2.2.2.2.2.2 j (by omega)
  have n3 : 2 + 3 + j ≠ 0 := by omega
  have gt := zshut_get hr5 hj k5
  have ms := m_shuts hx (j := j)
  rw [x5, gt] at ms
  rcases k5 with e | e
  · rw [e] at ms gt
    simp only [i01, if_false] at ms
    have e7 := zshut_shut (r := r) hr5 hj (q := rShut (r j)) rfl
    have kn := kN.setR (j := j) (by omega) (rOk_shut (r j))
    have fr0 : zFr M (mset M (2 + 3 + j) (oRid (rShut (r j)))) 2 9 := zFr.rf.set (by omega) (by omega)
    have fr1 := fr0.mono (lo' := 1) (hi' := 43) (by omega) (by omega)
    have hx1 : zMdl (mset M (2 + 3 + j) (oRid (rShut (r j)))) x A := hx.fr fun a g1 g2 => mget_ne (by omega)
    have t1 := t_shutsEyes k4 n3
    have t2 := n_whoseEyesAreShut kn
    have hzr : zoc (mget M (2 + 3 + j)) = some 3 := by rw [k4]; exact coRid
    have k1' : mget (mset M (2 + 3 + j) (oRid (rShut (r j)))) 1 = some (oRR 2 10 18 27 31 35 tr ft) := (mget_ne (by omega)).trans k0
    have hz2' : zoc (mget (mset M (2 + 3 + j) (oRid (rShut (r j)))) 2) = some 1 := by rw [mget_ne (by omega)]; exact hz2
    have hz44' := z44 hz44 fr1
    have h8' := m_noRider_in hx1 x2 hr5 hj
    have ms' := m_shuts hx1 (j := j)
    rw [x5, gt] at ms'
    simp only [i01, if_false] at ms'
    rw [← e7] at ms'
    have e8 := zshut_set (va_up r j (rShut (r j))) nr hr5
    have b1 := fun (M : zMem) => j_bitCount (M := M) (bset_lt (rShutB (va_up r j (rShut (r j)))) nr hr5)
    have b2 := fun (M : zMem) => m_bits (M := M) (bset_lt (rShutB (va_up r j (rShut (r j)))) nr hr5)
    rw [← e8] at b1 b2
    have hx2 := hx1.setX (upd x 5 (zshut (va_up r j (rShut (r j))) nr))
    have o2 := hx2.1
    refine ⟨nI (pcn (bset (rShutB (va_up r j (rShut (r j)))) nr)), _, _, ?_, ?_, zFin h65 hz44' fr1 (zFr.rf.set (by omega) (by omega)) (hC0.setN fr0 kn) ⟨_, _, hx2, ⟨x0, x1, x2, x3, x4, rfl, x16, x17⟩, ⟨hN.1, fun i hi => ?_⟩, hR, hS⟩ ⟨hI.1, hI.2.1, fun i hi => ?_⟩ hJ hK⟩
    · simp only [e74_0, e74_0n, e74_1, e74_4, e74_5, e74_8, e74_8n, e74_9, e74_9n, e74_10, e74_10n, e74_13, e74_14, e74_15, e74_15n, e74_16, e74_19, e74_22, e74_24, e74_25, e74_25n, e74_26, e74_29, e74_29n, e74_30, e74_33, e74_36, e74_39, ↓reduceIte, zth_v, zth_n, zthv_s, zthi_s, zthm_s, true_or, or_true, eq_self, ne_eq, not_false_eq_true, not_true_eq_false, and_self, and_true, true_and, false_and, and_false, foRR_0, foRR_1, foRR_2, foRR_3, foRR_4, foRR_5, foRR_6, foRR_7, poRR_6, poRR_7, coRR, foRid_0, foRid_1, foRid_2, foRid_3, foRid_4, foRid_5, poRid_0, poRid_1, poRid_2, poRid_3, poRid_4, poRid_5a, poRid_5b, coRid, k0, k1', hz2, hz2', hzr, h9, k4, n3, e, t1, t2, b1, Nat.reduceEqDiff]
    · simp only [e146_0, e146_0n, e146_1, e146_2, e146_5, e146_8, e146_9, e146_10, e146_10n, e146_11, e146_12, e146_15, e146_18, e146_18n, e146_19, e146_22, e146_25, e146_28, e146_30, ↓reduceIte, zth_v, zth_n, zthv_s, zthi_s, zthm_s, true_or, or_true, eq_self, ne_eq, not_false_eq_true, not_true_eq_false, and_self, and_true, true_and, false_and, and_false, foMod_0, foMod_1, foMod_2, foMod_3, foMod_4, foMod_5, foMod_6, foMod_7, foMod_8, foMod_9, foMod_10, foMod_11, foMod_12, foMod_13, foMod_14, foMod_15, foMod_16, foMod_17, foMod_18, foMod_19, foMod_20, foMod_21, foMod_22, foMod_23, foMod_24, foMod_25, foMod_26, foMod_27, foMod_28, foMod_29, foMod_30, foMod_31, foMod_32, foMod_33, foMod_34, foMod_35, foMod_36, foMod_37, foMod_38, poMod_0, poMod_1, poMod_2, poMod_3, poMod_4, poMod_5, poMod_12, poMod_13, poMod_14, poMod_15, poMod_20, poMod_21, poMod_22, poMod_23, poMod_28, poMod_29, poMod_30, poMod_38, coMod, hz44', h8', ms', o2, i10, pk_us, b2, Nat.reduceEqDiff]
    · obtain ⟨a1, a2, a3, a4, a5⟩ := hN.2 i hi
      by_cases w1 : i = j
      · subst w1
        rw [va_up_self]
        obtain ⟨-, -, t, u, -, -, -, -, u1, u2⟩ := hI.2.2 i hi
        refine ⟨a1, a2, a3, a4, ?_⟩
        rw [a5, u1, u2 e]; rfl
      · rw [va_up_ne _ _ w1]; exact ⟨a1, a2, a3, a4, a5⟩
    · by_cases w1 : i = j
      · subst w1
        rw [va_up_self]
        obtain ⟨b1, b2, t, u, t1, t2, t3, t4, u1, u2⟩ := hI.2.2 i hi
        exact ⟨b1, b2, t, 0, t1, t2, by omega, t4, rfl, fun _ => rfl⟩
      · rw [va_up_ne _ _ w1]; exact hI.2.2 i hi
  · rw [e] at ms
    have e7 := zshut_shut (r := r) hr5 hj (q := r j) e
    rw [va_up_id] at e7
    rw [← e7] at ms
    simp only [i11, if_true] at ms
    refine ⟨-3, M, _, ?_, ?_, zFin h65 hz44 zFr.rf (zFr.rf.set (by omega) (by omega)) hC0 ⟨_, _, hx.setX (upd x 5 (zshut r nr)), ⟨x0, x1, x2, x3, x4, rfl, x16, x17⟩, hN, hR, hS⟩ hI hJ hK⟩
    · simp only [e74_0, e74_0n, e74_1, e74_4, e74_5, e74_8, e74_8n, e74_9, e74_9n, e74_10, e74_10n, e74_13, e74_14, e74_15, e74_15n, e74_16, e74_19, e74_22, e74_24, e74_25, e74_25n, e74_26, e74_29, e74_29n, e74_30, e74_33, e74_36, e74_39, ↓reduceIte, zth_v, zth_n, zthv_s, zthi_s, zthm_s, true_or, or_true, eq_self, ne_eq, not_false_eq_true, not_true_eq_false, and_self, and_true, true_and, false_and, and_false, foRR_0, foRR_1, foRR_2, foRR_3, foRR_4, foRR_5, foRR_6, foRR_7, poRR_6, poRR_7, coRR, foRid_0, foRid_1, foRid_2, foRid_3, foRid_4, foRid_5, poRid_0, poRid_1, poRid_2, poRid_3, poRid_4, poRid_5a, poRid_5b, coRid, k0, hz2, h9, k4, n3, e, i10, Nat.reduceEqDiff]
    · simp only [e146_0, e146_0n, e146_1, e146_2, e146_5, e146_8, e146_9, e146_10, e146_10n, e146_11, e146_12, e146_15, e146_18, e146_18n, e146_19, e146_22, e146_25, e146_28, e146_30, ↓reduceIte, zth_v, zth_n, zthv_s, zthi_s, zthm_s, true_or, or_true, eq_self, ne_eq, not_false_eq_true, not_true_eq_false, and_self, and_true, true_and, false_and, and_false, hz44, h8, ms, Nat.reduceEqDiff]
theorem p_look (g : zGood M) {k : Int32} : zPI 75 147 [some (.int k), none, none] [some (.int k), none] M := by
  have g0 := g
  obtain ⟨h65, c, nl, nr, m, F, r, n, o, mm, w, ln, sn, f, tr, ft, hC, ⟨x, A, hx, hX, hN, hR, hS⟩, hI, hJ, hK⟩ := g
  have hC0 := hC
  have hX0 := hX
  obtain ⟨k0, kN, kR, kS, kP⟩ := hC
  have hz2 : zoc (mget M 2) = some 1 := by rw [kN.2.2.2.1]; exact coNur
  have hz1 : zoc (mget M 1) = some 7 := by rw [k0]; exact coRR
  have hz44 : zoc (mget M 44) = some 8 := by rw [hx.1]; exact coMod
  have hl5 := kN.2.1
  have hr5 := kN.2.2.1
  have hn8 := kR.2.1
  obtain ⟨x0, x1, x2, x3, x4, x5, x16, x17⟩ := hX
  have o44 := hx.1
  rcases kr_or k (n := nr) (by omega) with h | ⟨j, hj, rfl⟩
  · have h9 := n_riderAt_out kN h
    have h8 := m_noRider_out hx x2 hr5 h
    refine ⟨-1, M, M, ?_, ?_, zSkip hz44 g0⟩
    · simp only [e75_0, e75_0n, e75_1, e75_4, e75_5, e75_8, e75_8n, e75_9, e75_9n, e75_10, e75_10n, e75_13, e75_14, e75_15, e75_15n, e75_16, e75_19, e75_22, e75_24, e75_25, e75_25n, e75_26, e75_29, e75_29n, e75_30, e75_33, e75_34, e75_34n, e75_35, e75_38, e75_39, ↓reduceIte, zth_v, zth_n, zthv_s, zthi_s, zthm_s, true_or, or_true, eq_self, ne_eq, not_false_eq_true, not_true_eq_false, and_self, and_true, true_and, false_and, and_false, foRR_0, foRR_1, foRR_2, foRR_3, foRR_4, foRR_5, foRR_6, foRR_7, poRR_6, poRR_7, coRR, k0, hz2, h9, Nat.reduceEqDiff]
    · simp only [e147_0, e147_0n, e147_1, e147_2, e147_5, e147_8, e147_9, e147_10, e147_10n, e147_11, e147_14, e147_15, e147_18, e147_21, e147_23, e147_24, e147_24n, e147_25, e147_25n, e147_26, e147_29, e147_30, e147_31, e147_34, e147_35, e147_35n, e147_36, e147_37, e147_40, e147_41, ↓reduceIte, zth_v, zth_n, zthv_s, zthi_s, zthm_s, true_or, or_true, eq_self, ne_eq, not_false_eq_true, not_true_eq_false, and_self, and_true, true_and, false_and, and_false, hz44, h8, i10, Nat.reduceEqDiff]
  have h9 := n_riderAt_in kN hj
  have h8 := m_noRider_in hx x2 hr5 hj
  have k4 := kN.2.2.2.2.2.2.1 j (by omega)
  have k5 := kN.2.2.2.2.2.2.2 j (by omega)
  have n3 : 2 + 3 + j ≠ 0 := by omega
  have gt := zshut_get hr5 hj k5
  rcases k5 with e | e
  · rw [e] at gt
    refine ⟨-3, M, M, ?_, ?_, zSkip hz44 g0⟩
    · simp only [e75_0, e75_0n, e75_1, e75_4, e75_5, e75_8, e75_8n, e75_9, e75_9n, e75_10, e75_10n, e75_13, e75_14, e75_15, e75_15n, e75_16, e75_19, e75_22, e75_24, e75_25, e75_25n, e75_26, e75_29, e75_29n, e75_30, e75_33, e75_34, e75_34n, e75_35, e75_38, e75_39, ↓reduceIte, zth_v, zth_n, zthv_s, zthi_s, zthm_s, true_or, or_true, eq_self, ne_eq, not_false_eq_true, not_true_eq_false, and_self, and_true, true_and, false_and, and_false, foRR_0, foRR_1, foRR_2, foRR_3, foRR_4, foRR_5, foRR_6, foRR_7, poRR_6, poRR_7, coRR, foRid_0, foRid_1, foRid_2, foRid_3, foRid_4, foRid_5, poRid_0, poRid_1, poRid_2, poRid_3, poRid_4, poRid_5a, poRid_5b, coRid, k0, hz2, h9, k4, n3, e, Nat.reduceEqDiff]
    · simp only [e147_0, e147_0n, e147_1, e147_2, e147_5, e147_8, e147_9, e147_10, e147_10n, e147_11, e147_14, e147_15, e147_18, e147_21, e147_23, e147_24, e147_24n, e147_25, e147_25n, e147_26, e147_29, e147_30, e147_31, e147_34, e147_35, e147_35n, e147_36, e147_37, e147_40, e147_41, ↓reduceIte, zth_v, zth_n, zthv_s, zthi_s, zthm_s, true_or, or_true, eq_self, ne_eq, not_false_eq_true, not_true_eq_false, and_self, and_true, true_and, false_and, and_false, foMod_0, foMod_1, foMod_2, foMod_3, foMod_4, foMod_5, foMod_6, foMod_7, foMod_8, foMod_9, foMod_10, foMod_11, foMod_12, foMod_13, foMod_14, foMod_15, foMod_16, foMod_17, foMod_18, foMod_19, foMod_20, foMod_21, foMod_22, foMod_23, foMod_24, foMod_25, foMod_26, foMod_27, foMod_28, foMod_29, foMod_30, foMod_31, foMod_32, foMod_33, foMod_34, foMod_35, foMod_36, foMod_37, foMod_38, poMod_0, poMod_1, poMod_2, poMod_3, poMod_4, poMod_5, poMod_12, poMod_13, poMod_14, poMod_15, poMod_20, poMod_21, poMod_22, poMod_23, poMod_28, poMod_29, poMod_30, poMod_38, coMod, o44, hz44, h8, x5, m_isIn, gt, i01, Nat.reduceEqDiff]
  · rw [e] at gt
    obtain ⟨q, q1, q2, rfl⟩ := hI_q hI (by omega)
    have e7 := zshut_up (r := r) hr5 hj (q := rUp (r j)) rfl
    have kn := kN.setR (j := j) (by omega) (rOk_up (r j))
    have fr0 : zFr M (mset M (2 + 3 + j) (oRid (rUp (r j)))) 2 9 := zFr.rf.set (by omega) (by omega)
    have fr1 := fr0.mono (lo' := 1) (hi' := 43) (by omega) (by omega)
    have hx1 : zMdl (mset M (2 + 3 + j) (oRid (rUp (r j)))) x A := hx.fr fun a g1 g2 => mget_ne (by omega)
    have t1 := t_looksUp k4 n3
    have t2 := n_landOf kN k4 n3
    have hzr : zoc (mget M (2 + 3 + j)) = some 3 := by rw [k4]; exact coRid
    have hz44' := z44 hz44 fr1
    have h8' := m_noRider_in hx1 x2 hr5 hj
    obtain ⟨M2, l1, l2, l3⟩ := m_looked hx1 (j := j) (by omega)
    have t3 := m_landBy hx1 x1 hl5 hN.1 hI.2.1 x3 q1 q2 (v := (r j).2.2.2.1)
    have o44' := hx1.1
    have o49 := hx1.2 49 (by omega) (by omega)
    have z49 := zia_in (n := zsz 49) (f := A 49) (j := j) (show j < 5 by omega) (show 5 < 2 ^ 31 by omega)
    rw [(hN.2 j hj).2.2.2.1] at z49
    refine ⟨zland F nl (zquo (r j).2.2.2.1 (nI q)), _, M2, ?_, ?_, zFin h65 hz44' fr1 l3 (hC0.setN fr0 kn) ⟨_, _, l2, ⟨x0, x1, x2, x3, x4, ?_, x16, x17⟩, ⟨hN.1, fun i hi => ?_⟩, hR, hS⟩ ⟨hI.1, hI.2.1, fun i hi => ?_⟩ hJ hK⟩
    · simp only [e75_0, e75_0n, e75_1, e75_4, e75_5, e75_8, e75_8n, e75_9, e75_9n, e75_10, e75_10n, e75_13, e75_14, e75_15, e75_15n, e75_16, e75_19, e75_22, e75_24, e75_25, e75_25n, e75_26, e75_29, e75_29n, e75_30, e75_33, e75_34, e75_34n, e75_35, e75_38, e75_39, ↓reduceIte, zth_v, zth_n, zthv_s, zthi_s, zthm_s, true_or, or_true, eq_self, ne_eq, not_false_eq_true, not_true_eq_false, and_self, and_true, true_and, false_and, and_false, foRR_0, foRR_1, foRR_2, foRR_3, foRR_4, foRR_5, foRR_6, foRR_7, poRR_6, poRR_7, coRR, foRid_0, foRid_1, foRid_2, foRid_3, foRid_4, foRid_5, poRid_0, poRid_1, poRid_2, poRid_3, poRid_4, poRid_5a, poRid_5b, coRid, k0, hz2, hzr, h9, k4, n3, e, t1, t2, i10, Nat.reduceEqDiff]
    · simp only [e147_0, e147_0n, e147_1, e147_2, e147_5, e147_8, e147_9, e147_10, e147_10n, e147_11, e147_14, e147_15, e147_18, e147_21, e147_23, e147_24, e147_24n, e147_25, e147_25n, e147_26, e147_29, e147_30, e147_31, e147_34, e147_35, e147_35n, e147_36, e147_37, e147_40, e147_41, ↓reduceIte, zth_v, zth_n, zthv_s, zthi_s, zthm_s, true_or, or_true, eq_self, ne_eq, not_false_eq_true, not_true_eq_false, and_self, and_true, true_and, false_and, and_false, foMod_0, foMod_1, foMod_2, foMod_3, foMod_4, foMod_5, foMod_6, foMod_7, foMod_8, foMod_9, foMod_10, foMod_11, foMod_12, foMod_13, foMod_14, foMod_15, foMod_16, foMod_17, foMod_18, foMod_19, foMod_20, foMod_21, foMod_22, foMod_23, foMod_24, foMod_25, foMod_26, foMod_27, foMod_28, foMod_29, foMod_30, foMod_31, foMod_32, foMod_33, foMod_34, foMod_35, foMod_36, foMod_37, foMod_38, poMod_0, poMod_1, poMod_2, poMod_3, poMod_4, poMod_5, poMod_12, poMod_13, poMod_14, poMod_15, poMod_20, poMod_21, poMod_22, poMod_23, poMod_28, poMod_29, poMod_30, poMod_38, coMod, o44', hz44', h8', x5, m_isIn, gt, i10, o49, z49, t3, l1, Nat.reduceEqDiff]
    · rw [e7, ← x5]; rfl
    · obtain ⟨a1, a2, a3, a4, a5⟩ := hN.2 i hi
      show A 46 i = _ ∧ A 47 i = _ ∧ A 48 i = _ ∧ upd (A 49) j 0 i = _ ∧ upd (A 50) j 0 i = _
      by_cases w1 : i = j
      · subst w1
        rw [va_up_self, pk_us, pk_us]
        exact ⟨a1, a2, a3, rfl, rfl⟩
      · rw [va_up_ne _ _ w1, pk_un w1, pk_un w1]; exact ⟨a1, a2, a3, a4, a5⟩
    · by_cases w1 : i = j
      · subst w1
        rw [va_up_self]
        obtain ⟨b1, b2, t, u, t1, t2, t3, t4, u1, u2⟩ := hI.2.2 i hi
        exact ⟨b1, b2, t, 0, t1, t2, by omega, t4, rfl, fun _ => rfl⟩
      · rw [va_up_ne _ _ w1]; exact hI.2.2 i hi
end CL
