/-! Call by call, four: lean, as, lose, put, cell -/
section SHH
variable {M : zMem} {tr ft : Int32} {ln : Nat → Int32} {sn : Nat → Nat} {f : Nat → Nat → Int32}
theorem t_sheetAt_in (h : mget M 1 = some (oRR 2 10 18 27 31 35 tr ft)) (hS : zShs M ln sn f) {k : Nat} (hk : k < 4) : ev 111 0 [some (.ref 1), some (.int (nI k))] [] M = some (some (.ref (36 + 2 * k)), M) := by
  obtain ⟨⟨g, h3, hg⟩, -⟩ := hS
  have g1 : ¬ nI 4 ≤ nI k := ni_nle (by omega) (by omega)
  have g2 : ¬ nI k < 0 := nI_pos (by omega)
  have g4 := zaa_in (k := 4) (n := 4) (f := g) hk (by omega)
  simp only [e111_0, e111_1, e111_4, e111_5, e111_5n, e111_6, e111_9, e111_10, e111_13, e111_13n, e111_14, e111_17, e111_18, e111_19, e111_22, e111_23, e111_23n, ↓reduceIte, zth_v, zth_n, zthv_s, zthi_s, zthm_s, true_or, or_true, eq_self, ne_eq, not_false_eq_true, not_true_eq_false, and_self, and_true, true_and, false_and, and_false, foRR_0, foRR_1, foRR_2, foRR_3, foRR_4, foRR_5, foRR_6, foRR_7, poRR_6, poRR_7, coRR, h, h3, zal_r, g1, g2, g4, hg k hk, va_rf_s, Nat.reduceEqDiff]
theorem t_sheetAt_out (h : mget M 1 = some (oRR 2 10 18 27 31 35 tr ft)) (hS : zShs M ln sn f) {k : Int32} (hk : k < 0 ∨ nI 4 ≤ k) : ev 111 0 [some (.ref 1), some (.int k)] [] M = some (some .null, M) := by
  obtain ⟨⟨g, h3, hg⟩, -⟩ := hS
  by_cases q : k < 0
  · simp only [e111_0, e111_1, e111_4, e111_5, e111_5n, e111_6, e111_9, e111_10, e111_13, e111_13n, e111_14, e111_17, e111_18, e111_19, e111_22, e111_23, e111_23n, ↓reduceIte, zth_v, zth_n, zthv_s, zthi_s, zthm_s, true_or, or_true, eq_self, ne_eq, not_false_eq_true, not_true_eq_false, and_self, and_true, true_and, false_and, and_false, q]
  · have q2 := hk.resolve_left q
    simp only [e111_0, e111_1, e111_4, e111_5, e111_5n, e111_6, e111_9, e111_10, e111_13, e111_13n, e111_14, e111_17, e111_18, e111_19, e111_22, e111_23, e111_23n, ↓reduceIte, zth_v, zth_n, zthv_s, zthi_s, zthm_s, true_or, or_true, eq_self, ne_eq, not_false_eq_true, not_true_eq_false, and_self, and_true, true_and, false_and, and_false, foRR_0, foRR_1, foRR_2, foRR_3, foRR_4, foRR_5, foRR_6, foRR_7, poRR_6, poRR_7, coRR, h, h3, zal_r, q, q2, Nat.reduceEqDiff]
theorem k43 (k : Int32) : (3 < k) = (nI 4 ≤ k) := nI_m1_lt (n := 4) (by omega) k
theorem m_noSheet_in {k : Nat} (hk : k < 4) : ev 170 0 [some (.int (nI k))] [] M = some (some (.int 0), M) := by
  rw [m_noSheet, if_neg]
  rw [k43]
  rintro (z | z)
  · exact nI_pos (by omega) z
  · exact ni_nle hk (by omega) z
theorem m_noSheet_out {k : Int32} (hk : k < 0 ∨ nI 4 ≤ k) : ev 170 0 [some (.int k)] [] M = some (some (.int 1), M) := by
  rw [m_noSheet, if_pos]
  rw [k43]
  exact hk
theorem t_isLane {v : Int32} : ev 112 0 [some (.int v)] [] M = some (some (.int (if v < 0 ∨ 2 < v then 0 else 1)), M) := by
  simp only [e112_0, e112_1, e112_4, e112_5, e112_6, e112_9, e112_10, e112_13, e112_14, ↓reduceIte, zth_v, zth_n, zthv_s, zthi_s, zthm_s, true_or, or_true, eq_self, ne_eq, not_false_eq_true, not_true_eq_false, and_self, and_true, true_and, false_and, and_false]
  by_cases q1 : v < 0
  · rw [if_pos q1, if_pos (Or.inl q1)]
  · rw [if_neg q1]
    by_cases q2 : 2 < v
    · rw [if_pos q2, if_pos (Or.inr q2)]
    · rw [if_neg q2, if_neg (by rintro (z | z); exact q1 z; exact q2 z)]
theorem t_rowFault {a n : Nat} {l : Int32} {g : Nat → Int32} (h : zSh M a l n g) {v : Int32} : ev 114 0 [some (.ref a), some (.int v)] [] M = some (some (.int (if l = -1 then 1 else if l = v then 0 else 2)), M) := by
  obtain ⟨ha, hn, h1, h2⟩ := h
  have h9 := s_hasNothing h1 ha
  have hz : zoc (mget M a) = some 4 := by rw [h1]; exact coSheet
  by_cases q : l = -1
  · simp only [e114_0, e114_0n, e114_1, e114_4, e114_7, e114_8, e114_9, e114_9n, e114_10, e114_13, e114_14, e114_17, e114_18, e114_21, e114_22, ↓reduceIte, zth_v, zth_n, zthv_s, zthi_s, zthm_s, true_or, or_true, eq_self, ne_eq, not_false_eq_true, not_true_eq_false, and_self, and_true, true_and, false_and, and_false, foSheet_0, foSheet_1, foSheet_2, poSheet_1, poSheet_2, coSheet, h1, h9, ha, q, i10]
  · simp only [e114_0, e114_0n, e114_1, e114_4, e114_7, e114_8, e114_9, e114_9n, e114_10, e114_13, e114_14, e114_17, e114_18, e114_21, e114_22, ↓reduceIte, zth_v, zth_n, zthv_s, zthi_s, zthm_s, true_or, or_true, eq_self, ne_eq, not_false_eq_true, not_true_eq_false, and_self, and_true, true_and, false_and, and_false, foSheet_0, foSheet_1, foSheet_2, poSheet_1, poSheet_2, coSheet, h1, h9, ha, q]
    split <;> rfl
theorem zShs.set (hS : zShs M ln sn f) {M1 : zMem} {k : Nat} (hk : k < 4) (hf : zFr M M1 (36 + 2 * k) (37 + 2 * k)) {l : Int32} {n : Nat} {g : Nat → Int32} (h : zSh M1 (36 + 2 * k) l n g) : zShs M1 (upd ln k l) (va_up sn k n) (va_up f k g) := by
  obtain ⟨⟨G, h3, hg⟩, h4⟩ := hS
  refine ⟨⟨G, (hf.2.2 35 (by omega)).trans h3, hg⟩, fun j hj => ?_⟩
  by_cases e : j = k
  · subst e; rw [pk_us, va_up_self, va_up_self]; exact h
  · rw [pk_un e, va_up_ne _ _ e, va_up_ne _ _ e]
    exact (h4 j hj).fr (hf.2.2 _ (by omega)) (hf.2.2 _ (by omega))
theorem zCl.setS {c : Int32} {nl nr : Nat} {m : Int32} {F : Nat → Int32} {r : Nat → zRD} {n : Nat} {o mm w : Nat → Int32} (h : zCl M c nl nr m F r n o mm w ln sn f tr ft) {M1 : zMem} {k : Nat} (hk : k < 4) (hf : zFr M M1 (36 + 2 * k) (37 + 2 * k)) {l : Int32} {n' : Nat} {g : Nat → Int32} (hs : zSh M1 (36 + 2 * k) l n' g) : zCl M1 c nl nr m F r n o mm w (upd ln k l) (va_up sn k n') (va_up f k g) tr ft := by
  obtain ⟨h1, h2, h3, h4, h5⟩ := h
  refine ⟨(hf.2.2 _ (by omega)).trans h1, h2.fr fun a g1 g2 => hf.2.2 _ (by omega), h3.fr fun a g1 g2 => hf.2.2 _ (by omega), h4.set hk hf hs, ?_⟩
  obtain ⟨⟨_, _, _, _, _, _, h1⟩, ⟨_, _, _, _, _, h2, h3, _, h4⟩, _, _, _, _, _, h5, h6⟩ := h5
  exact ⟨⟨_, _, _, _, _, _, h1.fr fun a g1 g2 => hf.2.2 _ (by omega)⟩, ⟨_, _, _, _, _, h2, (hf.2.2 _ (by omega)).trans h3, _, h4.fr fun a g1 g2 => hf.2.2 _ (by omega)⟩, _, _, _, _, _, h5.fr fun a g1 g2 => hf.2.2 _ (by omega), h6⟩
variable {x : Nat → Int32} {A : Nat → Nat → Int32}
theorem n60 (k i : Nat) : 60 * nI k + nI i = nI (60 * k + i) := by rw [show (60 : Int32) = nI 60 from rfl, pk_mul, nI_add]
theorem m_noCell (h : zMdl M x A) (hS : zRlS A ln sn f) {k : Nat} (hk : k < 4) (hsn : sn k ≤ 60) {i : Int32} : ev 173 0 [some (.ref 44), some (.int (nI k)), some (.int i)] [] M = some (some (.int (if ln k = -1 then 1 else if i < 0 ∨ nI (sn k) ≤ i then 3 else 0)), M) := by
  have o44 := h.1
  have o62 := h.2 62 (by omega) (by omega)
  have z62 := zia_in (n := zsz 62) (f := A 62) (j := k) (show k < 4 from hk) (show 4 < 2 ^ 31 by omega)
  rw [hS.1 k hk] at z62
  by_cases q : ln k = -1
  · simp only [if_pos q] at z62
    have g1 : ¬ (0 : Int32) ≤ -1 := by decide
    have g2 : (-1 : Int32) < 0 := by decide
    simp only [e173_0, e173_0n, e173_1, e173_4, e173_5, e173_6, e173_9, e173_10, e173_13, e173_14, e173_15, e173_16, e173_16n, e173_17, e173_20, e173_21, e173_22, e173_23, e173_24, e173_25, e173_28, e173_31, e173_32, e173_35, e173_36, ↓reduceIte, zth_v, zth_n, zthv_s, zthi_s, zthm_s, true_or, or_true, eq_self, ne_eq, not_false_eq_true, not_true_eq_false, and_self, and_true, true_and, false_and, and_false, foMod_0, foMod_1, foMod_2, foMod_3, foMod_4, foMod_5, foMod_6, foMod_7, foMod_8, foMod_9, foMod_10, foMod_11, foMod_12, foMod_13, foMod_14, foMod_15, foMod_16, foMod_17, foMod_18, foMod_19, foMod_20, foMod_21, foMod_22, foMod_23, foMod_24, foMod_25, foMod_26, foMod_27, foMod_28, foMod_29, foMod_30, foMod_31, foMod_32, foMod_33, foMod_34, foMod_35, foMod_36, foMod_37, foMod_38, poMod_0, poMod_1, poMod_2, poMod_3, poMod_4, poMod_5, poMod_12, poMod_13, poMod_14, poMod_15, poMod_20, poMod_21, poMod_22, poMod_23, poMod_28, poMod_29, poMod_30, poMod_38, coMod, o44, o62, z62, g1, g2, q, Nat.reduceEqDiff]
  · simp only [if_neg q] at z62
    have g1 : (0 : Int32) ≤ nI (sn k) := ni_ge (b := 0) (by omega) (by omega)
    have g2 : ¬ nI (sn k) < 0 := nI_pos (by omega)
    have g3 := fun v => m_in_r (M := M) (v := v) hsn
    simp only [e173_0, e173_0n, e173_1, e173_4, e173_5, e173_6, e173_9, e173_10, e173_13, e173_14, e173_15, e173_16, e173_16n, e173_17, e173_20, e173_21, e173_22, e173_23, e173_24, e173_25, e173_28, e173_31, e173_32, e173_35, e173_36, ↓reduceIte, zth_v, zth_n, zthv_s, zthi_s, zthm_s, true_or, or_true, eq_self, ne_eq, not_false_eq_true, not_true_eq_false, and_self, and_true, true_and, false_and, and_false, foMod_0, foMod_1, foMod_2, foMod_3, foMod_4, foMod_5, foMod_6, foMod_7, foMod_8, foMod_9, foMod_10, foMod_11, foMod_12, foMod_13, foMod_14, foMod_15, foMod_16, foMod_17, foMod_18, foMod_19, foMod_20, foMod_21, foMod_22, foMod_23, foMod_24, foMod_25, foMod_26, foMod_27, foMod_28, foMod_29, foMod_30, foMod_31, foMod_32, foMod_33, foMod_34, foMod_35, foMod_36, foMod_37, foMod_38, poMod_0, poMod_1, poMod_2, poMod_3, poMod_4, poMod_5, poMod_12, poMod_13, poMod_14, poMod_15, poMod_20, poMod_21, poMod_22, poMod_23, poMod_28, poMod_29, poMod_30, poMod_38, coMod, o44, o62, z62, g1, g2, g3, q, Nat.reduceEqDiff]
    by_cases q2 : i < 0 ∨ nI (sn k) ≤ i
    · simp only [q2, if_true]
    · simp only [q2, if_false, i10]
end SHH
section CD
variable {M : zMem}
theorem p_lean (g : zGood M) {k v : Int32} : zPI 72 141 [some (.int k), some (.int v), none, none] [some (.int k), some (.int v), none] M := by
  have g0 := g
  obtain ⟨h65, c, nl, nr, m, F, r, n, o, mm, w, ln, sn, f, tr, ft, hC, ⟨x, A, hx, hX, hN, hR, hS⟩, hI, hJ, hK⟩ := g
  have hC0 := hC
  have hX0 := hX
  obtain ⟨k0, kN, kR, kS, kP⟩ := hC
  have hz2 : zoc (mget M 2) = some 1 := by rw [kN.2.2.2.1]; exact coNur
  have hz1 : zoc (mget M 1) = some 7 := by rw [k0]; exact coRR
  have hz44 : zoc (mget M 44) = some 8 := by rw [hx.1]; exact coMod
  have hl5 := kN.2.1
  have hr5 := kN.2.2.1
  have hn8 := kR.2.1
  obtain ⟨x0, x1, x2, x3, x4, x5, x16, x17⟩ := hX
  have o44 := hx.1
  rcases kr_or k (n := nr) (by omega) with q | ⟨j, hj, rfl⟩
  · have h9 := n_riderAt_out kN q
    have h8 := m_noRider_out hx x2 hr5 q
    refine ⟨-1, M, M, ?_, ?_, zSkip hz44 g0⟩
    · simp only [e72_0, e72_0n, e72_1, e72_4, e72_5, e72_8, e72_8n, e72_9, e72_9n, e72_10, e72_10n, e72_13, e72_14, e72_15, e72_16, e72_19, e72_22, e72_24, e72_25, e72_25n, e72_26, e72_29, e72_31, e72_31n, e72_32, e72_33, e72_36, e72_38, ↓reduceIte, zth_v, zth_n, zthv_s, zthi_s, zthm_s, true_or, or_true, eq_self, ne_eq, not_false_eq_true, not_true_eq_false, and_self, and_true, true_and, false_and, and_false, foRR_0, foRR_1, foRR_2, foRR_3, foRR_4, foRR_5, foRR_6, foRR_7, poRR_6, poRR_7, coRR, k0, hz2, h9, Nat.reduceEqDiff]
    · simp only [e141_0, e141_0n, e141_1, e141_2, e141_5, e141_8, e141_9, e141_10, e141_11, e141_12, e141_13, e141_16, e141_19, e141_22, e141_24, e141_25, e141_25n, e141_26, e141_29, e141_30, e141_31, e141_32, e141_32n, e141_33, e141_36, e141_37, e141_38, e141_39, e141_40, ↓reduceIte, zth_v, zth_n, zthv_s, zthi_s, zthm_s, true_or, or_true, eq_self, ne_eq, not_false_eq_true, not_true_eq_false, and_self, and_true, true_and, false_and, and_false, foMod_0, foMod_1, foMod_2, foMod_3, foMod_4, foMod_5, foMod_6, foMod_7, foMod_8, foMod_9, foMod_10, foMod_11, foMod_12, foMod_13, foMod_14, foMod_15, foMod_16, foMod_17, foMod_18, foMod_19, foMod_20, foMod_21, foMod_22, foMod_23, foMod_24, foMod_25, foMod_26, foMod_27, foMod_28, foMod_29, foMod_30, foMod_31, foMod_32, foMod_33, foMod_34, foMod_35, foMod_36, foMod_37, foMod_38, poMod_0, poMod_1, poMod_2, poMod_3, poMod_4, poMod_5, poMod_12, poMod_13, poMod_14, poMod_15, poMod_20, poMod_21, poMod_22, poMod_23, poMod_28, poMod_29, poMod_30, poMod_38, coMod, hz44, h8, i10, Nat.reduceEqDiff]
  have h9 := n_riderAt_in kN hj
  have h8 := m_noRider_in hx x2 hr5 hj
  rcases pk19 v with qv | ⟨v, v1, v2, rfl⟩
  · refine ⟨-2, M, M, ?_, ?_, zSkip hz44 g0⟩
    · simp only [e72_0, e72_0n, e72_1, e72_4, e72_5, e72_8, e72_8n, e72_9, e72_9n, e72_10, e72_10n, e72_13, e72_14, e72_15, e72_16, e72_19, e72_22, e72_24, e72_25, e72_25n, e72_26, e72_29, e72_31, e72_31n, e72_32, e72_33, e72_36, e72_38, ↓reduceIte, zth_v, zth_n, zthv_s, zthi_s, zthm_s, true_or, or_true, eq_self, ne_eq, not_false_eq_true, not_true_eq_false, and_self, and_true, true_and, false_and, and_false, foRR_0, foRR_1, foRR_2, foRR_3, foRR_4, foRR_5, foRR_6, foRR_7, poRR_6, poRR_7, coRR, k0, hz2, h9, t_oneToNine, qv, i10, Nat.reduceEqDiff]
    · simp only [e141_0, e141_0n, e141_1, e141_2, e141_5, e141_8, e141_9, e141_10, e141_11, e141_12, e141_13, e141_16, e141_19, e141_22, e141_24, e141_25, e141_25n, e141_26, e141_29, e141_30, e141_31, e141_32, e141_32n, e141_33, e141_36, e141_37, e141_38, e141_39, e141_40, ↓reduceIte, zth_v, zth_n, zthv_s, zthi_s, zthm_s, true_or, or_true, eq_self, ne_eq, not_false_eq_true, not_true_eq_false, and_self, and_true, true_and, false_and, and_false, foMod_0, foMod_1, foMod_2, foMod_3, foMod_4, foMod_5, foMod_6, foMod_7, foMod_8, foMod_9, foMod_10, foMod_11, foMod_12, foMod_13, foMod_14, foMod_15, foMod_16, foMod_17, foMod_18, foMod_19, foMod_20, foMod_21, foMod_22, foMod_23, foMod_24, foMod_25, foMod_26, foMod_27, foMod_28, foMod_29, foMod_30, foMod_31, foMod_32, foMod_33, foMod_34, foMod_35, foMod_36, foMod_37, foMod_38, poMod_0, poMod_1, poMod_2, poMod_3, poMod_4, poMod_5, poMod_12, poMod_13, poMod_14, poMod_15, poMod_20, poMod_21, poMod_22, poMod_23, poMod_28, poMod_29, poMod_30, poMod_38, coMod, hz44, h8, m_in_1_9, qv, i10, Nat.reduceEqDiff]
  have g3 := q19 v1 v2
  have k4 := kN.2.2.2.2.2.2.1 j (by omega)
  have k5 := kN.2.2.2.2.2.2.2 j (by omega)
  have n3 : 2 + 3 + j ≠ 0 := by omega
  have kn := kN.setR (j := j) (by omega) (q := ((r j).1, nI v, (r j).2.2.1, (r j).2.2.2.1, (r j).2.2.2.2.1, (r j).2.2.2.2.2)) k5
  have fr1 : zFr M (mset M (2 + 3 + j) (oRid ((r j).1, nI v, (r j).2.2.1, (r j).2.2.2.1, (r j).2.2.2.2.1, (r j).2.2.2.2.2))) 2 9 := zFr.rf.set (by omega) (by omega)
  have fr1' := fr1.mono (lo' := 1) (hi' := 43) (by omega) (by omega)
  have hx1 : zMdl (mset M (2 + 3 + j) (oRid ((r j).1, nI v, (r j).2.2.1, (r j).2.2.2.1, (r j).2.2.2.2.1, (r j).2.2.2.2.2))) x A := hx.fr fun a g1 g2 => mget_ne (by omega)
  have h8' := m_noRider_in hx1 x2 hr5 hj
  have o44' := hx1.1
  have hz44' := z44 hz44 fr1'
  have o47' := hx1.2 47 (by omega) (by omega)
  have z47 := zia_in (n := zsz 47) (f := A 47) (j := j) (show j < 5 by omega) (show 5 < 2 ^ 31 by omega)
  have s47 := zis_in (n := zsz 47) (f := A 47) (x := nI v) (j := j) (show j < 5 by omega) (show 5 < 2 ^ 31 by omega)
  obtain ⟨y46, y47, y48, y49, y50⟩ := hN.2 j hj
  have es : zshut (va_up r j ((r j).1, nI v, (r j).2.2.1, (r j).2.2.2.1, (r j).2.2.2.2.1, (r j).2.2.2.2.2)) nr = zshut r nr := by
    have : ∀ n, zshut (va_up r j ((r j).1, nI v, (r j).2.2.1, (r j).2.2.2.1, (r j).2.2.2.2.1, (r j).2.2.2.2.2)) n = zshut r n := by
      intro n
      induction n with
      | zero => rfl
      | succ n ih =>
        rw [zshut, zshut, ih]
        by_cases e : n = j
        · subst e; rw [va_up_self]
        · rw [va_up_ne _ _ e]
    exact this nr
  refine ⟨(r j).2.1, _, _, ?_, ?_, zFin h65 hz44' fr1' (zFr.rf.set (by omega) (by omega)) (hC0.setN fr1 kn) ⟨x, _, hx1.setA 47 (by omega) (by omega) (upd (A 47) j (nI v)), ⟨x0, x1, x2, x3, x4, x5.trans es.symm, x16, x17⟩, ⟨hN.1, fun i hi => ?_⟩, hR, hS⟩ ⟨hI.1, hI.2.1, fun i hi => ?_⟩ hJ hK⟩
  · simp only [e72_0, e72_0n, e72_1, e72_4, e72_5, e72_8, e72_8n, e72_9, e72_9n, e72_10, e72_10n, e72_13, e72_14, e72_15, e72_16, e72_19, e72_22, e72_24, e72_25, e72_25n, e72_26, e72_29, e72_31, e72_31n, e72_32, e72_33, e72_36, e72_38, ↓reduceIte, zth_v, zth_n, zthv_s, zthi_s, zthm_s, true_or, or_true, eq_self, ne_eq, not_false_eq_true, not_true_eq_false, and_self, and_true, true_and, false_and, and_false, foRR_0, foRR_1, foRR_2, foRR_3, foRR_4, foRR_5, foRR_6, foRR_7, poRR_6, poRR_7, coRR, foRid_0, foRid_1, foRid_2, foRid_3, foRid_4, foRid_5, poRid_0, poRid_1, poRid_2, poRid_3, poRid_4, poRid_5a, poRid_5b, coRid, k0, hz2, h9, k4, n3, t_oneToNine, g3, i10, Nat.reduceEqDiff]
  · simp only [e141_0, e141_0n, e141_1, e141_2, e141_5, e141_8, e141_9, e141_10, e141_11, e141_12, e141_13, e141_16, e141_19, e141_22, e141_24, e141_25, e141_25n, e141_26, e141_29, e141_30, e141_31, e141_32, e141_32n, e141_33, e141_36, e141_37, e141_38, e141_39, e141_40, ↓reduceIte, zth_v, zth_n, zthv_s, zthi_s, zthm_s, true_or, or_true, eq_self, ne_eq, not_false_eq_true, not_true_eq_false, and_self, and_true, true_and, false_and, and_false, foMod_0, foMod_1, foMod_2, foMod_3, foMod_4, foMod_5, foMod_6, foMod_7, foMod_8, foMod_9, foMod_10, foMod_11, foMod_12, foMod_13, foMod_14, foMod_15, foMod_16, foMod_17, foMod_18, foMod_19, foMod_20, foMod_21, foMod_22, foMod_23, foMod_24, foMod_25, foMod_26, foMod_27, foMod_28, foMod_29, foMod_30, foMod_31, foMod_32, foMod_33, foMod_34, foMod_35, foMod_36, foMod_37, foMod_38, poMod_0, poMod_1, poMod_2, poMod_3, poMod_4, poMod_5, poMod_12, poMod_13, poMod_14, poMod_15, poMod_20, poMod_21, poMod_22, poMod_23, poMod_28, poMod_29, poMod_30, poMod_38, coMod, o44', hz44', h8', m_in_1_9, g3, o47', z47, s47, y47, i10, Nat.reduceEqDiff]
  · obtain ⟨a1, a2, a3, a4, a5⟩ := hN.2 i hi
    show A 46 i = _ ∧ upd (A 47) j (nI v) i = _ ∧ A 48 i = _ ∧ A 49 i = _ ∧ A 50 i = _
    by_cases e : i = j
    · subst e; rw [va_up_self, pk_us]; exact ⟨a1, rfl, a3, a4, a5⟩
    · rw [va_up_ne _ _ e, pk_un e]; exact ⟨a1, a2, a3, a4, a5⟩
  · by_cases e : i = j
    · subst e; rw [va_up_self]
      obtain ⟨b1, b2, b3⟩ := hI.2.2 i hi
      exact ⟨b1, ⟨v, v1, v2, rfl⟩, b3⟩
    · rw [va_up_ne _ _ e]; exact hI.2.2 i hi
theorem p_as (g : zGood M) {k v : Int32} : zPI 107 181 [some (.int k), some (.int v), none] [some (.int k), some (.int v)] M := by
  have g0 := g
  obtain ⟨h65, c, nl, nr, m, F, r, n, o, mm, w, ln, sn, f, tr, ft, hC, ⟨x, A, hx, hX, hN, hR, hS⟩, hI, hJ, hK⟩ := g
  have hC0 := hC
  have hX0 := hX
  obtain ⟨k0, kN, kR, kS, kP⟩ := hC
  have hz2 : zoc (mget M 2) = some 1 := by rw [kN.2.2.2.1]; exact coNur
  have hz1 : zoc (mget M 1) = some 7 := by rw [k0]; exact coRR
  have hz44 : zoc (mget M 44) = some 8 := by rw [hx.1]; exact coMod
  have hl5 := kN.2.1
  have hr5 := kN.2.2.1
  have hn8 := kR.2.1
  obtain ⟨x0, x1, x2, x3, x4, x5, x16, x17⟩ := hX
  have o44 := hx.1
  have C1 := hC0.setT (tr' := tr) (ft' := 0)
  have kN' := C1.2.1
  have k0' := C1.1
  have hz1' : zoc (mget (mset M 1 (oRR 2 10 18 27 31 35 tr 0)) 1) = some 7 := by rw [k0']; exact coRR
  have hz2' : zoc (mget (mset M 1 (oRR 2 10 18 27 31 35 tr 0)) 2) = some 1 := by rw [kN'.2.2.2.1]; exact coNur
  have fr1 : ∀ c, zFr M (mset M 1 c) 1 43 := fun c => zFr.rf.set (by omega) (by omega)
  have hx1 : ∀ c, zMdl (mset M 1 c) x A := fun c => hx.fr fun a g1 g2 => mget_ne (by omega)
  have hz44' : ∀ c, zoc (mget (mset M 1 c) 44) = some 8 := fun c => z44 hz44 (fr1 c)
  have o44' := fun c => (hx1 c).1
  have fin0 := fun (v : Int32) => (zFin (M1 := (mset M 1 (oRR 2 10 18 27 31 35 tr 0))) h65 (hz44' _) (fr1 _) (zFr.rf.set (a := 44) (c := oM (upd x 0 0)) (by omega) (by omega)) C1 ⟨_, _, (hx1 _).setX _, ⟨rfl, x1, x2, x3, x4, x5, x16, x17⟩, hN, hR, hS⟩ hI hJ hK)
  rcases kr_or k (n := nr) (by omega) with q | ⟨j, hj, rfl⟩
  · have h9 := n_riderAt_out kN' q
    have h8 := m_noRider_out (hx1 (oRR 2 10 18 27 31 35 tr 0)) x2 hr5 q
    have h7 := m_refused (hx1 (oRR 2 10 18 27 31 35 tr 0)) (v := -1)
    refine ⟨-1, _, _, ?_, ?_, fin0 0⟩
    · simp only [e107_0, e107_0n, e107_1, e107_2, e107_5, e107_5n, e107_6, e107_9, e107_10, e107_13, e107_13n, e107_14, e107_14n, e107_15, e107_15n, e107_18, e107_19, e107_20, e107_21, e107_24, e107_25, e107_26, e107_29, e107_31, e107_32, e107_32n, e107_33, e107_36, e107_37, e107_40, e107_40n, e107_41, e107_42, e107_45, e107_48, e107_49, ↓reduceIte, zth_v, zth_n, zthv_s, zthi_s, zthm_s, true_or, or_true, eq_self, ne_eq, not_false_eq_true, not_true_eq_false, and_self, and_true, true_and, false_and, and_false, foRR_0, foRR_1, foRR_2, foRR_3, foRR_4, foRR_5, foRR_6, foRR_7, poRR_6, poRR_7, coRR, k0, k0', hz2', h9, Nat.reduceEqDiff]
    · simp only [e181_0, e181_0n, e181_1, e181_2, e181_5, e181_8, e181_8n, e181_9, e181_10, e181_13, e181_14, e181_15, e181_16, e181_17, e181_20, e181_23, e181_26, e181_26n, e181_27, e181_29, e181_32, e181_33, e181_33n, e181_34, e181_37, e181_38, e181_39, e181_40, e181_43, e181_43n, e181_44, e181_45, e181_48, e181_51, e181_51n, e181_52, e181_53, e181_56, ↓reduceIte, zth_v, zth_n, zthv_s, zthi_s, zthm_s, true_or, or_true, eq_self, ne_eq, not_false_eq_true, not_true_eq_false, and_self, and_true, true_and, false_and, and_false, foMod_0, foMod_1, foMod_2, foMod_3, foMod_4, foMod_5, foMod_6, foMod_7, foMod_8, foMod_9, foMod_10, foMod_11, foMod_12, foMod_13, foMod_14, foMod_15, foMod_16, foMod_17, foMod_18, foMod_19, foMod_20, foMod_21, foMod_22, foMod_23, foMod_24, foMod_25, foMod_26, foMod_27, foMod_28, foMod_29, foMod_30, foMod_31, foMod_32, foMod_33, foMod_34, foMod_35, foMod_36, foMod_37, foMod_38, poMod_0, poMod_1, poMod_2, poMod_3, poMod_4, poMod_5, poMod_12, poMod_13, poMod_14, poMod_15, poMod_20, poMod_21, poMod_22, poMod_23, poMod_28, poMod_29, poMod_30, poMod_38, coMod, hz44', h8, h7, i10, Nat.reduceEqDiff]
  have h9 := n_riderAt_in kN' hj
  have h8 := fun c => m_noRider_in (hx1 c) x2 hr5 hj
  have k4 := kN'.2.2.2.2.2.2.1 j (by omega)
  have n3 : 2 + 3 + j ≠ 0 := by omega
  by_cases v1 : v < 0 ∨ 2 < v
  · have h7 := m_refused (hx1 (oRR 2 10 18 27 31 35 tr 0)) (v := -2)
    refine ⟨-2, _, _, ?_, ?_, fin0 0⟩
    · by_cases v2 : v < 0
      · simp only [e107_0, e107_0n, e107_1, e107_2, e107_5, e107_5n, e107_6, e107_9, e107_10, e107_13, e107_13n, e107_14, e107_14n, e107_15, e107_15n, e107_18, e107_19, e107_20, e107_21, e107_24, e107_25, e107_26, e107_29, e107_31, e107_32, e107_32n, e107_33, e107_36, e107_37, e107_40, e107_40n, e107_41, e107_42, e107_45, e107_48, e107_49, ↓reduceIte, zth_v, zth_n, zthv_s, zthi_s, zthm_s, true_or, or_true, eq_self, ne_eq, not_false_eq_true, not_true_eq_false, and_self, and_true, true_and, false_and, and_false, foRR_0, foRR_1, foRR_2, foRR_3, foRR_4, foRR_5, foRR_6, foRR_7, poRR_6, poRR_7, coRR, k0, k0', hz2', h9, v2, Nat.reduceEqDiff]
      · have v3 := v1.resolve_left v2
        have v4 : ¬ v ≤ 2 := Int32.not_le.mpr v3
        simp only [e107_0, e107_0n, e107_1, e107_2, e107_5, e107_5n, e107_6, e107_9, e107_10, e107_13, e107_13n, e107_14, e107_14n, e107_15, e107_15n, e107_18, e107_19, e107_20, e107_21, e107_24, e107_25, e107_26, e107_29, e107_31, e107_32, e107_32n, e107_33, e107_36, e107_37, e107_40, e107_40n, e107_41, e107_42, e107_45, e107_48, e107_49, ↓reduceIte, zth_v, zth_n, zthv_s, zthi_s, zthm_s, true_or, or_true, eq_self, ne_eq, not_false_eq_true, not_true_eq_false, and_self, and_true, true_and, false_and, and_false, foRR_0, foRR_1, foRR_2, foRR_3, foRR_4, foRR_5, foRR_6, foRR_7, poRR_6, poRR_7, coRR, k0, k0', hz2', h9, v2, v3, v4, Nat.reduceEqDiff]
    · simp only [e181_0, e181_0n, e181_1, e181_2, e181_5, e181_8, e181_8n, e181_9, e181_10, e181_13, e181_14, e181_15, e181_16, e181_17, e181_20, e181_23, e181_26, e181_26n, e181_27, e181_29, e181_32, e181_33, e181_33n, e181_34, e181_37, e181_38, e181_39, e181_40, e181_43, e181_43n, e181_44, e181_45, e181_48, e181_51, e181_51n, e181_52, e181_53, e181_56, ↓reduceIte, zth_v, zth_n, zthv_s, zthi_s, zthm_s, true_or, or_true, eq_self, ne_eq, not_false_eq_true, not_true_eq_false, and_self, and_true, true_and, false_and, and_false, foMod_0, foMod_1, foMod_2, foMod_3, foMod_4, foMod_5, foMod_6, foMod_7, foMod_8, foMod_9, foMod_10, foMod_11, foMod_12, foMod_13, foMod_14, foMod_15, foMod_16, foMod_17, foMod_18, foMod_19, foMod_20, foMod_21, foMod_22, foMod_23, foMod_24, foMod_25, foMod_26, foMod_27, foMod_28, foMod_29, foMod_30, foMod_31, foMod_32, foMod_33, foMod_34, foMod_35, foMod_36, foMod_37, foMod_38, poMod_0, poMod_1, poMod_2, poMod_3, poMod_4, poMod_5, poMod_12, poMod_13, poMod_14, poMod_15, poMod_20, poMod_21, poMod_22, poMod_23, poMod_28, poMod_29, poMod_30, poMod_38, coMod, hz44', h8, h7, m_in_0_2, v1, i10, Nat.reduceEqDiff]
  have v2 : ¬ v < 0 := fun z => v1 (Or.inl z)
  have v3 : ¬ 2 < v := fun z => v1 (Or.inr z)
  have v4 : v ≤ 2 := Int32.not_lt.mp v3
  obtain ⟨y46, y47, y48, y49, y50⟩ := hN.2 j hj
  have o46' := fun c => (hx1 c).2 46 (by omega) (by omega)
  have z46 := zia_in (n := zsz 46) (f := A 46) (j := j) (show j < 5 by omega) (show 5 < 2 ^ 31 by omega)
  by_cases kv : (r j).1 < v
  · have kv2 : ¬ v ≤ (r j).1 := Int32.not_le.mpr kv
    have h7 := fun c => m_failed (hx1 c) (v := 2)
    have h6 := t_faulted k0' (v := 2)
    rw [mset_mset] at h6
    refine ⟨-10 - 2, mset M 1 (oRR 2 10 18 27 31 35 tr 2), _, ?_, ?_, zFin h65 (hz44' _) (fr1 _) (zFr.rf.set (by omega) (by omega)) (hC0.setT (tr' := tr) (ft' := 2)) ⟨_, _, (hx1 _).setX (upd x 0 2), ⟨rfl, x1, x2, x3, x4, x5, x16, x17⟩, hN, hR, hS⟩ hI hJ hK⟩
    · simp only [e107_0, e107_0n, e107_1, e107_2, e107_5, e107_5n, e107_6, e107_9, e107_10, e107_13, e107_13n, e107_14, e107_14n, e107_15, e107_15n, e107_18, e107_19, e107_20, e107_21, e107_24, e107_25, e107_26, e107_29, e107_31, e107_32, e107_32n, e107_33, e107_36, e107_37, e107_40, e107_40n, e107_41, e107_42, e107_45, e107_48, e107_49, ↓reduceIte, zth_v, zth_n, zthv_s, zthi_s, zthm_s, true_or, or_true, eq_self, ne_eq, not_false_eq_true, not_true_eq_false, and_self, and_true, true_and, false_and, and_false, foRR_0, foRR_1, foRR_2, foRR_3, foRR_4, foRR_5, foRR_6, foRR_7, poRR_6, poRR_7, coRR, foRid_0, foRid_1, foRid_2, foRid_3, foRid_4, foRid_5, poRid_0, poRid_1, poRid_2, poRid_3, poRid_4, poRid_5a, poRid_5b, coRid, k0, k0', hz1', hz2', h9, v2, v3, v4, k4, n3, kv, kv2, h6, Nat.reduceEqDiff]
    · simp only [e181_0, e181_0n, e181_1, e181_2, e181_5, e181_8, e181_8n, e181_9, e181_10, e181_13, e181_14, e181_15, e181_16, e181_17, e181_20, e181_23, e181_26, e181_26n, e181_27, e181_29, e181_32, e181_33, e181_33n, e181_34, e181_37, e181_38, e181_39, e181_40, e181_43, e181_43n, e181_44, e181_45, e181_48, e181_51, e181_51n, e181_52, e181_53, e181_56, ↓reduceIte, zth_v, zth_n, zthv_s, zthi_s, zthm_s, true_or, or_true, eq_self, ne_eq, not_false_eq_true, not_true_eq_false, and_self, and_true, true_and, false_and, and_false, foMod_0, foMod_1, foMod_2, foMod_3, foMod_4, foMod_5, foMod_6, foMod_7, foMod_8, foMod_9, foMod_10, foMod_11, foMod_12, foMod_13, foMod_14, foMod_15, foMod_16, foMod_17, foMod_18, foMod_19, foMod_20, foMod_21, foMod_22, foMod_23, foMod_24, foMod_25, foMod_26, foMod_27, foMod_28, foMod_29, foMod_30, foMod_31, foMod_32, foMod_33, foMod_34, foMod_35, foMod_36, foMod_37, foMod_38, poMod_0, poMod_1, poMod_2, poMod_3, poMod_4, poMod_5, poMod_12, poMod_13, poMod_14, poMod_15, poMod_20, poMod_21, poMod_22, poMod_23, poMod_28, poMod_29, poMod_30, poMod_38, coMod, o44', hz44', h8, h7, m_in_0_2, v1, i10, o46', z46, y46, kv, kv2, Nat.reduceEqDiff]
  · have kv2 : v ≤ (r j).1 := Int32.not_lt.mp kv
    have h7 := m_refused (hx1 (oRR 2 10 18 27 31 35 tr 0)) (v := 1)
    refine ⟨1, _, _, ?_, ?_, fin0 0⟩
    · simp only [e107_0, e107_0n, e107_1, e107_2, e107_5, e107_5n, e107_6, e107_9, e107_10, e107_13, e107_13n, e107_14, e107_14n, e107_15, e107_15n, e107_18, e107_19, e107_20, e107_21, e107_24, e107_25, e107_26, e107_29, e107_31, e107_32, e107_32n, e107_33, e107_36, e107_37, e107_40, e107_40n, e107_41, e107_42, e107_45, e107_48, e107_49, ↓reduceIte, zth_v, zth_n, zthv_s, zthi_s, zthm_s, true_or, or_true, eq_self, ne_eq, not_false_eq_true, not_true_eq_false, and_self, and_true, true_and, false_and, and_false, foRR_0, foRR_1, foRR_2, foRR_3, foRR_4, foRR_5, foRR_6, foRR_7, poRR_6, poRR_7, coRR, foRid_0, foRid_1, foRid_2, foRid_3, foRid_4, foRid_5, poRid_0, poRid_1, poRid_2, poRid_3, poRid_4, poRid_5a, poRid_5b, coRid, k0, k0', hz1', hz2', h9, v2, v3, v4, k4, n3, kv, kv2, Nat.reduceEqDiff]
    · simp only [e181_0, e181_0n, e181_1, e181_2, e181_5, e181_8, e181_8n, e181_9, e181_10, e181_13, e181_14, e181_15, e181_16, e181_17, e181_20, e181_23, e181_26, e181_26n, e181_27, e181_29, e181_32, e181_33, e181_33n, e181_34, e181_37, e181_38, e181_39, e181_40, e181_43, e181_43n, e181_44, e181_45, e181_48, e181_51, e181_51n, e181_52, e181_53, e181_56, ↓reduceIte, zth_v, zth_n, zthv_s, zthi_s, zthm_s, true_or, or_true, eq_self, ne_eq, not_false_eq_true, not_true_eq_false, and_self, and_true, true_and, false_and, and_false, foMod_0, foMod_1, foMod_2, foMod_3, foMod_4, foMod_5, foMod_6, foMod_7, foMod_8, foMod_9, foMod_10, foMod_11, foMod_12, foMod_13, foMod_14, foMod_15, foMod_16, foMod_17, foMod_18, foMod_19, foMod_20, foMod_21, foMod_22, foMod_23, foMod_24, foMod_25, foMod_26, foMod_27, foMod_28, foMod_29, foMod_30, foMod_31, foMod_32, foMod_33, foMod_34, foMod_35, foMod_36, foMod_37, foMod_38, poMod_0, poMod_1, poMod_2, poMod_3, poMod_4, poMod_5, poMod_12, poMod_13, poMod_14, poMod_15, poMod_20, poMod_21, poMod_22, poMod_23, poMod_28, poMod_29, poMod_30, poMod_38, coMod, o44', hz44', h8, h7, m_in_0_2, v1, i10, o46', z46, y46, kv, kv2, Nat.reduceEqDiff]
theorem p_lose (g : zGood M) {k : Int32} : zPI 95 172 [some (.int k), none] [some (.int k), none] M := by
  have g0 := g
  obtain ⟨h65, c, nl, nr, m, F, r, n, o, mm, w, ln, sn, f, tr, ft, hC, ⟨x, A, hx, hX, hN, hR, hS⟩, hI, hJ, hK⟩ := g
  have hC0 := hC
  have hX0 := hX
  obtain ⟨k0, kN, kR, kS, kP⟩ := hC
  have hz2 : zoc (mget M 2) = some 1 := by rw [kN.2.2.2.1]; exact coNur
  have hz1 : zoc (mget M 1) = some 7 := by rw [k0]; exact coRR
  have hz44 : zoc (mget M 44) = some 8 := by rw [hx.1]; exact coMod
  have hl5 := kN.2.1
  have hr5 := kN.2.2.1
  have hn8 := kR.2.1
  obtain ⟨x0, x1, x2, x3, x4, x5, x16, x17⟩ := hX
  have o44 := hx.1
  rcases kr_or k (n := 4) (by omega) with q | ⟨j, hj, rfl⟩
  · have h9 := t_sheetAt_out k0 kS q
    have h8 := m_noSheet_out (M := M) q
    refine ⟨-1, M, M, ?_, ?_, zSkip hz44 g0⟩
    · simp only [e95_0, e95_0n, e95_1, e95_2, e95_5, e95_5n, e95_6, e95_6n, e95_7, e95_7n, e95_10, e95_11, e95_12, e95_12n, e95_13, e95_16, e95_19, e95_20, e95_21, e95_21n, e95_22, e95_25, e95_26, ↓reduceIte, zth_v, zth_n, zthv_s, zthi_s, zthm_s, true_or, or_true, eq_self, ne_eq, not_false_eq_true, not_true_eq_false, and_self, and_true, true_and, false_and, and_false, hz1, h9, Nat.reduceEqDiff]
    · simp only [e172_0, e172_1, e172_4, e172_7, e172_8, e172_9, e172_9n, e172_10, e172_13, e172_14, e172_15, e172_18, e172_19, e172_22, e172_23, e172_24, e172_24n, e172_25, e172_28, e172_29, e172_30, e172_31, e172_32, ↓reduceIte, zth_v, zth_n, zthv_s, zthi_s, zthm_s, true_or, or_true, eq_self, ne_eq, not_false_eq_true, not_true_eq_false, and_self, and_true, true_and, false_and, and_false, h8, i10]
  have h9 := t_sheetAt_in k0 kS hj
  have kj := kS.2 j hj
  have n3 : 36 + 2 * j ≠ 0 := by omega
  have hzj : zoc (mget M (36 + 2 * j)) = some 4 := by rw [kj.2.2.1]; exact coSheet
  have hN9 := s_hasNothing kj.2.2.1 n3
  have z62 := zia_in (n := zsz 62) (f := A 62) (j := j) (show j < 4 from hj) (show 4 < 2 ^ 31 by omega)
  have s62 := zis_in (n := zsz 62) (f := A 62) (x := -1) (j := j) (show j < 4 from hj) (show 4 < 2 ^ 31 by omega)
  rw [hS.1 j hj] at z62
  by_cases e : ln j = -1
  · simp only [if_pos e] at z62
    have g1 : ¬ (0 : Int32) ≤ -1 := by decide
    have g2 : (-1 : Int32) < 0 := by decide
    have h8 := m_noSheet_in (M := M) hj
    have o62 := hx.2 62 (by omega) (by omega)
    have fr1 : zFr M M 1 43 := zFr.rf
    have ue : upd (A 62) j (-1) = A 62 := by
      funext i
      by_cases e2 : i = j
      · subst e2; rw [pk_us, hS.1 i hj, if_pos e]
      · rw [pk_un e2]
    refine ⟨0, M, _, ?_, ?_, zFin h65 hz44 fr1 (zFr.rf.set (by omega) (by omega)) hC0 ⟨x, _, hx.setA 62 (by omega) (by omega) (upd (A 62) j (-1)), hX0, hN, hR, ?_⟩ hI hJ hK⟩
    · simp only [e95_0, e95_0n, e95_1, e95_2, e95_5, e95_5n, e95_6, e95_6n, e95_7, e95_7n, e95_10, e95_11, e95_12, e95_12n, e95_13, e95_16, e95_19, e95_20, e95_21, e95_21n, e95_22, e95_25, e95_26, ↓reduceIte, zth_v, zth_n, zthv_s, zthi_s, zthm_s, true_or, or_true, eq_self, ne_eq, not_false_eq_true, not_true_eq_false, and_self, and_true, true_and, false_and, and_false, hz1, hzj, h9, hN9, n3, e, i10, Nat.reduceEqDiff]
    · simp only [e172_0, e172_1, e172_4, e172_7, e172_8, e172_9, e172_9n, e172_10, e172_13, e172_14, e172_15, e172_18, e172_19, e172_22, e172_23, e172_24, e172_24n, e172_25, e172_28, e172_29, e172_30, e172_31, e172_32, ↓reduceIte, zth_v, zth_n, zthv_s, zthi_s, zthm_s, true_or, or_true, eq_self, ne_eq, not_false_eq_true, not_true_eq_false, and_self, and_true, true_and, false_and, and_false, foMod_0, foMod_1, foMod_2, foMod_3, foMod_4, foMod_5, foMod_6, foMod_7, foMod_8, foMod_9, foMod_10, foMod_11, foMod_12, foMod_13, foMod_14, foMod_15, foMod_16, foMod_17, foMod_18, foMod_19, foMod_20, foMod_21, foMod_22, foMod_23, foMod_24, foMod_25, foMod_26, foMod_27, foMod_28, foMod_29, foMod_30, foMod_31, foMod_32, foMod_33, foMod_34, foMod_35, foMod_36, foMod_37, foMod_38, poMod_0, poMod_1, poMod_2, poMod_3, poMod_4, poMod_5, poMod_12, poMod_13, poMod_14, poMod_15, poMod_20, poMod_21, poMod_22, poMod_23, poMod_28, poMod_29, poMod_30, poMod_38, coMod, o44, o62, h8, z62, s62, g1, g2, Nat.reduceEqDiff]
    · rw [ue]; exact hS
  · simp only [if_neg e] at z62
    have g1 : (0 : Int32) ≤ nI (sn j) := ni_ge (b := 0) (by omega) (by have := kj.2.1; omega)
    have g2 : ¬ nI (sn j) < 0 := nI_pos (by have := kj.2.1; omega)
    have h7 := s_becomesNothing kj.2.2.1 n3
    have fr0 : zFr M (mset M (36 + 2 * j) (oSheet (36 + 2 * j + 1) (-1) 0)) (36 + 2 * j) (37 + 2 * j) := zFr.rf.set (by omega) (by omega)
    have fr1 := fr0.mono (lo' := 1) (hi' := 43) (by omega) (by omega)
    have hx1 : zMdl (mset M (36 + 2 * j) (oSheet (36 + 2 * j + 1) (-1) 0)) x A := hx.fr fun a g1 g2 => mget_ne (by omega)
    have h8 := m_noSheet_in (M := mset M (36 + 2 * j) (oSheet (36 + 2 * j + 1) (-1) 0)) hj
    have o62 := hx1.2 62 (by omega) (by omega)
    have o44' := hx1.1
    refine ⟨1, _, _, ?_, ?_, zFin h65 (z44 hz44 fr1) fr1 (zFr.rf.set (by omega) (by omega)) (hC0.setS hj fr0 (l := -1) (n' := 0) (g := f j) ⟨n3, by omega, mget_self, (mget_ne (by omega)).trans kj.2.2.2⟩) ⟨x, _, hx1.setA 62 (by omega) (by omega) (upd (A 62) j (-1)), hX0, hN, hR, ⟨fun i hi => ?_, fun i hi h => ?_, fun i i2 hi h => ?_⟩⟩ hI hJ (fun i hi => ?_)⟩
    · simp only [e95_0, e95_0n, e95_1, e95_2, e95_5, e95_5n, e95_6, e95_6n, e95_7, e95_7n, e95_10, e95_11, e95_12, e95_12n, e95_13, e95_16, e95_19, e95_20, e95_21, e95_21n, e95_22, e95_25, e95_26, ↓reduceIte, zth_v, zth_n, zthv_s, zthi_s, zthm_s, true_or, or_true, eq_self, ne_eq, not_false_eq_true, not_true_eq_false, and_self, and_true, true_and, false_and, and_false, hz1, hzj, h9, hN9, h7, n3, e, Nat.reduceEqDiff]
    · simp only [e172_0, e172_1, e172_4, e172_7, e172_8, e172_9, e172_9n, e172_10, e172_13, e172_14, e172_15, e172_18, e172_19, e172_22, e172_23, e172_24, e172_24n, e172_25, e172_28, e172_29, e172_30, e172_31, e172_32, ↓reduceIte, zth_v, zth_n, zthv_s, zthi_s, zthm_s, true_or, or_true, eq_self, ne_eq, not_false_eq_true, not_true_eq_false, and_self, and_true, true_and, false_and, and_false, foMod_0, foMod_1, foMod_2, foMod_3, foMod_4, foMod_5, foMod_6, foMod_7, foMod_8, foMod_9, foMod_10, foMod_11, foMod_12, foMod_13, foMod_14, foMod_15, foMod_16, foMod_17, foMod_18, foMod_19, foMod_20, foMod_21, foMod_22, foMod_23, foMod_24, foMod_25, foMod_26, foMod_27, foMod_28, foMod_29, foMod_30, foMod_31, foMod_32, foMod_33, foMod_34, foMod_35, foMod_36, foMod_37, foMod_38, poMod_0, poMod_1, poMod_2, poMod_3, poMod_4, poMod_5, poMod_12, poMod_13, poMod_14, poMod_15, poMod_20, poMod_21, poMod_22, poMod_23, poMod_28, poMod_29, poMod_30, poMod_38, coMod, o44', o62, h8, z62, s62, g1, g2, Nat.reduceEqDiff]
    · rw [va_up_self]
      by_cases e2 : i = j
      · subst e2; rw [pk_us, pk_us, if_pos rfl]
      · rw [pk_un e2, pk_un e2, va_up_ne _ _ e2]; exact hS.1 i hi
    · by_cases e2 : i = j
      · subst e2; exact absurd pk_us h
      · rw [pk_un e2] at h ⊢; exact hS.2.1 i hi h
    · by_cases e2 : i = j
      · subst e2; rw [va_up_self] at h; omega
      · rw [va_up_ne _ _ e2] at h ⊢; exact hS.2.2 i i2 hi h
    · by_cases e2 : i = j
      · subst e2; exact Or.inl ⟨pk_us, va_up_self _ _ _⟩
      · rw [pk_un e2, va_up_ne _ _ e2]; exact hK i hi
end CD
