/-! Call by call, twelve: minutes -/
def mSum : Nat → Int32 → Int32
  | 0, m => m
  | k + 1, m => mSum k (m + 1)
theorem zInN_after {c : Int32} {nl nr : Nat} {F : Nat → Int32} {r : Nat → zRD} (h : zInN c nl nr F r) (hO : ∀ j, j < nr → rOk (r j)) : zInN c nl nr F (rAfter r nr) := ⟨h.1, h.2.1, rAfter_ok h.2.2 hO nr⟩
theorem t_minutes_loop {tr ft : Int32} {c : Int32} {nl nr : Nat} {F : Nat → Int32} {n : Nat} (hn : n ≤ 99) : ∀ k j M m (s : zTS), j + k = n → mget M 1 = some (oRR 2 10 18 27 31 35 tr ft) → zNur M 2 c nl nr m F s.2.2 → ∃ M', ev 73 31 [some (.ref 1), some (.int (nI n)), some (.int s.1), some (.int (nI j))] [] M = some (some (.int (zpm c F nl nr k s).1), M') ∧ zNur M' 2 c nl nr (mSum k m) F (zpm c F nl nr k s).2.2 ∧ zFr M M' 2 9 := by
  intro k
  induction k with
  | zero =>
    intro j M m s hj k0 h
    obtain rfl : j = n := by omega
    refine ⟨M, ?_, h, zFr.rf⟩
    have g1 : nI j ≤ nI j := ni_ge (Nat.le_refl _) (by omega)
    simp only [e73_0, e73_1, e73_2, e73_5, e73_6, e73_8, e73_11, e73_13, e73_14, e73_14n, e73_15, e73_18, e73_21, e73_24, e73_26, e73_27, e73_28, e73_29, e73_30, e73_31, e73_32, e73_33, e73_36, e73_37, e73_37n, e73_38, e73_41, e73_44, e73_45, e73_46, e73_49, e73_52, e73_53, ↓reduceIte, zth_v, zth_n, zthv_s, zthi_s, zthm_s, true_or, or_true, eq_self, ne_eq, not_false_eq_true, not_true_eq_false, and_self, and_true, true_and, false_and, and_false, g1, zpm]
  | succ k ih =>
    intro j M m s hj k0 h
    have g1 : ¬ nI n ≤ nI j := ni_nle (by omega) (by omega)
    obtain ⟨M1, i1, i2, i3⟩ := n_passMinute h
    obtain ⟨M', j1, j2, j3⟩ := ih (j + 1) M1 (m + 1) (zpm1 c F nl nr s) (by omega) ((i3.2.2 1 (by omega)).trans k0) i2
    refine ⟨M', ?_, j2, zFr.tr i3 j3⟩
    have hz2 : zoc (mget M 2) = some 1 := by rw [h.2.2.2.1]; exact coNur
    rw [zpm, ← j1, e73_31]
    simp only [e73_0, e73_1, e73_2, e73_5, e73_6, e73_8, e73_11, e73_13, e73_14, e73_14n, e73_15, e73_18, e73_21, e73_24, e73_26, e73_27, e73_28, e73_29, e73_30, e73_32, e73_33, e73_36, e73_37, e73_37n, e73_38, e73_41, e73_44, e73_45, e73_46, e73_49, e73_52, e73_53, ↓reduceIte, zth_v, zth_n, zthv_s, zthi_s, zthm_s, true_or, or_true, eq_self, ne_eq, not_false_eq_true, not_true_eq_false, and_self, and_true, true_and, false_and, and_false, foRR_0, foRR_1, foRR_2, foRR_3, foRR_4, foRR_5, foRR_6, foRR_7, poRR_6, poRR_7, coRR, k0, hz2, i1, g1, nI_1, Nat.reduceEqDiff]
    rfl
/-- n of the model's minutes, wherever they are asked for -/
def zMs (x y : Nat → Int32) (A B : Nat → Nat → Int32) (q nl nr : Nat) (F : Nat → Int32) (k : Nat) (r : Nat → zRD) : Prop := zSame x y A B ∧ y 5 = zshut (zpm (nI q) F nl nr k (x 10, x 11, r)).2.2 nr ∧ y 10 = (zpm (nI q) F nl nr k (x 10, x 11, r)).1 ∧ y 11 = (zpm (nI q) F nl nr k (x 10, x 11, r)).2.1 ∧ y 4 = mSum k (x 4) ∧ zMR y B q nl nr F (zpm (nI q) F nl nr k (x 10, x 11, r)).2.2 ∧ ∀ j, j < nr → rOk ((zpm (nI q) F nl nr k (x 10, x 11, r)).2.2 j)
theorem zMs_0 {x : Nat → Int32} {A : Nat → Nat → Int32} {q nl nr : Nat} {F : Nat → Int32} {r : Nat → zRD} (z : zMR x A q nl nr F r) (x5 : x 5 = zshut r nr) (hO : ∀ j, j < nr → rOk (r j)) : zMs x x A A q nl nr F 0 r := ⟨zSame.rf, x5, rfl, rfl, rfl, z, hO⟩
theorem zMR_after {x y : Nat → Int32} {A B : Nat → Nat → Int32} {q nl nr : Nat} {F : Nat → Int32} {r r' : Nat → zRD} (z : zMR x A q nl nr F r) (hs : zSame x y A B) (hN : zRlN B nl nr F r') (hI : zInN (nI q) nl nr F r') : zMR y B q nl nr F r' := by
  obtain ⟨x1, x2, x3, q1, q2, hl5, hr5, -, -⟩ := z
  exact ⟨(hs.1 1 (by omega) (by omega) (by omega) (by omega)).trans x1, (hs.1 2 (by omega) (by omega) (by omega) (by omega)).trans x2, (hs.1 3 (by omega) (by omega) (by omega) (by omega)).trans x3, q1, q2, hl5, hr5, hN, hI⟩
theorem m_minutes_loop {q nl nr : Nat} {F : Nat → Int32} {n : Nat} (hn : n ≤ 99) : ∀ k j M x A r, j + k = n → zMdl M x A → zMR x A q nl nr F r → x 5 = zshut r nr → (∀ j, j < nr → rOk (r j)) → ∃ M' y B, ev 144 32 [some (.ref 44), some (.int (nI n)), some (.int (nI j))] [] M = ev 144 47 [some (.ref 44), some (.int (nI n)), some (.int (nI n))] [] M' ∧ zMdl M' y B ∧ zMs x y A B q nl nr F k r ∧ zFr M M' 44 65 := by
  intro k
  induction k with
  | zero =>
    intro j M x A r hj h z x5 hO
    obtain rfl : j = n := by omega
    refine ⟨M, x, A, ?_, h, zMs_0 z x5 hO, zFr.rf⟩
    have g1 : nI j ≤ nI j := ni_ge (Nat.le_refl _) (by omega)
    simp only [e144_0, e144_1, e144_2, e144_3, e144_6, e144_9, e144_12, e144_14, e144_15, e144_15n, e144_16, e144_19, e144_22, e144_24, e144_25, e144_25n, e144_26, e144_27, e144_30, e144_31, e144_32, e144_33, e144_34, e144_37, e144_37n, e144_38, e144_41, e144_44, e144_48, e144_51, ↓reduceIte, zth_v, zth_n, zthv_s, zthi_s, zthm_s, true_or, or_true, eq_self, ne_eq, not_false_eq_true, not_true_eq_false, and_self, and_true, true_and, false_and, and_false, g1]
  | succ k ih =>
    intro j M x A r hj h z x5 hO
    have g1 : ¬ nI n ≤ nI j := ni_nle (by omega) (by omega)
    obtain ⟨M1, y, B, i1, i2, i3, i4, i5, i6, i7, i8, i9⟩ := m_passes h z x5 hO
    have hI := z.2.2.2.2.2.2.2.2
    obtain ⟨M', y', B', j1, j2, ⟨s1, s2, s3, s4, s5, s6, s7⟩, j4⟩ := ih (j + 1) M1 y B (rAfter r nr) (by omega) i2 (zMR_after z i3 i8 (zInN_after hI hO)) i4 (rAfter_ok2 hO nr)
    have e0 : (y 10, y 11, rAfter r nr) = zpm1 (nI q) F nl nr (x 10, x 11, r) := by rw [i5, i7]; rfl
    rw [e0] at s2 s3 s4 s6 s7
    rw [i6] at s5
    refine ⟨M', y', B', ?_, j2, ⟨i3.tr s1, s2, s3, s4, s5, s6, s7⟩, zFr.tr i9 j4⟩
    have hz44 : zoc (mget M 44) = some 8 := by rw [h.1]; exact coMod
    rw [← j1, e144_32]
    simp only [e144_0, e144_1, e144_2, e144_3, e144_6, e144_9, e144_12, e144_14, e144_15, e144_15n, e144_16, e144_19, e144_22, e144_24, e144_25, e144_25n, e144_26, e144_27, e144_30, e144_31, e144_33, e144_34, e144_37, e144_37n, e144_38, e144_41, e144_44, e144_48, e144_51, ↓reduceIte, zth_v, zth_n, zthv_s, zthi_s, zthm_s, true_or, or_true, eq_self, ne_eq, not_false_eq_true, not_true_eq_false, and_self, and_true, true_and, false_and, and_false, hz44, i1, g1, nI_1, Nat.reduceEqDiff]
theorem zpm_seen (c : Int32) (F : Nat → Int32) (nl nr : Nat) : ∀ k a b b' r, (zpm c F nl nr k (a, b, r)).1 = (zpm c F nl nr k (a, b', r)).1 ∧ (zpm c F nl nr k (a, b, r)).2.2 = (zpm c F nl nr k (a, b', r)).2.2 := by
  intro k
  induction k with
  | zero => intro a b b' r; exact ⟨rfl, rfl⟩
  | succ k ih =>
    intro a b b' r
    rw [zpm, zpm]
    exact ih _ _ _ _
theorem p_minutes {M : zMem} (g : zGood M) {k : Int32} : zPI 73 144 [some (.int k), none, none] [some (.int k), none] M := by
  have g0 := g
  obtain ⟨h65, c, nl, nr, m, F, r, n, o, mm, w, ln, sn, f, tr, ft, hC, ⟨x, A, hx, hX, hN, hR, hS⟩, hI, hJ, hK⟩ := g
  have hC0 := hC
  have hX0 := hX
  obtain ⟨k0, kN, kR, kS, kP⟩ := hC
  have hz2 : zoc (mget M 2) = some 1 := by rw [kN.2.2.2.1]; exact coNur
  have hz1 : zoc (mget M 1) = some 7 := by rw [k0]; exact coRR
  have hz44 : zoc (mget M 44) = some 8 := by rw [hx.1]; exact coMod
  have hl5 := kN.2.1
  have hr5 := kN.2.2.1
  have hn8 := kR.2.1
  obtain ⟨x0, x1, x2, x3, x4, x5, x16, x17⟩ := hX
  have o44 := hx.1
  by_cases c : k < 1 ∨ 99 < k
  · refine ⟨-2, M, M, ?_, ?_, zSkip hz44 g0⟩
    · by_cases c1 : k < 1
      · simp only [e73_0, e73_1, e73_2, e73_5, e73_6, e73_8, e73_11, e73_13, e73_14, e73_14n, e73_15, e73_18, e73_21, e73_24, e73_26, e73_27, e73_28, e73_29, e73_30, e73_31, e73_32, e73_33, e73_36, e73_37, e73_37n, e73_38, e73_41, e73_44, e73_45, e73_46, e73_49, e73_52, e73_53, ↓reduceIte, zth_v, zth_n, zthv_s, zthi_s, zthm_s, true_or, or_true, eq_self, ne_eq, not_false_eq_true, not_true_eq_false, and_self, and_true, true_and, false_and, and_false, c1]
      · have c2 := c.resolve_left c1
        have c3 : ¬ k ≤ 99 := Int32.not_le.mpr c2
        simp only [e73_0, e73_1, e73_2, e73_5, e73_6, e73_8, e73_11, e73_13, e73_14, e73_14n, e73_15, e73_18, e73_21, e73_24, e73_26, e73_27, e73_28, e73_29, e73_30, e73_31, e73_32, e73_33, e73_36, e73_37, e73_37n, e73_38, e73_41, e73_44, e73_45, e73_46, e73_49, e73_52, e73_53, ↓reduceIte, zth_v, zth_n, zthv_s, zthi_s, zthm_s, true_or, or_true, eq_self, ne_eq, not_false_eq_true, not_true_eq_false, and_self, and_true, true_and, false_and, and_false, c1, c2, c3]
    · simp only [e144_0, e144_1, e144_2, e144_3, e144_6, e144_9, e144_12, e144_14, e144_15, e144_15n, e144_16, e144_19, e144_22, e144_24, e144_25, e144_25n, e144_26, e144_27, e144_30, e144_31, e144_32, e144_33, e144_34, e144_37, e144_37n, e144_38, e144_41, e144_44, e144_47, e144_47n, e144_48, e144_51, ↓reduceIte, zth_v, zth_n, zthv_s, zthi_s, zthm_s, true_or, or_true, eq_self, ne_eq, not_false_eq_true, not_true_eq_false, and_self, and_true, true_and, false_and, and_false, m_in_1_99, c]
  have c1 : ¬ k < 1 := fun z => c (Or.inl z)
  have c2 : ¬ 99 < k := fun z => c (Or.inr z)
  have c3 : k ≤ 99 := Int32.not_lt.mp c2
  have h9 := n_isThere kN
  rcases hI.1 with ⟨rfl, rfl, rfl⟩ | ⟨⟨q, q1, q2, rfl⟩, q3, q4⟩
  · refine ⟨-3, M, M, ?_, ?_, zSkip hz44 g0⟩
    · simp only [e73_0, e73_1, e73_2, e73_5, e73_6, e73_8, e73_11, e73_13, e73_14, e73_14n, e73_15, e73_18, e73_21, e73_24, e73_26, e73_27, e73_28, e73_29, e73_30, e73_31, e73_32, e73_33, e73_36, e73_37, e73_37n, e73_38, e73_41, e73_44, e73_45, e73_46, e73_49, e73_52, e73_53, ↓reduceIte, zth_v, zth_n, zthv_s, zthi_s, zthm_s, true_or, or_true, eq_self, ne_eq, not_false_eq_true, not_true_eq_false, and_self, and_true, true_and, false_and, and_false, foRR_0, foRR_1, foRR_2, foRR_3, foRR_4, foRR_5, foRR_6, foRR_7, poRR_6, poRR_7, coRR, k0, hz2, h9, c1, c2, c3, Int32.le_refl, Nat.reduceEqDiff]
    · simp only [e144_0, e144_1, e144_2, e144_3, e144_6, e144_9, e144_12, e144_14, e144_15, e144_15n, e144_16, e144_19, e144_22, e144_24, e144_25, e144_25n, e144_26, e144_27, e144_30, e144_31, e144_32, e144_33, e144_34, e144_37, e144_37n, e144_38, e144_41, e144_44, e144_47, e144_47n, e144_48, e144_51, ↓reduceIte, zth_v, zth_n, zthv_s, zthi_s, zthm_s, true_or, or_true, eq_self, ne_eq, not_false_eq_true, not_true_eq_false, and_self, and_true, true_and, false_and, and_false, foMod_0, foMod_1, foMod_2, foMod_3, foMod_4, foMod_5, foMod_6, foMod_7, foMod_8, foMod_9, foMod_10, foMod_11, foMod_12, foMod_13, foMod_14, foMod_15, foMod_16, foMod_17, foMod_18, foMod_19, foMod_20, foMod_21, foMod_22, foMod_23, foMod_24, foMod_25, foMod_26, foMod_27, foMod_28, foMod_29, foMod_30, foMod_31, foMod_32, foMod_33, foMod_34, foMod_35, foMod_36, foMod_37, foMod_38, poMod_0, poMod_1, poMod_2, poMod_3, poMod_4, poMod_5, poMod_12, poMod_13, poMod_14, poMod_15, poMod_20, poMod_21, poMod_22, poMod_23, poMod_28, poMod_29, poMod_30, poMod_38, coMod, o44, x2, nI_0, m_in_1_99, c, i10, Nat.reduceEqDiff]
  have g1 := c_le q1 q2
  have g2 : ¬ nI nr = 0 := nI_ne0 (by omega) (by omega)
  simp only [g1, if_false] at h9
  obtain ⟨n', hn', rfl⟩ : ∃ n', n' ≤ 99 ∧ k = nI n' := by
    rcases kr60 k (n := 100) (by omega) with h | ⟨j, hj, rfl⟩
    · exfalso
      rcases h with h | h
      · rw [Int32.lt_iff_toInt_lt, show (0 : Int32).toInt = 0 from by decide] at h
        rw [Int32.lt_iff_toInt_lt, show (1 : Int32).toInt = 1 from by decide] at c1
        omega
      · have e1 := nI_tI (n := 100) (by omega)
        rw [Int32.le_iff_toInt_le, e1] at h
        rw [Int32.lt_iff_toInt_lt, show (99 : Int32).toInt = 99 from by decide] at c2
        omega
    · exact ⟨j, by omega, rfl⟩
  have hO : ∀ j, j < nr → rOk (r j) := fun j hj => kN.2.2.2.2.2.2.2 j (by omega)
  obtain ⟨M1, a1, a2, a3⟩ := t_minutes_loop hn' n' 0 M m (0, x 11, r) (by omega) k0 kN
  have fr1 := a3.mono (lo' := 1) (hi' := 43) (by omega) (by omega)
  have hx1 : zMdl M1 x A := hx.fr fun a g1 g2 => fr1.2.2 _ (by omega)
  have hx2 := hx1.setX (upd x 10 0)
  obtain ⟨M2, y, B, b1, b2, ⟨s1, s2, s3, s4, s5, s6, s7⟩, b4⟩ := m_minutes_loop hn' n' 0 _ (upd x 10 0) A r (by omega) hx2 ⟨x1, x2, x3, q1, q2, hl5, hr5, hN, hI⟩ x5 hO
  rw [nI_0] at a1 b1
  have o1 := hx1.1
  have o2 := b2.1
  have yy := fun i a b c d => s1.1 i a b c d
  refine ⟨(zpm (nI q) F nl nr n' (0, x 11, r)).1, M1, M2, ?_, ?_, zFin h65 (z44 hz44 fr1) fr1 (zFr.tr (zFr.rf.set (by omega) (by omega)) b4) (hC0.setN a3 a2) ⟨y, B, b2, ⟨(yy 0 (by omega) (by omega) (by omega) (by omega)).trans x0, s6.1, s6.2.1, s6.2.2.1, ?_, s2, (yy 16 (by omega) (by omega) (by omega) (by omega)).trans x16, (yy 17 (by omega) (by omega) (by omega) (by omega)).trans x17⟩, s6.2.2.2.2.2.2.2.1, ⟨(s1.2 59 (by omega) (by omega)).trans hR.1, (s1.2 60 (by omega) (by omega)).trans hR.2.1, (s1.2 61 (by omega) (by omega)).trans hR.2.2⟩, ?_⟩ s6.2.2.2.2.2.2.2.2 hJ hK⟩
  · simp only [e73_0, e73_1, e73_2, e73_5, e73_6, e73_8, e73_11, e73_13, e73_14, e73_14n, e73_15, e73_18, e73_21, e73_24, e73_26, e73_27, e73_28, e73_29, e73_30, e73_32, e73_33, e73_36, e73_37, e73_37n, e73_38, e73_41, e73_44, e73_45, e73_46, e73_49, e73_52, e73_53, ↓reduceIte, zth_v, zth_n, zthv_s, zthi_s, zthm_s, true_or, or_true, eq_self, ne_eq, not_false_eq_true, not_true_eq_false, and_self, and_true, true_and, false_and, and_false, foRR_0, foRR_1, foRR_2, foRR_3, foRR_4, foRR_5, foRR_6, foRR_7, poRR_6, poRR_7, coRR, k0, hz2, h9, c1, c2, c3, i10, Nat.reduceEqDiff]
    exact a1
  · have em : mset M1 44 (oMod (x 0) (x 1) (nI nr) (x 3) (x 4) (x 5) (x 6) (x 7) (x 8) (x 9) 0 (x 11) (x 12) (x 13) (x 14) (x 15) (x 16) (x 17)) = mset M1 44 (oM (upd x 10 0)) := by rw [← x2]; rfl
    have st : ev 144 0 [some (.ref 44), some (.int (nI n')), none] [] M1 = ev 144 32 [some (.ref 44), some (.int (nI n')), some (.int 0)] [] (mset M1 44 (oM (upd x 10 0))) := by
      simp only [e144_0, e144_1, e144_2, e144_3, e144_6, e144_9, e144_12, e144_14, e144_15, e144_15n, e144_16, e144_19, e144_22, e144_24, e144_25, e144_25n, e144_26, e144_27, e144_30, e144_31, e144_33, e144_34, e144_37, e144_37n, e144_38, e144_41, e144_44, e144_47, e144_47n, e144_48, e144_51, ↓reduceIte, zth_v, zth_n, zthv_s, zthi_s, zthm_s, true_or, or_true, eq_self, ne_eq, not_false_eq_true, not_true_eq_false, and_self, and_true, true_and, false_and, and_false, foMod_0, foMod_1, foMod_2, foMod_3, foMod_4, foMod_5, foMod_6, foMod_7, foMod_8, foMod_9, foMod_10, foMod_11, foMod_12, foMod_13, foMod_14, foMod_15, foMod_16, foMod_17, foMod_18, foMod_19, foMod_20, foMod_21, foMod_22, foMod_23, foMod_24, foMod_25, foMod_26, foMod_27, foMod_28, foMod_29, foMod_30, foMod_31, foMod_32, foMod_33, foMod_34, foMod_35, foMod_36, foMod_37, foMod_38, poMod_0, poMod_1, poMod_2, poMod_3, poMod_4, poMod_5, poMod_12, poMod_13, poMod_14, poMod_15, poMod_20, poMod_21, poMod_22, poMod_23, poMod_28, poMod_29, poMod_30, poMod_38, coMod, o1, em, x2, g2, m_in_1_99, c, i10, Nat.reduceEqDiff]
    rw [st, b1]
    simp only [e144_0, e144_1, e144_2, e144_3, e144_6, e144_9, e144_12, e144_14, e144_15, e144_15n, e144_16, e144_19, e144_22, e144_24, e144_25, e144_25n, e144_26, e144_27, e144_30, e144_31, e144_32, e144_33, e144_34, e144_37, e144_37n, e144_38, e144_41, e144_44, e144_47, e144_47n, e144_48, e144_51, ↓reduceIte, zth_v, zth_n, zthv_s, zthi_s, zthm_s, true_or, or_true, eq_self, ne_eq, not_false_eq_true, not_true_eq_false, and_self, and_true, true_and, false_and, and_false, foMod_0, foMod_1, foMod_2, foMod_3, foMod_4, foMod_5, foMod_6, foMod_7, foMod_8, foMod_9, foMod_10, foMod_11, foMod_12, foMod_13, foMod_14, foMod_15, foMod_16, foMod_17, foMod_18, foMod_19, foMod_20, foMod_21, foMod_22, foMod_23, foMod_24, foMod_25, foMod_26, foMod_27, foMod_28, foMod_29, foMod_30, foMod_31, foMod_32, foMod_33, foMod_34, foMod_35, foMod_36, foMod_37, foMod_38, poMod_0, poMod_1, poMod_2, poMod_3, poMod_4, poMod_5, poMod_12, poMod_13, poMod_14, poMod_15, poMod_20, poMod_21, poMod_22, poMod_23, poMod_28, poMod_29, poMod_30, poMod_38, coMod, o2, Nat.reduceEqDiff]
    rw [s3]
    rfl
  · rw [s5]; show mSum n' (x 4) = _; rw [x4]
  · refine ⟨fun k hk => ?_, fun k hk h => ?_, fun k i hk hi => ?_⟩
    · rw [s1.2 62 (by omega) (by omega)]; exact hS.1 k hk
    · rw [s1.2 63 (by omega) (by omega)]; exact hS.2.1 k hk h
    · rw [s1.2 64 (by omega) (by omega)]; exact hS.2.2 k i hk hi
