/-! The model's telling -/
def zTl (x0 x : Nat → Int32) (A0 A : Nat → Nat → Int32) (q nl nr : Nat) (F : Nat → Int32) (s : zTS) : Prop := zSame x0 x A0 A ∧ x 10 = s.1 ∧ x 11 = s.2.1 ∧ x 5 = zshut s.2.2 nr ∧ zMR x A q nl nr F s.2.2 ∧ ∀ j, j < nr → rOk (s.2.2 j)
theorem m_did_loop {q nl nr : Nat} {F : Nat → Int32} {n : Nat} (hn : n ≤ 99) : ∀ k j M x A r, j + k = n → zMdl M x A → zMR x A q nl nr F r → x 5 = zshut r nr → (∀ j, j < nr → rOk (r j)) → ∃ M' y B, ev 151 37 [some (.ref 44), some (.int (nI n)), some (.int 2), some (.int (nI j))] [] M = some (some (.int 1), M') ∧ zMdl M' y B ∧ zMs x y A B q nl nr F k r ∧ zFr M M' 44 65 := by
  intro k
  induction k with
  | zero =>
    intro j M x A r hj h z x5 hO
    obtain rfl : j = n := by omega
    refine ⟨M, x, A, ?_, h, zMs_0 z x5 hO, zFr.rf⟩
    have g1 : nI j ≤ nI j := ni_ge (Nat.le_refl _) (by omega)
    simp only [e151_0, e151_1, e151_4, e151_4n, e151_5, e151_6, e151_9, e151_10, e151_11, e151_12, e151_15, e151_15n, e151_16, e151_19, e151_20, e151_23, e151_24, e151_25, e151_28, e151_28n, e151_29, e151_30, e151_33, e151_34, e151_35, e151_36, e151_37, e151_38, e151_39, e151_42, e151_42n, e151_43, e151_46, e151_49, e151_52, e151_53, ↓reduceIte, zth_v, zth_n, zthv_s, zthi_s, zthm_s, true_or, or_true, eq_self, ne_eq, not_false_eq_true, not_true_eq_false, and_self, and_true, true_and, false_and, and_false, g1]
  | succ k ih =>
    intro j M x A r hj h z x5 hO
    have g1 : ¬ nI n ≤ nI j := ni_nle (by omega) (by omega)
    obtain ⟨M1, y, B, i1, i2, i3, i4, i5, i6, i7, i8, i9⟩ := m_passes h z x5 hO
    have hI := z.2.2.2.2.2.2.2.2
    obtain ⟨M', y', B', j1, j2, ⟨s1, s2, s3, s4, s5, s6, s7⟩, j4⟩ := ih (j + 1) M1 y B (rAfter r nr) (by omega) i2 (zMR_after z i3 i8 (zInN_after hI hO)) i4 (rAfter_ok2 hO nr)
    have e0 : (y 10, y 11, rAfter r nr) = zpm1 (nI q) F nl nr (x 10, x 11, r) := by rw [i5, i7]; rfl
    rw [e0] at s2 s3 s4 s6 s7
    rw [i6] at s5
    refine ⟨M', y', B', ?_, j2, ⟨i3.tr s1, s2, s3, s4, s5, s6, s7⟩, zFr.tr i9 j4⟩
    have hz44 : zoc (mget M 44) = some 8 := by rw [h.1]; exact coMod
    rw [← j1, e151_37]
    simp only [e151_0, e151_1, e151_4, e151_4n, e151_5, e151_6, e151_9, e151_10, e151_11, e151_12, e151_15, e151_15n, e151_16, e151_19, e151_20, e151_23, e151_24, e151_25, e151_28, e151_28n, e151_29, e151_30, e151_33, e151_34, e151_35, e151_36, e151_38, e151_39, e151_42, e151_42n, e151_43, e151_46, e151_49, e151_52, e151_53, ↓reduceIte, zth_v, zth_n, zthv_s, zthi_s, zthm_s, true_or, or_true, eq_self, ne_eq, not_false_eq_true, not_true_eq_false, and_self, and_true, true_and, false_and, and_false, hz44, i1, g1, nI_1, Nat.reduceEqDiff]
section DD
variable {x0 : Nat → Int32} {A0 : Nat → Nat → Int32} {q nl nr : Nat} {F : Nat → Int32}
theorem zRid_up {p : zRD} (h : zRid p) : zRid (rUp p) := by
  obtain ⟨b1, b2, t, u, t1, t2, t3, t4, u1, u2⟩ := h
  exact ⟨b1, b2, t, 0, t1, t2, by omega, t4, rfl, fun _ => rfl⟩
theorem zRid_shut {p : zRD} (h : zRid p) : zRid (rShut p) := by
  obtain ⟨b1, b2, t, u, t1, t2, t3, t4, u1, u2⟩ := h
  exact ⟨b1, b2, t, 0, t1, t2, by omega, t4, rfl, fun _ => rfl⟩
theorem m_did {M : zMem} {x : Nat → Int32} {A : Nat → Nat → Int32} {s : zTS} (h : zMdl M x A) (z : zTl x0 x A0 A q nl nr F s) {a w : Int32} (ha : zactOk nr a w) : match zact (nI q) F nl nr a w s with
    | some s' => ∃ M' y B, ev 151 0 [some (.ref 44), some (.int a), some (.int w), none] [] M = some (some (.int 1), M') ∧ zMdl M' y B ∧ zTl x0 y A0 B q nl nr F s' ∧ zFr M M' 44 65
    | none => ∃ M' y B, ev 151 0 [some (.ref 44), some (.int a), some (.int w), none] [] M = some (some (.int 0), M') ∧ zMdl M' y B ∧ zSame x0 y A0 B ∧ zFr M M' 44 65 := by
  obtain ⟨z1, z2, z3, z4, z5, z6⟩ := z
  have mr := z5
  obtain ⟨x1, x2, x3, q1, q2, hl5, hr5, hN, hI⟩ := z5
  have o44 := h.1
  have hz44 : zoc (mget M 44) = some 8 := by rw [h.1]; exact coMod
  rcases ha with ⟨rfl, t, ht, rfl⟩ | ⟨hw, j, hj, rfl⟩
  · obtain ⟨M', y', B', j1, j2, ⟨s1, s2, s3, s4, s5, s6, s7⟩, j4⟩ := m_did_loop (n := t) (by omega) t 0 M x A s.2.2 (by omega) h mr z4 z6
    have e0 : (x 10, x 11, s.2.2) = s := by rw [z2, z3]
    rw [e0] at s2 s3 s4 s6 s7
    simp only [zact, if_true, nI_clamp (show t < 2 ^ 31 by omega)]
    refine ⟨M', y', B', ?_, j2, ⟨z1.tr s1, s3, s4, s2, s6, s7⟩, j4⟩
    rw [nI_0] at j1
    rw [← j1]
    simp only [e151_0, e151_1, e151_4, e151_4n, e151_5, e151_6, e151_9, e151_10, e151_11, e151_12, e151_15, e151_15n, e151_16, e151_19, e151_20, e151_23, e151_24, e151_25, e151_28, e151_28n, e151_29, e151_30, e151_33, e151_34, e151_35, e151_36, e151_38, e151_39, e151_42, e151_42n, e151_43, e151_46, e151_49, e151_52, e151_53, ↓reduceIte, zth_v, zth_n, zthv_s, zthi_s, zthm_s, true_or, or_true, eq_self, ne_eq, not_false_eq_true, not_true_eq_false, and_self, and_true, true_and, false_and, and_false, show ¬ (2 : Int32) = 0 from by decide, show ¬ (2 : Int32) = 1 from by decide]
  · have gt := zshut_get (r := s.2.2) hr5 hj (z6 j hj)
    have hO : ∀ {p : zRD}, rOk p → ∀ i, i < nr → rOk (va_up s.2.2 j p i) := fun hp i hi => by
      by_cases w1 : i = j
      · subst w1; rw [va_up_self]; exact hp
      · rw [va_up_ne _ _ w1]; exact z6 i hi
    have hI' : ∀ {p : zRD}, zRid p → zInN (nI q) nl nr F (va_up s.2.2 j p) := fun hp => ⟨hI.1, hI.2.1, fun i hi => by
      by_cases w1 : i = j
      · subst w1; rw [va_up_self]; exact hp
      · rw [va_up_ne _ _ w1]; exact hI.2.2 i hi⟩
    rcases hw with rfl | rfl
    · simp only [zact, show ((0 : Int32) = 2) = False from by decide, i01, if_false, nI_clamp (show j < 2 ^ 31 by omega)]
      have ms := m_shuts h (j := j)
      rw [z4, gt] at ms
      have y1 := h.setX (upd x 5 (zshut s.2.2 nr ||| (1 <<< (nI j &&& 31))))
      have sm : ∀ v, zSame x (upd x 5 v) A A := fun v => ⟨fun i _ h5 _ _ => pk_un h5, fun _ _ _ => rfl⟩
      rcases z6 j hj with e | e
      · rw [if_pos e]
        rw [e] at ms
        simp only [i01, if_false] at ms
        have e7 := zshut_shut (r := s.2.2) hr5 hj (q := rShut (s.2.2 j)) rfl
        refine ⟨_, _, _, ?_, y1, ⟨z1.tr (sm _), z2, z3, e7.symm, ⟨x1, x2, x3, q1, q2, hl5, hr5, ⟨hN.1, fun i hi => ?_⟩, hI' (zRid_shut (hI.2.2 j hj))⟩, hO (rOk_shut _)⟩, zFr.rf.set (by omega) (by omega)⟩
        · simp only [e151_0, e151_1, e151_4, e151_4n, e151_5, e151_6, e151_9, e151_10, e151_11, e151_12, e151_15, e151_15n, e151_16, e151_19, e151_20, e151_23, e151_24, e151_25, e151_28, e151_28n, e151_29, e151_30, e151_33, e151_34, e151_35, e151_36, e151_37, e151_38, e151_39, e151_42, e151_42n, e151_43, e151_46, e151_49, e151_52, e151_53, ↓reduceIte, zth_v, zth_n, zthv_s, zthi_s, zthm_s, true_or, or_true, eq_self, ne_eq, not_false_eq_true, not_true_eq_false, and_self, and_true, true_and, false_and, and_false, hz44, ms, Nat.reduceEqDiff]
        · obtain ⟨a1, a2, a3, a4, a5⟩ := hN.2 i hi
          dsimp only
          by_cases w1 : i = j
          · subst w1
            rw [va_up_self]
            obtain ⟨-, -, t, u, -, -, -, -, u1, u2⟩ := hI.2.2 i hi
            refine ⟨a1, a2, a3, a4, ?_⟩
            rw [a5, u1, u2 e]; rfl
          · rw [va_up_ne _ _ w1]; exact ⟨a1, a2, a3, a4, a5⟩
      · rw [if_neg (by rw [e]; decide)]
        rw [e] at ms
        simp only [i11, if_true] at ms
        refine ⟨_, _, _, ?_, y1, z1.tr (sm _), zFr.rf.set (by omega) (by omega)⟩
        simp only [e151_0, e151_1, e151_4, e151_4n, e151_5, e151_6, e151_9, e151_10, e151_11, e151_12, e151_15, e151_15n, e151_16, e151_19, e151_20, e151_23, e151_24, e151_25, e151_28, e151_28n, e151_29, e151_30, e151_33, e151_34, e151_35, e151_36, e151_37, e151_38, e151_39, e151_42, e151_42n, e151_43, e151_46, e151_49, e151_52, e151_53, ↓reduceIte, zth_v, zth_n, zthv_s, zthi_s, zthm_s, true_or, or_true, eq_self, ne_eq, not_false_eq_true, not_true_eq_false, and_self, and_true, true_and, false_and, and_false, hz44, ms, Nat.reduceEqDiff]
    · simp only [zact, show ((1 : Int32) = 2) = False from by decide, if_false, if_true, nI_clamp (show j < 2 ^ 31 by omega)]
      rcases z6 j hj with e | e
      · rw [if_neg (by rw [e]; decide)]
        rw [e] at gt
        refine ⟨M, x, A, ?_, h, z1, zFr.rf⟩
        simp only [e151_0, e151_1, e151_4, e151_4n, e151_5, e151_6, e151_9, e151_10, e151_11, e151_12, e151_15, e151_15n, e151_16, e151_19, e151_20, e151_23, e151_24, e151_25, e151_28, e151_28n, e151_29, e151_30, e151_33, e151_34, e151_35, e151_36, e151_37, e151_38, e151_39, e151_42, e151_42n, e151_43, e151_46, e151_49, e151_52, e151_53, ↓reduceIte, zth_v, zth_n, zthv_s, zthi_s, zthm_s, true_or, or_true, eq_self, ne_eq, not_false_eq_true, not_true_eq_false, and_self, and_true, true_and, false_and, and_false, foMod_0, foMod_1, foMod_2, foMod_3, foMod_4, foMod_5, foMod_6, foMod_7, foMod_8, foMod_9, foMod_10, foMod_11, foMod_12, foMod_13, foMod_14, foMod_15, foMod_16, foMod_17, foMod_18, foMod_19, foMod_20, foMod_21, foMod_22, foMod_23, foMod_24, foMod_25, foMod_26, foMod_27, foMod_28, foMod_29, foMod_30, foMod_31, foMod_32, foMod_33, foMod_34, foMod_35, foMod_36, foMod_37, foMod_38, poMod_0, poMod_1, poMod_2, poMod_3, poMod_4, poMod_5, poMod_12, poMod_13, poMod_14, poMod_15, poMod_20, poMod_21, poMod_22, poMod_23, poMod_28, poMod_29, poMod_30, poMod_38, coMod, o44, z4, m_isIn, gt, i01, i10, Nat.reduceEqDiff]
      · rw [if_pos e]
        rw [e] at gt
        have e7 := zshut_up (r := s.2.2) hr5 hj (q := rUp (s.2.2 j)) rfl
        obtain ⟨M2, l1, l2, l3⟩ := m_looked h (j := j) (by omega)
        refine ⟨M2, _, _, ?_, l2, ⟨z1.tr (zSame.lk j), ?_, z3, ?_, ⟨x1, x2, x3, q1, q2, hl5, hr5, ⟨hN.1, fun i hi => ?_⟩, hI' (zRid_up (hI.2.2 j hj))⟩, hO (rOk_up _)⟩, l3⟩
        · simp only [e151_0, e151_1, e151_4, e151_4n, e151_5, e151_6, e151_9, e151_10, e151_11, e151_12, e151_15, e151_15n, e151_16, e151_19, e151_20, e151_23, e151_24, e151_25, e151_28, e151_28n, e151_29, e151_30, e151_33, e151_34, e151_35, e151_36, e151_37, e151_38, e151_39, e151_42, e151_42n, e151_43, e151_46, e151_49, e151_52, e151_53, ↓reduceIte, zth_v, zth_n, zthv_s, zthi_s, zthm_s, true_or, or_true, eq_self, ne_eq, not_false_eq_true, not_true_eq_false, and_self, and_true, true_and, false_and, and_false, foMod_0, foMod_1, foMod_2, foMod_3, foMod_4, foMod_5, foMod_6, foMod_7, foMod_8, foMod_9, foMod_10, foMod_11, foMod_12, foMod_13, foMod_14, foMod_15, foMod_16, foMod_17, foMod_18, foMod_19, foMod_20, foMod_21, foMod_22, foMod_23, foMod_24, foMod_25, foMod_26, foMod_27, foMod_28, foMod_29, foMod_30, foMod_31, foMod_32, foMod_33, foMod_34, foMod_35, foMod_36, foMod_37, foMod_38, poMod_0, poMod_1, poMod_2, poMod_3, poMod_4, poMod_5, poMod_12, poMod_13, poMod_14, poMod_15, poMod_20, poMod_21, poMod_22, poMod_23, poMod_28, poMod_29, poMod_30, poMod_38, coMod, o44, hz44, z4, m_isIn, gt, i10, l1, Nat.reduceEqDiff]
        · show x 10 + 1 = s.1 + 1; rw [z2]
        · rw [e7, ← z4]; rfl
        · obtain ⟨a1, a2, a3, a4, a5⟩ := hN.2 i hi
          show A 46 i = _ ∧ A 47 i = _ ∧ A 48 i = _ ∧ upd (A 49) j 0 i = _ ∧ upd (A 50) j 0 i = _
          dsimp only
          by_cases w1 : i = j
          · subst w1
            rw [va_up_self, pk_us, pk_us]
            exact ⟨a1, a2, a3, rfl, rfl⟩
          · rw [va_up_ne _ _ w1, pk_un w1, pk_un w1]; exact ⟨a1, a2, a3, a4, a5⟩
theorem m_tells_loop {f : Nat → Int32} {b i t : Nat} (ht : t ≤ 20) (hb : b + 2 * t ≤ 240) (hs : ∀ p, p < 2 * t → A0 64 (b + p) = f (i + p)) (hok : ∀ j, j < t → zactOk nr (f (i + 2 * j)) (f (i + 2 * j + 1))) {wh : Int32} : ∀ k j M x A s, j + k = t → zMdl M x A → zTl x0 x A0 A q nl nr F s → ∃ M' y B j', ev 152 17 [some (.ref 44), some (.int (nI b)), some (.int (nI t)), some (.int wh), some (.int (-9)), some (.int (nI j)), none] [] M = ev 152 74 [some (.ref 44), some (.int (nI b)), some (.int (nI t)), some (.int wh), some (.int (ztell (nI q) F nl nr f i k j s).1), some (.int (nI j')), none] [] M' ∧ zMdl M' y B ∧ zSame x0 y A0 B ∧ zFr M M' 44 65 ∧ ((ztell (nI q) F nl nr f i k j s).1 = -9 → zTl x0 y A0 B q nl nr F (ztell (nI q) F nl nr f i k j s).2) := by
  intro k
  induction k with
  | zero =>
    intro j M x A s hj h z
    obtain rfl : j = t := by omega
    refine ⟨M, x, A, j, ?_, h, z.1, zFr.rf, fun _ => z⟩
    have g1 : nI j ≤ nI j := ni_ge (Nat.le_refl _) (by omega)
    simp only [e152_0, e152_2, e152_4, e152_4n, e152_5, e152_6, e152_9, e152_9n, e152_10, e152_11, e152_14, e152_15, e152_17, e152_19, e152_20, e152_23, e152_25, e152_28, e152_28n, e152_29, e152_29n, e152_30, e152_33, e152_34, e152_35, e152_37, e152_38, e152_39, e152_40, e152_40n, e152_41, e152_44, e152_45, e152_46, e152_48, e152_49, e152_50, e152_51, e152_52, e152_53, e152_56, e152_59, e152_61, e152_64, e152_66, e152_68, e152_71, e152_75, e152_76, e152_79, e152_81, e152_82, e152_84, e152_87, e152_89, e152_91, e152_92, e152_93, e152_94, e152_96, e152_99, e152_99n, e152_100, e152_101, e152_103, e152_104, e152_107, e152_110, e152_112, e152_115, e152_115n, e152_116, e152_119, e152_120, e152_122, e152_123, e152_124, e152_124n, e152_125, e152_128, e152_129, e152_130, e152_131, e152_133, e152_134, e152_136, e152_138, e152_138n, e152_139, e152_142, e152_145, e152_147, e152_147n, e152_148, e152_148n, e152_149, e152_152, e152_154, e152_155, e152_158, e152_161, e152_162, e152_165, e152_166, e152_167, e152_169, e152_172, e152_175, e152_176, e152_179, e152_181, e152_184, e152_185, e152_186, e152_189, e152_189n, e152_190, e152_193, e152_196, e152_197, e152_198, e152_201, e152_201n, e152_202, e152_205, e152_208, e152_208n, e152_209, e152_212, ↓reduceIte, zth_v, zth_n, zthv_s, zthi_s, zthm_s, true_or, or_true, eq_self, ne_eq, not_false_eq_true, not_true_eq_false, and_self, and_true, true_and, false_and, and_false, g1, ztell]
  | succ k ih =>
    intro j M x A s hj h z
    have g1 : ¬ nI t ≤ nI j := ni_nle (by omega) (by omega)
    have g2 : ¬ (0 : Int32) ≤ -9 := by decide
    have o44 := h.1
    have hz44 : zoc (mget M 44) = some 8 := by rw [h.1]; exact coMod
    have o64 := h.2 64 (by omega) (by omega)
    rw [z.1.2 64 (by omega) (by omega)] at o64
    have za := zia_in (n := zsz 64) (f := A0 64) (j := b + 2 * j) (show b + 2 * j < 240 by omega) (show 240 < 2 ^ 31 by omega)
    have zb := zia_in (n := zsz 64) (f := A0 64) (j := b + 2 * j + 1) (show b + 2 * j + 1 < 240 by omega) (show 240 < 2 ^ 31 by omega)
    rw [hs (2 * j) (by omega)] at za
    rw [show b + 2 * j + 1 = b + (2 * j + 1) from by omega, hs (2 * j + 1) (by omega), ← Nat.add_assoc, ← Nat.add_assoc] at zb
    have hA := m_did h z (hok j (by omega))
    rw [ztell]
    revert hA
    cases hact : zact (nI q) F nl nr (f (i + 2 * j)) (f (i + 2 * j + 1)) s with
    | none =>
      intro hA
      obtain ⟨M1, y, B, a1, a2, a3, a4⟩ := hA
      have g3 : (0 : Int32) ≤ nI j := ni_ge (b := 0) (by omega) (by omega)
      refine ⟨M1, y, B, j + 1, ?_, a2, a3, a4, fun e => absurd e ?_⟩
      · rw [e152_17]
        simp only [e152_0, e152_2, e152_4, e152_4n, e152_5, e152_6, e152_9, e152_9n, e152_10, e152_11, e152_14, e152_15, e152_19, e152_20, e152_23, e152_25, e152_28, e152_28n, e152_29, e152_29n, e152_30, e152_33, e152_34, e152_35, e152_37, e152_38, e152_39, e152_40, e152_40n, e152_41, e152_44, e152_45, e152_46, e152_48, e152_49, e152_50, e152_51, e152_52, e152_53, e152_56, e152_59, e152_61, e152_64, e152_66, e152_68, e152_71, e152_75, e152_76, e152_79, e152_81, e152_82, e152_84, e152_87, e152_89, e152_91, e152_92, e152_93, e152_94, e152_96, e152_99, e152_99n, e152_100, e152_101, e152_103, e152_104, e152_107, e152_110, e152_112, e152_115, e152_115n, e152_116, e152_119, e152_120, e152_122, e152_123, e152_124, e152_124n, e152_125, e152_128, e152_129, e152_130, e152_131, e152_133, e152_134, e152_136, e152_138, e152_138n, e152_139, e152_142, e152_145, e152_147, e152_147n, e152_148, e152_148n, e152_149, e152_152, e152_154, e152_155, e152_158, e152_161, e152_162, e152_165, e152_166, e152_167, e152_169, e152_172, e152_175, e152_176, e152_179, e152_181, e152_184, e152_185, e152_186, e152_189, e152_189n, e152_190, e152_193, e152_196, e152_197, e152_198, e152_201, e152_201n, e152_202, e152_205, e152_208, e152_208n, e152_209, e152_212, ↓reduceIte, zth_v, zth_n, zthv_s, zthi_s, zthm_s, true_or, or_true, eq_self, ne_eq, not_false_eq_true, not_true_eq_false, and_self, and_true, true_and, false_and, and_false, foMod_0, foMod_1, foMod_2, foMod_3, foMod_4, foMod_5, foMod_6, foMod_7, foMod_8, foMod_9, foMod_10, foMod_11, foMod_12, foMod_13, foMod_14, foMod_15, foMod_16, foMod_17, foMod_18, foMod_19, foMod_20, foMod_21, foMod_22, foMod_23, foMod_24, foMod_25, foMod_26, foMod_27, foMod_28, foMod_29, foMod_30, foMod_31, foMod_32, foMod_33, foMod_34, foMod_35, foMod_36, foMod_37, foMod_38, poMod_0, poMod_1, poMod_2, poMod_3, poMod_4, poMod_5, poMod_12, poMod_13, poMod_14, poMod_15, poMod_20, poMod_21, poMod_22, poMod_23, poMod_28, poMod_29, poMod_30, poMod_38, coMod, o44, hz44, o64, za, zb, ni2, a1, g1, g2, nI_1, Nat.reduceEqDiff]
        rw [e152_17]
        by_cases g4 : nI t ≤ nI (j + 1)
        · simp only [e152_0, e152_2, e152_4, e152_4n, e152_5, e152_6, e152_9, e152_9n, e152_10, e152_11, e152_14, e152_15, e152_19, e152_20, e152_23, e152_25, e152_28, e152_28n, e152_29, e152_29n, e152_30, e152_33, e152_34, e152_35, e152_37, e152_38, e152_39, e152_40, e152_40n, e152_41, e152_44, e152_45, e152_46, e152_48, e152_49, e152_50, e152_51, e152_52, e152_53, e152_56, e152_59, e152_61, e152_64, e152_66, e152_68, e152_71, e152_75, e152_76, e152_79, e152_81, e152_82, e152_84, e152_87, e152_89, e152_91, e152_92, e152_93, e152_94, e152_96, e152_99, e152_99n, e152_100, e152_101, e152_103, e152_104, e152_107, e152_110, e152_112, e152_115, e152_115n, e152_116, e152_119, e152_120, e152_122, e152_123, e152_124, e152_124n, e152_125, e152_128, e152_129, e152_130, e152_131, e152_133, e152_134, e152_136, e152_138, e152_138n, e152_139, e152_142, e152_145, e152_147, e152_147n, e152_148, e152_148n, e152_149, e152_152, e152_154, e152_155, e152_158, e152_161, e152_162, e152_165, e152_166, e152_167, e152_169, e152_172, e152_175, e152_176, e152_179, e152_181, e152_184, e152_185, e152_186, e152_189, e152_189n, e152_190, e152_193, e152_196, e152_197, e152_198, e152_201, e152_201n, e152_202, e152_205, e152_208, e152_208n, e152_209, e152_212, ↓reduceIte, zth_v, zth_n, zthv_s, zthi_s, zthm_s, true_or, or_true, eq_self, ne_eq, not_false_eq_true, not_true_eq_false, and_self, and_true, true_and, false_and, and_false, g4]
        · simp only [e152_0, e152_2, e152_4, e152_4n, e152_5, e152_6, e152_9, e152_9n, e152_10, e152_11, e152_14, e152_15, e152_19, e152_20, e152_23, e152_25, e152_28, e152_28n, e152_29, e152_29n, e152_30, e152_33, e152_34, e152_35, e152_37, e152_38, e152_39, e152_40, e152_40n, e152_41, e152_44, e152_45, e152_46, e152_48, e152_49, e152_50, e152_51, e152_52, e152_53, e152_56, e152_59, e152_61, e152_64, e152_66, e152_68, e152_71, e152_75, e152_76, e152_79, e152_81, e152_82, e152_84, e152_87, e152_89, e152_91, e152_92, e152_93, e152_94, e152_96, e152_99, e152_99n, e152_100, e152_101, e152_103, e152_104, e152_107, e152_110, e152_112, e152_115, e152_115n, e152_116, e152_119, e152_120, e152_122, e152_123, e152_124, e152_124n, e152_125, e152_128, e152_129, e152_130, e152_131, e152_133, e152_134, e152_136, e152_138, e152_138n, e152_139, e152_142, e152_145, e152_147, e152_147n, e152_148, e152_148n, e152_149, e152_152, e152_154, e152_155, e152_158, e152_161, e152_162, e152_165, e152_166, e152_167, e152_169, e152_172, e152_175, e152_176, e152_179, e152_181, e152_184, e152_185, e152_186, e152_189, e152_189n, e152_190, e152_193, e152_196, e152_197, e152_198, e152_201, e152_201n, e152_202, e152_205, e152_208, e152_208n, e152_209, e152_212, ↓reduceIte, zth_v, zth_n, zthv_s, zthi_s, zthm_s, true_or, or_true, eq_self, ne_eq, not_false_eq_true, not_true_eq_false, and_self, and_true, true_and, false_and, and_false, g3, g4]
      · intro e
        have e : nI j = -9 := e
        rw [e] at g3
        exact g2 g3
    | some s' =>
      intro hA
      obtain ⟨M1, y, B, a1, a2, a3, a4⟩ := hA
      obtain ⟨M', y', B', j', b1, b2, b3, b4, b5⟩ := ih (j + 1) M1 y B s' (by omega) a2 a3
      refine ⟨M', y', B', j', ?_, b2, b3, zFr.tr a4 b4, b5⟩
      rw [e152_17]
      simp only [e152_0, e152_2, e152_4, e152_4n, e152_5, e152_6, e152_9, e152_9n, e152_10, e152_11, e152_14, e152_15, e152_19, e152_20, e152_23, e152_25, e152_28, e152_28n, e152_29, e152_29n, e152_30, e152_33, e152_34, e152_35, e152_37, e152_38, e152_39, e152_40, e152_40n, e152_41, e152_44, e152_45, e152_46, e152_48, e152_49, e152_50, e152_51, e152_52, e152_53, e152_56, e152_59, e152_61, e152_64, e152_66, e152_68, e152_71, e152_75, e152_76, e152_79, e152_81, e152_82, e152_84, e152_87, e152_89, e152_91, e152_92, e152_93, e152_94, e152_96, e152_99, e152_99n, e152_100, e152_101, e152_103, e152_104, e152_107, e152_110, e152_112, e152_115, e152_115n, e152_116, e152_119, e152_120, e152_122, e152_123, e152_124, e152_124n, e152_125, e152_128, e152_129, e152_130, e152_131, e152_133, e152_134, e152_136, e152_138, e152_138n, e152_139, e152_142, e152_145, e152_147, e152_147n, e152_148, e152_148n, e152_149, e152_152, e152_154, e152_155, e152_158, e152_161, e152_162, e152_165, e152_166, e152_167, e152_169, e152_172, e152_175, e152_176, e152_179, e152_181, e152_184, e152_185, e152_186, e152_189, e152_189n, e152_190, e152_193, e152_196, e152_197, e152_198, e152_201, e152_201n, e152_202, e152_205, e152_208, e152_208n, e152_209, e152_212, ↓reduceIte, zth_v, zth_n, zthv_s, zthi_s, zthm_s, true_or, or_true, eq_self, ne_eq, not_false_eq_true, not_true_eq_false, and_self, and_true, true_and, false_and, and_false, foMod_0, foMod_1, foMod_2, foMod_3, foMod_4, foMod_5, foMod_6, foMod_7, foMod_8, foMod_9, foMod_10, foMod_11, foMod_12, foMod_13, foMod_14, foMod_15, foMod_16, foMod_17, foMod_18, foMod_19, foMod_20, foMod_21, foMod_22, foMod_23, foMod_24, foMod_25, foMod_26, foMod_27, foMod_28, foMod_29, foMod_30, foMod_31, foMod_32, foMod_33, foMod_34, foMod_35, foMod_36, foMod_37, foMod_38, poMod_0, poMod_1, poMod_2, poMod_3, poMod_4, poMod_5, poMod_12, poMod_13, poMod_14, poMod_15, poMod_20, poMod_21, poMod_22, poMod_23, poMod_28, poMod_29, poMod_30, poMod_38, coMod, o44, hz44, o64, za, zb, ni2, a1, g1, g2, nI_1, i10, Nat.reduceEqDiff]
      exact b1
end DD
