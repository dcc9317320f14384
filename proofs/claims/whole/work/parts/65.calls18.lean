/-! Call by call: nursery -/
def zNw (q : zRD) : Prop := (q.1 = 0 ∨ q.1 = 1 ∨ q.1 = 2) ∧ (∃ l, 1 ≤ l ∧ l ≤ 9 ∧ q.2.1 = nI l) ∧ (∃ t, 1 ≤ t ∧ t ≤ 9 ∧ q.2.2.1 = nI t) ∧ q.2.2.2 = (0, 0, 0)
def zFar (d : Int32) : Prop := ∃ v, 1 ≤ v ∧ v ≤ 99 ∧ d = nI v
theorem zNw_rid {q : zRD} (h : zNw q) : zRid q := by
  obtain ⟨h1, h2, ⟨t, t1, t2, t3⟩, h4⟩ := h
  exact ⟨h1, h2, t, 0, t1, t2, by omega, t3, by rw [h4]; rfl, fun _ => rfl⟩
theorem zpL_far {g : Nat → Int32} {n p p' : Nat} {x : Int32} (h : zpL g n p = (p', some x)) : zFar x := by
  unfold zpL at h
  split at h
  · split at h
    · cases h
    · rename_i dx d1
      split at h
      · cases h
      · rename_i dy d2
        cases h
        obtain ⟨a, a1, rfl, -, -⟩ := zdig_of (Or.inl rfl) d1
        obtain ⟨b, b1, rfl, b2, -⟩ := zdig_of (by split <;> simp) d2
        refine ⟨10 * a + b, ?_, by omega, by rw [show (10 : Int32) = nI 10 from rfl, pk_mul, nI_add]⟩
        by_cases z : a = 0
        · subst z
          have := b2 (if_pos rfl)
          omega
        · omega
  · cases h
theorem zpR_new {g : Nat → Int32} {n p p' : Nat} {k l t : Int32} (h : zpR g n p = (p', some (k, l, t))) : zNw (k, l, t, 0, 0, 0) := by
  unfold zpR at h
  split at h
  · split at h
    · cases h
    · rename_i hk
      split at h
      · cases h
      · rename_i dx d1
        split at h
        · cases h
        · rename_i dy d2
          cases h
          obtain ⟨a, a1, rfl, a2, -⟩ := zdig_of (Or.inr rfl) d1
          obtain ⟨b, b1, rfl, b2, -⟩ := zdig_of (Or.inr rfl) d2
          refine ⟨(zkind_ok _).resolve_left hk, ⟨a, a2 rfl, a1, rfl⟩, ⟨b, b2 rfl, b1, rfl⟩, rfl⟩
  · cases h
theorem zpLs_ok {g : Nat → Int32} {n : Nat} : ∀ k j p F p' j' F', j + k = 5 → (∀ i, i < j → zFar (F i)) → zpLs g n k j p F = (true, p', j', F') → 1 ≤ j' ∧ j' ≤ 5 ∧ ∀ i, i < j' → zFar (F' i) := by
  intro k
  induction k with
  | zero =>
    intro j p F p' j' F' hj hF h
    rw [zpLs] at h
    cases h
    exact ⟨by omega, by omega, hF⟩
  | succ k ih =>
    intro j p F p' j' F' hj hF h
    rw [zpLs] at h
    split at h
    · revert h
      match hL : zpL g n p with
      | (p2, some x) =>
        intro h
        refine ih (j + 1) p2 (upd F j x) p' j' F' (by omega) (fun i hi => ?_) h
        by_cases e : i = j
        · subst e; rw [pk_us]; exact zpL_far hL
        · rw [pk_un e]; exact hF i (by omega)
      | (p2, none) => intro h; cases h
    · rename_i q
      cases h
      exact ⟨by by_cases z : j = 0; exact absurd (Or.inl z) q; omega, by omega, hF⟩
theorem zpRs_ok {g : Nat → Int32} {n : Nat} : ∀ k j p r p' j' r', j + k = 5 → (∀ i, i < j → zNw (r i)) → zpRs g n k j p r = (true, p', j', r') → 1 ≤ j' ∧ j' ≤ 5 ∧ ∀ i, i < j' → zNw (r' i) := by
  intro k
  induction k with
  | zero =>
    intro j p F p' j' F' hj hF h
    rw [zpRs] at h
    cases h
    exact ⟨by omega, by omega, hF⟩
  | succ k ih =>
    intro j p F p' j' F' hj hF h
    rw [zpRs] at h
    split at h
    · revert h
      match hL : zpR g n p with
      | (p2, some (a, b, d)) =>
        intro h
        refine ih (j + 1) p2 (va_up F j (a, b, d, 0, 0, 0)) p' j' F' (by omega) (fun i hi => ?_) h
        by_cases e : i = j
        · subst e; rw [va_up_self]; exact zpR_new hL
        · rw [va_up_ne _ _ e]; exact hF i (by omega)
      | (p2, none) => intro h; cases h
    · rename_i q
      cases h
      exact ⟨by by_cases z : j = 0; exact absurd (Or.inl z) q; omega, by omega, hF⟩
theorem zpF_ok {g : Nat → Int32} {n : Nat} {F : Nat → Int32} {r : Nat → zRD} {p' : Nat} {c : Int32} {nl nr : Nat} {F' : Nat → Int32} {r' : Nat → zRD} (h : zpF g n F r = (p', some (c, nl, F', nr, r'))) : (∃ q, 1 ≤ q ∧ q ≤ 9 ∧ c = nI q) ∧ (1 ≤ nl ∧ nl ≤ 5 ∧ ∀ i, i < nl → zFar (F' i)) ∧ 1 ≤ nr ∧ nr ≤ 5 ∧ ∀ i, i < nr → zNw (r' i) := by
  unfold zpF at h
  split at h
  · revert h
    match hd : zdig g n 1 1 with
    | none => intro h; cases h
    | some v =>
      dsimp only
      match hL : zpLs g n 5 0 2 F with
      | (false, p, _, _) => intro h; cases h
      | (true, p, nl2, F2) =>
        dsimp only
        match hR : zpRs g n 5 0 p r with
        | (false, p2, _, _) => intro h; cases h
        | (true, p2, nr2, r2) =>
          dsimp only
          intro h
          split at h
          · cases h
            obtain ⟨a, a1, rfl, a2, -⟩ := zdig_of (Or.inr rfl) hd
            exact ⟨⟨a, a2 rfl, a1, rfl⟩, zpLs_ok 5 0 _ _ _ _ _ (by omega) (fun i hi => by omega) hL, zpRs_ok 5 0 _ _ _ _ _ (by omega) (fun i hi => by omega) hR⟩
          · cases h
  · cases h
theorem zshut_new {r : Nat → zRD} : ∀ n, (∀ i, i < n → zNw (r i)) → zshut r n = 0 := by
  intro n
  induction n with
  | zero => intro _; rfl
  | succ n ih =>
    intro h
    have e := (h n (by omega)).2.2.2
    rw [zshut, ih fun i hi => h i (by omega)]
    rw [e]
    rfl
theorem i_text {M : zMem} {t s : Nat} (ht : t ≠ 0) (h : mget M t = some (.inr (.inr (6, [.null, .int 0, .int 0, .int 0])))) {a n : Int32} : ev 58 0 [some (.ref t), some (.ref s), some (.int a), some (.int n)] [] M = some (none, mset M t (oText s a n 0)) := by
  simp only [e58_0, e58_0n, e58_1, e58_4, e58_4n, e58_5, e58_5n, e58_6, e58_9, e58_9n, e58_10, e58_11, e58_14, e58_14n, e58_15, e58_16, e58_19, ↓reduceIte, zth_v, zth_n, zthv_s, zthi_s, zthm_s, true_or, or_true, eq_self, ne_eq, not_false_eq_true, not_true_eq_false, and_self, and_true, true_and, false_and, and_false, h, ht, rawX_0, rawX_1, rawX_2, rawX_3, mget_self, mset_mset]
  rfl
section CN
variable {x : Nat → Int32} {y1 y2 y3 y4 y5 : Option Value}
theorem m_cp1 {nl : Nat} (x1 : x 1 = nI nl) (hl5 : nl ≤ 5) : ∀ k j M A, j + k = nl → zMdl M x A → (∀ i, i < j → A 45 i = A 51 i) → ∃ M' A', ev 135 116 [some (.ref 44), y1, y2, y3, y4, y5, some (.int (nI j))] [] M = ev 135 145 [some (.ref 44), y1, y2, y3, y4, y5, some (.int (nI nl))] [] M' ∧ zMdl M' x A' ∧ (∀ a, a ≠ 45 → A' a = A a) ∧ (∀ i, i < nl → A' 45 i = A 51 i) ∧ zFr M M' 44 65 := by
  intro k
  induction k with
  | zero =>
    intro j M A hj h hz
    obtain rfl : j = nl := by omega
    refine ⟨M, A, ?_, h, fun _ _ => rfl, hz, zFr.rf⟩
    have g1 : nI j ≤ nI j := ni_ge (Nat.le_refl _) (by omega)
    have o44 := h.1
    simp only [e135_0, e135_1, e135_4, e135_7, e135_7n, e135_8, e135_9, e135_12, e135_13, e135_14, e135_15, e135_16, e135_19, e135_22, e135_25, e135_25n, e135_26, e135_28, e135_31, e135_32, e135_32n, e135_33, e135_34, e135_35, e135_36, e135_38, e135_39, e135_42, e135_44, e135_46, e135_49, e135_51, e135_52, e135_52n, e135_53, e135_55, e135_56, e135_57, e135_58, e135_59, e135_61, e135_64, e135_67, e135_67n, e135_68, e135_70, e135_70n, e135_71, e135_74, e135_75, e135_78, e135_79, e135_79n, e135_80, e135_80n, e135_81, e135_84, e135_87, e135_87n, e135_88, e135_88n, e135_89, e135_92, e135_95, e135_95n, e135_96, e135_96n, e135_97, e135_100, e135_103, e135_103n, e135_104, e135_105, e135_108, e135_108n, e135_109, e135_110, e135_113, e135_114, e135_116, e135_118, e135_118n, e135_119, e135_122, e135_125, e135_125n, e135_126, e135_129, e135_131, e135_131n, e135_132, e135_135, e135_137, e135_138, e135_139, e135_142, e135_146, e135_148, e135_150, e135_150n, e135_151, e135_154, e135_157, e135_157n, e135_158, e135_161, e135_163, e135_163n, e135_164, e135_167, e135_169, e135_170, e135_171, e135_171n, e135_172, e135_175, e135_177, e135_177n, e135_178, e135_181, e135_183, e135_184, e135_185, e135_185n, e135_186, e135_189, e135_191, e135_191n, e135_192, e135_195, e135_197, e135_198, e135_199, e135_199n, e135_200, e135_203, e135_205, e135_206, e135_207, e135_207n, e135_208, e135_211, e135_213, e135_214, e135_215, e135_218, e135_221, e135_221n, e135_222, e135_223, e135_226, e135_226n, e135_227, e135_227n, e135_228, e135_231, e135_234, ↓reduceIte, zth_v, zth_n, zthv_s, zthi_s, zthm_s, true_or, or_true, eq_self, ne_eq, not_false_eq_true, not_true_eq_false, and_self, and_true, true_and, false_and, and_false, foMod_0, foMod_1, foMod_2, foMod_3, foMod_4, foMod_5, foMod_6, foMod_7, foMod_8, foMod_9, foMod_10, foMod_11, foMod_12, foMod_13, foMod_14, foMod_15, foMod_16, foMod_17, foMod_18, foMod_19, foMod_20, foMod_21, foMod_22, foMod_23, foMod_24, foMod_25, foMod_26, foMod_27, foMod_28, foMod_29, foMod_30, foMod_31, foMod_32, foMod_33, foMod_34, foMod_35, foMod_36, foMod_37, foMod_38, poMod_0, poMod_1, poMod_2, poMod_3, poMod_4, poMod_5, poMod_12, poMod_13, poMod_14, poMod_15, poMod_20, poMod_21, poMod_22, poMod_23, poMod_28, poMod_29, poMod_30, poMod_38, coMod, o44, x1, g1, Nat.reduceEqDiff]
  | succ k ih =>
    intro j M A hj h hz
    have g1 : ¬ nI nl ≤ nI j := ni_nle (by omega) (by omega)
    have h1 := h.setA 45 (by omega) (by omega) (upd (A 45) j (A 51 j))
    obtain ⟨M', A', i1, i2, i3, i4, i5⟩ := ih (j + 1) _ _ (by omega) h1 (fun i hi => by
      rw [va_up_self, va_up_ne _ _ (show 51 ≠ 45 by omega)]
      by_cases e : i = j
      · subst e; rw [pk_us]
      · rw [pk_un e]; exact hz i (by omega))
    refine ⟨M', A', ?_, i2, fun a a1 => by rw [i3 a a1, va_up_ne _ _ a1], fun i hi => ?_, zFr.tr (zFr.rf.set (by omega) (by omega)) i5⟩
    · have o44 := h.1
      have oS := h.2 51 (by omega) (by omega)
      have oT := h.2 45 (by omega) (by omega)
      have z1 := zia_in (n := zsz 51) (f := A 51) (j := j) (show j < 5 by omega) (show 5 < 2 ^ 31 by omega)
      have s1 := zis_in (n := zsz 45) (f := A 45) (x := A 51 j) (j := j) (show j < 5 by omega) (show 5 < 2 ^ 31 by omega)
      rw [← i1, e135_116]
      simp only [e135_0, e135_1, e135_4, e135_7, e135_7n, e135_8, e135_9, e135_12, e135_13, e135_14, e135_15, e135_16, e135_19, e135_22, e135_25, e135_25n, e135_26, e135_28, e135_31, e135_32, e135_32n, e135_33, e135_34, e135_35, e135_36, e135_38, e135_39, e135_42, e135_44, e135_46, e135_49, e135_51, e135_52, e135_52n, e135_53, e135_55, e135_56, e135_57, e135_58, e135_59, e135_61, e135_64, e135_67, e135_67n, e135_68, e135_70, e135_70n, e135_71, e135_74, e135_75, e135_78, e135_79, e135_79n, e135_80, e135_80n, e135_81, e135_84, e135_87, e135_87n, e135_88, e135_88n, e135_89, e135_92, e135_95, e135_95n, e135_96, e135_96n, e135_97, e135_100, e135_103, e135_103n, e135_104, e135_105, e135_108, e135_108n, e135_109, e135_110, e135_113, e135_114, e135_118, e135_118n, e135_119, e135_122, e135_125, e135_125n, e135_126, e135_129, e135_131, e135_131n, e135_132, e135_135, e135_137, e135_138, e135_139, e135_142, e135_146, e135_148, e135_150, e135_150n, e135_151, e135_154, e135_157, e135_157n, e135_158, e135_161, e135_163, e135_163n, e135_164, e135_167, e135_169, e135_170, e135_171, e135_171n, e135_172, e135_175, e135_177, e135_177n, e135_178, e135_181, e135_183, e135_184, e135_185, e135_185n, e135_186, e135_189, e135_191, e135_191n, e135_192, e135_195, e135_197, e135_198, e135_199, e135_199n, e135_200, e135_203, e135_205, e135_206, e135_207, e135_207n, e135_208, e135_211, e135_213, e135_214, e135_215, e135_218, e135_221, e135_221n, e135_222, e135_223, e135_226, e135_226n, e135_227, e135_227n, e135_228, e135_231, e135_234, ↓reduceIte, zth_v, zth_n, zthv_s, zthi_s, zthm_s, true_or, or_true, eq_self, ne_eq, not_false_eq_true, not_true_eq_false, and_self, and_true, true_and, false_and, and_false, foMod_0, foMod_1, foMod_2, foMod_3, foMod_4, foMod_5, foMod_6, foMod_7, foMod_8, foMod_9, foMod_10, foMod_11, foMod_12, foMod_13, foMod_14, foMod_15, foMod_16, foMod_17, foMod_18, foMod_19, foMod_20, foMod_21, foMod_22, foMod_23, foMod_24, foMod_25, foMod_26, foMod_27, foMod_28, foMod_29, foMod_30, foMod_31, foMod_32, foMod_33, foMod_34, foMod_35, foMod_36, foMod_37, foMod_38, poMod_0, poMod_1, poMod_2, poMod_3, poMod_4, poMod_5, poMod_12, poMod_13, poMod_14, poMod_15, poMod_20, poMod_21, poMod_22, poMod_23, poMod_28, poMod_29, poMod_30, poMod_38, coMod, o44, x1, g1, oS, oT, z1, s1, nI_1, Nat.reduceEqDiff]
    · have w := i4 i hi
      rw [va_up_ne _ _ (show 51 ≠ 45 by omega)] at w
      exact w
theorem m_cp2 {nr : Nat} (x2 : x 2 = nI nr) (hr5 : nr ≤ 5) : ∀ k j M A, j + k = nr → zMdl M x A → (∀ i, i < j → A 46 i = A 52 i ∧ A 47 i = A 53 i ∧ A 48 i = A 54 i ∧ A 49 i = 0 ∧ A 50 i = 0) → ∃ M' A', ev 135 148 [some (.ref 44), y1, y2, y3, y4, y5, some (.int (nI j))] [] M = ev 135 221 [some (.ref 44), y1, y2, y3, y4, y5, some (.int (nI nr))] [] M' ∧ zMdl M' x A' ∧ (∀ a, a < 46 ∨ 50 < a → A' a = A a) ∧ (∀ i, i < nr → A' 46 i = A 52 i ∧ A' 47 i = A 53 i ∧ A' 48 i = A 54 i ∧ A' 49 i = 0 ∧ A' 50 i = 0) ∧ zFr M M' 44 65 := by
  intro k
  induction k with
  | zero =>
    intro j M A hj h hz
    obtain rfl : j = nr := by omega
    refine ⟨M, A, ?_, h, fun _ _ => rfl, hz, zFr.rf⟩
    have g1 : nI j ≤ nI j := ni_ge (Nat.le_refl _) (by omega)
    have o44 := h.1
    simp only [e135_0, e135_1, e135_4, e135_7, e135_7n, e135_8, e135_9, e135_12, e135_13, e135_14, e135_15, e135_16, e135_19, e135_22, e135_25, e135_25n, e135_26, e135_28, e135_31, e135_32, e135_32n, e135_33, e135_34, e135_35, e135_36, e135_38, e135_39, e135_42, e135_44, e135_46, e135_49, e135_51, e135_52, e135_52n, e135_53, e135_55, e135_56, e135_57, e135_58, e135_59, e135_61, e135_64, e135_67, e135_67n, e135_68, e135_70, e135_70n, e135_71, e135_74, e135_75, e135_78, e135_79, e135_79n, e135_80, e135_80n, e135_81, e135_84, e135_87, e135_87n, e135_88, e135_88n, e135_89, e135_92, e135_95, e135_95n, e135_96, e135_96n, e135_97, e135_100, e135_103, e135_103n, e135_104, e135_105, e135_108, e135_108n, e135_109, e135_110, e135_113, e135_114, e135_116, e135_118, e135_118n, e135_119, e135_122, e135_125, e135_125n, e135_126, e135_129, e135_131, e135_131n, e135_132, e135_135, e135_137, e135_138, e135_139, e135_142, e135_145, e135_146, e135_148, e135_150, e135_150n, e135_151, e135_154, e135_157, e135_157n, e135_158, e135_161, e135_163, e135_163n, e135_164, e135_167, e135_169, e135_170, e135_171, e135_171n, e135_172, e135_175, e135_177, e135_177n, e135_178, e135_181, e135_183, e135_184, e135_185, e135_185n, e135_186, e135_189, e135_191, e135_191n, e135_192, e135_195, e135_197, e135_198, e135_199, e135_199n, e135_200, e135_203, e135_205, e135_206, e135_207, e135_207n, e135_208, e135_211, e135_213, e135_214, e135_215, e135_218, e135_222, e135_223, e135_226, e135_226n, e135_227, e135_227n, e135_228, e135_231, e135_234, ↓reduceIte, zth_v, zth_n, zthv_s, zthi_s, zthm_s, true_or, or_true, eq_self, ne_eq, not_false_eq_true, not_true_eq_false, and_self, and_true, true_and, false_and, and_false, foMod_0, foMod_1, foMod_2, foMod_3, foMod_4, foMod_5, foMod_6, foMod_7, foMod_8, foMod_9, foMod_10, foMod_11, foMod_12, foMod_13, foMod_14, foMod_15, foMod_16, foMod_17, foMod_18, foMod_19, foMod_20, foMod_21, foMod_22, foMod_23, foMod_24, foMod_25, foMod_26, foMod_27, foMod_28, foMod_29, foMod_30, foMod_31, foMod_32, foMod_33, foMod_34, foMod_35, foMod_36, foMod_37, foMod_38, poMod_0, poMod_1, poMod_2, poMod_3, poMod_4, poMod_5, poMod_12, poMod_13, poMod_14, poMod_15, poMod_20, poMod_21, poMod_22, poMod_23, poMod_28, poMod_29, poMod_30, poMod_38, coMod, o44, x2, g1, Nat.reduceEqDiff]
  | succ k ih =>
    intro j M A hj h hz
    have g1 : ¬ nI nr ≤ nI j := ni_nle (by omega) (by omega)
    have h1 := h.setA 46 (by omega) (by omega) (upd (A 46) j (A 52 j))
    have h2 := h1.setA 47 (by omega) (by omega) (upd (A 47) j (A 53 j))
    have h3 := h2.setA 48 (by omega) (by omega) (upd (A 48) j (A 54 j))
    have h4 := h3.setA 49 (by omega) (by omega) (upd (A 49) j 0)
    have h5 := h4.setA 50 (by omega) (by omega) (upd (A 50) j 0)
    have eb : ∀ a, a < 46 ∨ 50 < a → va_up (va_up (va_up (va_up (va_up A 46 (upd (A 46) j (A 52 j))) 47 (upd (A 47) j (A 53 j))) 48 (upd (A 48) j (A 54 j))) 49 (upd (A 49) j 0)) 50 (upd (A 50) j 0) a = A a := fun a ha => by
      rw [va_up_ne _ _ (by omega), va_up_ne _ _ (by omega), va_up_ne _ _ (by omega), va_up_ne _ _ (by omega), va_up_ne _ _ (by omega)]
    obtain ⟨M', A', i1, i2, i3, i4, i5⟩ := ih (j + 1) _ _ (by omega) h5 (fun i hi => by
      rw [eb 52 (by omega), eb 53 (by omega), eb 54 (by omega)]
      rw [va_up_ne _ _ (show 46 ≠ 50 by omega), va_up_ne _ _ (show 46 ≠ 49 by omega), va_up_ne _ _ (show 46 ≠ 48 by omega), va_up_ne _ _ (show 46 ≠ 47 by omega), va_up_self, va_up_ne _ _ (show 47 ≠ 50 by omega), va_up_ne _ _ (show 47 ≠ 49 by omega), va_up_ne _ _ (show 47 ≠ 48 by omega), va_up_self, va_up_ne _ _ (show 48 ≠ 50 by omega), va_up_ne _ _ (show 48 ≠ 49 by omega), va_up_self, va_up_ne _ _ (show 49 ≠ 50 by omega), va_up_self, va_up_self]
      by_cases e : i = j
      · subst e; rw [pk_us, pk_us, pk_us, pk_us, pk_us]; exact ⟨rfl, rfl, rfl, rfl, rfl⟩
      · rw [pk_un e, pk_un e, pk_un e, pk_un e, pk_un e]; exact hz i (by omega))
    refine ⟨M', A', ?_, i2, fun a ha => by rw [i3 a ha, eb a ha], fun i hi => ?_, zFr.tr (((((zFr.rf.set (by omega) (by omega)).set (by omega) (by omega)).set (by omega) (by omega)).set (by omega) (by omega)).set (by omega) (by omega)) i5⟩
    · have o44 := h.1
      have a46 := h.2 46 (by omega) (by omega)
      have a47 := h.2 47 (by omega) (by omega)
      have a48 := h.2 48 (by omega) (by omega)
      have a49 := h.2 49 (by omega) (by omega)
      have a50 := h.2 50 (by omega) (by omega)
      have a52 := h.2 52 (by omega) (by omega)
      have a53 := h.2 53 (by omega) (by omega)
      have a54 := h.2 54 (by omega) (by omega)
      have z1 := zia_in (n := zsz 52) (f := A 52) (j := j) (show j < 5 by omega) (show 5 < 2 ^ 31 by omega)
      have z2 := zia_in (n := zsz 53) (f := A 53) (j := j) (show j < 5 by omega) (show 5 < 2 ^ 31 by omega)
      have z3 := zia_in (n := zsz 54) (f := A 54) (j := j) (show j < 5 by omega) (show 5 < 2 ^ 31 by omega)
      have s1 := zis_in (n := zsz 46) (f := A 46) (x := A 52 j) (j := j) (show j < 5 by omega) (show 5 < 2 ^ 31 by omega)
      have s2 := zis_in (n := zsz 47) (f := A 47) (x := A 53 j) (j := j) (show j < 5 by omega) (show 5 < 2 ^ 31 by omega)
      have s3 := zis_in (n := zsz 48) (f := A 48) (x := A 54 j) (j := j) (show j < 5 by omega) (show 5 < 2 ^ 31 by omega)
      have s4 := zis_in (n := zsz 49) (f := A 49) (x := 0) (j := j) (show j < 5 by omega) (show 5 < 2 ^ 31 by omega)
      have s5 := zis_in (n := zsz 50) (f := A 50) (x := 0) (j := j) (show j < 5 by omega) (show 5 < 2 ^ 31 by omega)
      rw [e135_148]
      simp only [e135_0, e135_1, e135_4, e135_7, e135_7n, e135_8, e135_9, e135_12, e135_13, e135_14, e135_15, e135_16, e135_19, e135_22, e135_25, e135_25n, e135_26, e135_28, e135_31, e135_32, e135_32n, e135_33, e135_34, e135_35, e135_36, e135_38, e135_39, e135_42, e135_44, e135_46, e135_49, e135_51, e135_52, e135_52n, e135_53, e135_55, e135_56, e135_57, e135_58, e135_59, e135_61, e135_64, e135_67, e135_67n, e135_68, e135_70, e135_70n, e135_71, e135_74, e135_75, e135_78, e135_79, e135_79n, e135_80, e135_80n, e135_81, e135_84, e135_87, e135_87n, e135_88, e135_88n, e135_89, e135_92, e135_95, e135_95n, e135_96, e135_96n, e135_97, e135_100, e135_103, e135_103n, e135_104, e135_105, e135_108, e135_108n, e135_109, e135_110, e135_113, e135_114, e135_116, e135_118, e135_118n, e135_119, e135_122, e135_125, e135_125n, e135_126, e135_129, e135_131, e135_131n, e135_132, e135_135, e135_137, e135_138, e135_139, e135_142, e135_145, e135_146, e135_150, e135_150n, e135_151, e135_154, e135_157, e135_157n, e135_158, e135_161, e135_163, e135_163n, e135_164, e135_167, e135_169, e135_170, e135_171, e135_171n, e135_172, e135_175, e135_177, e135_177n, e135_178, e135_181, e135_183, e135_184, e135_185, e135_185n, e135_186, e135_189, e135_191, e135_191n, e135_192, e135_195, e135_197, e135_198, e135_199, e135_199n, e135_200, e135_203, e135_205, e135_206, e135_207, e135_207n, e135_208, e135_211, e135_213, e135_214, e135_215, e135_218, e135_222, e135_223, e135_226, e135_226n, e135_227, e135_227n, e135_228, e135_231, e135_234, ↓reduceIte, zth_v, zth_n, zthv_s, zthi_s, zthm_s, true_or, or_true, eq_self, ne_eq, not_false_eq_true, not_true_eq_false, and_self, and_true, true_and, false_and, and_false, foMod_0, foMod_1, foMod_2, foMod_3, foMod_4, foMod_5, foMod_6, foMod_7, foMod_8, foMod_9, foMod_10, foMod_11, foMod_12, foMod_13, foMod_14, foMod_15, foMod_16, foMod_17, foMod_18, foMod_19, foMod_20, foMod_21, foMod_22, foMod_23, foMod_24, foMod_25, foMod_26, foMod_27, foMod_28, foMod_29, foMod_30, foMod_31, foMod_32, foMod_33, foMod_34, foMod_35, foMod_36, foMod_37, foMod_38, poMod_0, poMod_1, poMod_2, poMod_3, poMod_4, poMod_5, poMod_12, poMod_13, poMod_14, poMod_15, poMod_20, poMod_21, poMod_22, poMod_23, poMod_28, poMod_29, poMod_30, poMod_38, coMod, o44, x2, g1, a46, a47, a48, a49, a50, a52, a53, a54, z1, z2, z3, s1, s2, s3, s4, s5, mget_set, nI_1, Nat.reduceEqDiff]
      exact i1
    · have w := i4 i hi
      rw [eb 52 (by omega), eb 53 (by omega), eb 54 (by omega)] at w
      exact w
end CN
theorem zFinT {M M1 M2 : zMem} {c : Int32} {nl nr : Nat} {m : Int32} {F : Nat → Int32} {r : Nat → zRD} {n : Nat} {o mm w : Nat → Int32} {ln : Nat → Int32} {sn : Nat → Nat} {f : Nat → Nat → Int32} {tr ft : Int32} (h65 : 65 ≤ M.1) (h44 : zoc (mget M1 44) = some 8) (h0 : mget M1 0 = mget M 0) (hc : M1.1 = M.1 + 1) (hq : M1.2.1 = M.2.1 + 4) (f2 : zFr M1 M2 44 65) (hC : zCl M1 c nl nr m F r n o mm w ln sn f tr ft) (hM : zMd M2 c nl nr m F r n o mm w ln sn f tr ft) (hI : zInN c nl nr F r) (hJ : zInR nr n o) (hK : zInS ln sn) : zoc (mget M1 44) = some 8 ∧ mget M1 0 = mget M 0 ∧ zGood M2 ∧ zKeep M M2 := by
  exact ⟨h44, h0, ⟨by rw [f2.1, hc]; omega, _, _, _, _, _, _, _, _, _, _, _, _, _, _, _, hC.fr fun a g1 g2 => f2.2.2 a (by omega), hM, hI, hJ, hK⟩, by rw [f2.2.2 _ (by omega), h0], by rw [f2.1, hc]; omega, by rw [f2.2.1, hq]; omega⟩
