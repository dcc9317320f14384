/-! The model's rows -/
theorem nI_dv {a b : Nat} (ha : a < 2 ^ 31) (hb : b < 2 ^ 31) : nI a / nI b = nI (a / b) := by
  have h1 : a / b ≤ a := Nat.div_le_self a b
  apply Int32.toInt_inj.mp
  rw [Int32.toInt_div, nI_toInt ha, nI_toInt hb, nI_toInt (by omega), ← Int.ofNat_tdiv, Int.bmod_def]
  generalize a / b = c at *
  split <;> omega
theorem nI_md {a b : Nat} (ha : a < 2 ^ 31) (hb : b < 2 ^ 31) : nI a % nI b = nI (a % b) := by
  have h1 : a % b ≤ a := Nat.mod_le a b
  apply Int32.toInt_inj.mp
  rw [Int32.toInt_mod, nI_toInt ha, nI_toInt hb, nI_toInt (by omega), ← Int.ofNat_tmod]
def gC (q nl nr : Nat) (F : Nat → Int32) (r : Nat → zRD) (k l : Nat) : Nat := if k < nr ∧ l < nl then (if zcome (nI q) F (r k) (zLa r k) l = -9 then 0 else (zcome (nI q) F (r k) (zLa r k) l).toNatClampNeg) else 0
section JR
variable {q nl nr : Nat} {F : Nat → Int32} {r : Nat → zRD}
theorem gC_e (hI : zInN (nI q) nl nr F r) {k l : Nat} (hk : k < nr) (hl : l < nl) : zcome (nI q) F (r k) (zLa r k) l = eC (gC q nl nr F r k l) := by
  have hg : k < nr ∧ l < nl := ⟨hk, hl⟩
  unfold gC eC
  rw [if_pos hg]
  rcases zcA_or (zgo (nI q) F (r k) l) (zLa r k) 1 with e | ⟨v, h1, h2, e⟩
  · have e : zcome (nI q) F (r k) (zLa r k) l = -9 := e
    rw [if_pos e, if_pos rfl, e]
  · have e : zcome (nI q) F (r k) (zLa r k) l = nI v := e
    have := (zT_ok hI k hk).2
    rw [e, if_neg (n9v (by omega)), nI_clamp (by omega), if_neg (by omega)]
theorem gC_9 (hI : zInN (nI q) nl nr F r) (k l : Nat) : gC q nl nr F r k l ≤ 9 := by
  unfold gC
  by_cases c : k < nr ∧ l < nl
  · rw [if_pos c]
    rcases zcA_or (zgo (nI q) F (r k) l) (zLa r k) 1 with e | ⟨v, h1, h2, e⟩
    · have e : zcome (nI q) F (r k) (zLa r k) l = -9 := e
      rw [if_pos e]; omega
    · have e : zcome (nI q) F (r k) (zLa r k) l = nI v := e
      have := (zT_ok hI k c.1).2
      rw [e, if_neg (n9v (by omega)), nI_clamp (by omega)]; omega
  · rw [if_neg c]; omega
theorem gC_l (k l : Nat) (h : nl ≤ l) : gC q nl nr F r k l = 0 := by
  unfold gC; rw [if_neg (by omega)]
theorem gC_k (k l : Nat) (h : nr ≤ k) : gC q nl nr F r k l = 0 := by
  unfold gC; rw [if_neg (by omega)]
theorem m_rowBy_loop {x : Nat → Int32} (x1 : x 1 = nI nl) (hl5 : nl ≤ 5) (hr5 : nr ≤ 5) {S : Nat} (hS : S < 10000) {y : Option Value} : ∀ p M A, p ≤ nr → zMdl M x A → (∀ i, p ≤ i → i < nr → A 57 i = nI (dg (nl + 1) (nr - 1 - i) S)) → ∃ M' A', ev 160 9 [some (.ref 44), y, some (.int (nI (S / (nl + 1) ^ (nr - p)))), some (.int (zdn p))] [] M = some (none, M') ∧ zMdl M' x A' ∧ (∀ a, a ≠ 57 → A' a = A a) ∧ (∀ i, i < nr → A' 57 i = nI (dg (nl + 1) (nr - 1 - i) S)) ∧ zFr M M' 44 65 := by
  intro p
  induction p with
  | zero =>
    intro M A hp h hz
    refine ⟨M, A, ?_, h, fun _ _ => rfl, fun i hi => hz i (by omega) hi, zFr.rf⟩
    have g1 : zdn 0 < 0 := by decide
    simp only [e160_0, e160_1, e160_2, e160_2n, e160_3, e160_6, e160_7, e160_8, e160_9, e160_10, e160_13, e160_13n, e160_14, e160_17, e160_18, e160_19, e160_19n, e160_20, e160_23, e160_24, e160_25, e160_26, e160_27, e160_28, e160_28n, e160_29, e160_32, e160_33, e160_34, e160_35, e160_36, e160_39, e160_42, ↓reduceIte, zth_v, zth_n, zthv_s, zthi_s, zthm_s, true_or, or_true, eq_self, ne_eq, not_false_eq_true, not_true_eq_false, and_self, and_true, true_and, false_and, and_false, g1]
  | succ p ih =>
    intro M A hp h hz
    have o44 := h.1
    have g1 : ¬ nI p < 0 := nI_pos (by omega)
    have hq : S / (nl + 1) ^ (nr - (p + 1)) < 2 ^ 31 := by have := Nat.div_le_self S ((nl + 1) ^ (nr - (p + 1))); omega
    have md := nI_md hq (show nl + 1 < 2 ^ 31 by omega)
    have dv := nI_dv hq (show nl + 1 < 2 ^ 31 by omega)
    have ed : S / (nl + 1) ^ (nr - (p + 1)) % (nl + 1) = dg (nl + 1) (nr - 1 - p) S := by
      unfold dg; rw [show nr - (p + 1) = nr - 1 - p from by omega]
    have edv : S / (nl + 1) ^ (nr - (p + 1)) / (nl + 1) = S / (nl + 1) ^ (nr - p) := by
      rw [Nat.div_div_eq_div_mul, ← Nat.pow_succ, show (nr - (p + 1)).succ = nr - p from by omega]
    rw [ed] at md
    rw [edv] at dv
    have g2 : ¬ nI (nl + 1) = 0 := nI_ne0 (by omega) (by omega)
    have h1 := h.setA 57 (by omega) (by omega) (upd (A 57) p (nI (dg (nl + 1) (nr - 1 - p) S)))
    obtain ⟨M', A', i1, i2, i3, i4, i5⟩ := ih _ _ (by omega) h1 (fun i hi1 hi2 => by
      rw [va_up_self]
      by_cases e : i = p
      · subst e; rw [pk_us]
      · rw [pk_un e]; exact hz i (by omega) hi2)
    refine ⟨M', A', ?_, i2, fun a ha => by rw [i3 a ha, va_up_ne _ _ ha], i4, zFr.tr (zFr.rf.set (by omega) (by omega)) i5⟩
    have o57 := h.2 57 (by omega) (by omega)
    have o44' := h1.1
    have s57 := zis_in (n := zsz 57) (f := A 57) (x := nI (dg (nl + 1) (nr - 1 - p) S)) (j := p) (show p < 5 by omega) (show 5 < 2 ^ 31 by omega)
    show ev _ 9 [some (.ref 44), y, _, some (.int (nI p))] [] M = _
    rw [e160_9]
    simp only [e160_0, e160_1, e160_2, e160_2n, e160_3, e160_6, e160_7, e160_8, e160_10, e160_13, e160_13n, e160_14, e160_17, e160_18, e160_19, e160_19n, e160_20, e160_23, e160_24, e160_25, e160_26, e160_27, e160_28, e160_28n, e160_29, e160_32, e160_33, e160_34, e160_35, e160_36, e160_39, e160_42, ↓reduceIte, zth_v, zth_n, zthv_s, zthi_s, zthm_s, true_or, or_true, eq_self, ne_eq, not_false_eq_true, not_true_eq_false, and_self, and_true, true_and, false_and, and_false, foMod_0, foMod_1, foMod_2, foMod_3, foMod_4, foMod_5, foMod_6, foMod_7, foMod_8, foMod_9, foMod_10, foMod_11, foMod_12, foMod_13, foMod_14, foMod_15, foMod_16, foMod_17, foMod_18, foMod_19, foMod_20, foMod_21, foMod_22, foMod_23, foMod_24, foMod_25, foMod_26, foMod_27, foMod_28, foMod_29, foMod_30, foMod_31, foMod_32, foMod_33, foMod_34, foMod_35, foMod_36, foMod_37, foMod_38, poMod_0, poMod_1, poMod_2, poMod_3, poMod_4, poMod_5, poMod_12, poMod_13, poMod_14, poMod_15, poMod_20, poMod_21, poMod_22, poMod_23, poMod_28, poMod_29, poMod_30, poMod_38, coMod, o44, o44', o57, x1, g1, g2, nI_1, md, dv, s57, zdn_1, Nat.reduceEqDiff]
    exact i1
theorem m_rowBy {M : zMem} {x : Nat → Int32} {A : Nat → Nat → Int32} (h : zMdl M x A) (x1 : x 1 = nI nl) (x2 : x 2 = nI nr) (hl5 : nl ≤ 5) (hr1 : 1 ≤ nr) (hr5 : nr ≤ 5) {S : Nat} (hS : S < 10000) : ∃ M' A', ev 160 0 [some (.ref 44), some (.int (nI S)), none, none] [] M = some (none, M') ∧ zMdl M' x A' ∧ (∀ a, a ≠ 57 → A' a = A a) ∧ (∀ i, i < nr → A' 57 i = nI (dg (nl + 1) (nr - 1 - i) S)) ∧ zFr M M' 44 65 := by
  obtain ⟨M', A', i1, i2⟩ := m_rowBy_loop x1 hl5 hr5 hS (y := some (.int (nI S))) nr M A (Nat.le_refl _) h (fun i h1 h2 => by omega)
  refine ⟨M', A', ?_, i2⟩
  rw [← i1, Nat.sub_self, Nat.pow_zero, Nat.div_one]
  have o44 := h.1
  have e : nI nr - 1 = zdn nr := by
    rw [show (1 : Int32) = nI 1 from rfl, pk_sub hr1]
    obtain ⟨p, rfl⟩ : ∃ p, nr = p + 1 := ⟨nr - 1, by omega⟩
    rfl
  simp only [e160_0, e160_1, e160_2, e160_2n, e160_3, e160_6, e160_7, e160_8, e160_10, e160_13, e160_13n, e160_14, e160_17, e160_18, e160_19, e160_19n, e160_20, e160_23, e160_24, e160_25, e160_26, e160_27, e160_28, e160_28n, e160_29, e160_32, e160_33, e160_34, e160_35, e160_36, e160_39, e160_42, ↓reduceIte, zth_v, zth_n, zthv_s, zthi_s, zthm_s, true_or, or_true, eq_self, ne_eq, not_false_eq_true, not_true_eq_false, and_self, and_true, true_and, false_and, and_false, foMod_0, foMod_1, foMod_2, foMod_3, foMod_4, foMod_5, foMod_6, foMod_7, foMod_8, foMod_9, foMod_10, foMod_11, foMod_12, foMod_13, foMod_14, foMod_15, foMod_16, foMod_17, foMod_18, foMod_19, foMod_20, foMod_21, foMod_22, foMod_23, foMod_24, foMod_25, foMod_26, foMod_27, foMod_28, foMod_29, foMod_30, foMod_31, foMod_32, foMod_33, foMod_34, foMod_35, foMod_36, foMod_37, foMod_38, poMod_0, poMod_1, poMod_2, poMod_3, poMod_4, poMod_5, poMod_12, poMod_13, poMod_14, poMod_15, poMod_20, poMod_21, poMod_22, poMod_23, poMod_28, poMod_29, poMod_30, poMod_38, coMod, o44, x2, e, Nat.reduceEqDiff]
theorem dg_lt (B n S : Nat) (hB : 0 < B) : dg B n S < B := Nat.mod_lt _ hB
theorem m_jr_bad {M : zMem} {x : Nat → Int32} {A : Nat → Nat → Int32} (h : zMdl M x A) (z : zMR x A q nl nr F r) {S : Nat} (hA : ∀ i, i < nr → A 57 i = nI (dg (nl + 1) (nr - 1 - i) S)) : ∀ n k a b e d6 d7, k + n = nr → ∃ a' b' e' d6' d7', ev 161 12 [some (.ref 44), some (.int a), some (.int b), some (.int e), some (.int 0), some (.int (nI k)), d6, d7] [] M = ev 161 147 [some (.ref 44), some (.int a'), some (.int b'), some (.int e'), some (.int 0), some (.int (nI nr)), d6', d7'] [] M := by
  have o44 := h.1
  have hz44 : zoc (mget M 44) = some 8 := by rw [h.1]; exact coMod
  have o57 := h.2 57 (by omega) (by omega)
  have mr := z
  obtain ⟨x1, x2, x3, q1, q2, hl5, hr5, hN, hI⟩ := z
  intro n
  induction n with
  | zero =>
    intro k a b e d6 d7 hk
    obtain rfl : k = nr := by omega
    refine ⟨a, b, e, d6, d7, ?_⟩
    have g1 : nI k ≤ nI k := ni_ge (Nat.le_refl _) (by omega)
    simp only [e161_0, e161_1, e161_2, e161_3, e161_4, e161_5, e161_6, e161_7, e161_9, e161_10, e161_12, e161_14, e161_14n, e161_15, e161_18, e161_21, e161_21n, e161_22, e161_25, e161_27, e161_28, e161_28n, e161_29, e161_32, e161_35, e161_36, e161_39, e161_40, e161_42, e161_44, e161_47, e161_47n, e161_48, e161_50, e161_50n, e161_51, e161_54, e161_56, e161_57, e161_60, e161_63, e161_64, e161_66, e161_68, e161_71, e161_73, e161_76, e161_78, e161_81, e161_82, e161_82n, e161_83, e161_86, e161_88, e161_89, e161_92, e161_95, e161_96, e161_99, e161_100, e161_102, e161_103, e161_105, e161_108, e161_109, e161_109n, e161_110, e161_113, e161_115, e161_116, e161_117, e161_120, e161_121, e161_122, e161_123, e161_124, e161_126, e161_129, e161_130, e161_133, e161_134, e161_135, e161_136, e161_137, e161_139, e161_140, e161_141, e161_144, e161_149, e161_152, e161_153, e161_153n, e161_154, e161_157, e161_160, e161_161, e161_161n, e161_162, e161_165, e161_168, e161_169, e161_169n, e161_170, e161_173, e161_176, e161_177, e161_180, e161_181, e161_183, e161_184, e161_186, e161_188, e161_188n, e161_189, e161_192, e161_195, e161_195n, e161_196, e161_199, e161_201, e161_203, e161_206, e161_206n, e161_207, e161_210, e161_212, e161_213, e161_216, e161_216n, e161_217, e161_220, e161_222, e161_223, e161_224, e161_227, e161_230, e161_230n, e161_231, e161_233, e161_236, e161_237, e161_240, e161_240n, e161_241, e161_244, e161_247, e161_247n, e161_248, e161_250, e161_253, e161_254, e161_257, e161_257n, e161_258, e161_261, e161_264, ↓reduceIte, zth_v, zth_n, zthv_s, zthi_s, zthm_s, true_or, or_true, eq_self, ne_eq, not_false_eq_true, not_true_eq_false, and_self, and_true, true_and, false_and, and_false, foMod_0, foMod_1, foMod_2, foMod_3, foMod_4, foMod_5, foMod_6, foMod_7, foMod_8, foMod_9, foMod_10, foMod_11, foMod_12, foMod_13, foMod_14, foMod_15, foMod_16, foMod_17, foMod_18, foMod_19, foMod_20, foMod_21, foMod_22, foMod_23, foMod_24, foMod_25, foMod_26, foMod_27, foMod_28, foMod_29, foMod_30, foMod_31, foMod_32, foMod_33, foMod_34, foMod_35, foMod_36, foMod_37, foMod_38, poMod_0, poMod_1, poMod_2, poMod_3, poMod_4, poMod_5, poMod_12, poMod_13, poMod_14, poMod_15, poMod_20, poMod_21, poMod_22, poMod_23, poMod_28, poMod_29, poMod_30, poMod_38, coMod, o44, x2, g1, Nat.reduceEqDiff]
  | succ n ih =>
    intro k a b e d6 d7 hk
    have g1 : ¬ nI nr ≤ nI k := ni_nle (by omega) (by omega)
    have z57 := zia_in (n := zsz 57) (f := A 57) (j := k) (show k < 5 by omega) (show 5 < 2 ^ 31 by omega)
    rw [hA k (by omega)] at z57
    have hd := dg_lt (nl + 1) (nr - 1 - k) S (by omega)
    generalize dg (nl + 1) (nr - 1 - k) S = d at *
    by_cases c : d = nl
    · subst c
      have g2 : nI d ≤ nI d := ni_ge (Nat.le_refl _) (by omega)
      obtain ⟨a', b', e', d6', d7', i1⟩ := ih (k + 1) a b e (some (.int 0)) (some (.int 0)) (by omega)
      refine ⟨a', b', e', d6', d7', ?_⟩
      rw [← i1, e161_12]
      simp only [e161_0, e161_1, e161_2, e161_3, e161_4, e161_5, e161_6, e161_7, e161_9, e161_10, e161_14, e161_14n, e161_15, e161_18, e161_21, e161_21n, e161_22, e161_25, e161_27, e161_28, e161_28n, e161_29, e161_32, e161_35, e161_36, e161_39, e161_40, e161_42, e161_44, e161_47, e161_47n, e161_48, e161_50, e161_50n, e161_51, e161_54, e161_56, e161_57, e161_60, e161_63, e161_64, e161_66, e161_68, e161_71, e161_73, e161_76, e161_78, e161_81, e161_82, e161_82n, e161_83, e161_86, e161_88, e161_89, e161_92, e161_95, e161_96, e161_99, e161_100, e161_102, e161_103, e161_105, e161_108, e161_109, e161_109n, e161_110, e161_113, e161_115, e161_116, e161_117, e161_120, e161_121, e161_122, e161_123, e161_124, e161_126, e161_129, e161_130, e161_133, e161_134, e161_135, e161_136, e161_137, e161_139, e161_140, e161_141, e161_144, e161_149, e161_152, e161_153, e161_153n, e161_154, e161_157, e161_160, e161_161, e161_161n, e161_162, e161_165, e161_168, e161_169, e161_169n, e161_170, e161_173, e161_176, e161_177, e161_180, e161_181, e161_183, e161_184, e161_186, e161_188, e161_188n, e161_189, e161_192, e161_195, e161_195n, e161_196, e161_199, e161_201, e161_203, e161_206, e161_206n, e161_207, e161_210, e161_212, e161_213, e161_216, e161_216n, e161_217, e161_220, e161_222, e161_223, e161_224, e161_227, e161_230, e161_230n, e161_231, e161_233, e161_236, e161_237, e161_240, e161_240n, e161_241, e161_244, e161_247, e161_247n, e161_248, e161_250, e161_253, e161_254, e161_257, e161_257n, e161_258, e161_261, e161_264, ↓reduceIte, zth_v, zth_n, zthv_s, zthi_s, zthm_s, true_or, or_true, eq_self, ne_eq, not_false_eq_true, not_true_eq_false, and_self, and_true, true_and, false_and, and_false, foMod_0, foMod_1, foMod_2, foMod_3, foMod_4, foMod_5, foMod_6, foMod_7, foMod_8, foMod_9, foMod_10, foMod_11, foMod_12, foMod_13, foMod_14, foMod_15, foMod_16, foMod_17, foMod_18, foMod_19, foMod_20, foMod_21, foMod_22, foMod_23, foMod_24, foMod_25, foMod_26, foMod_27, foMod_28, foMod_29, foMod_30, foMod_31, foMod_32, foMod_33, foMod_34, foMod_35, foMod_36, foMod_37, foMod_38, poMod_0, poMod_1, poMod_2, poMod_3, poMod_4, poMod_5, poMod_12, poMod_13, poMod_14, poMod_15, poMod_20, poMod_21, poMod_22, poMod_23, poMod_28, poMod_29, poMod_30, poMod_38, coMod, o44, o57, z57, x1, x2, g1, g2, or_0, Int32.add_zero, nI_1, Nat.reduceEqDiff]
    · have g2 : ¬ nI nl ≤ nI d := ni_nle (by omega) (by omega)
      have ct := m_comesTo h mr (show k < nr by omega) (show d < nl by omega)
      obtain ⟨a', b', e', d6', d7', i1⟩ := ih (k + 1) (a ||| (1 <<< (nI d &&& 31))) (b + 1) (e + zcome (nI q) F (r k) (zLa r k) d) (some (.int 1)) (some (.int (zcome (nI q) F (r k) (zLa r k) d))) (by omega)
      refine ⟨a', b', e', d6', d7', ?_⟩
      rw [← i1, e161_12]
      simp only [e161_0, e161_1, e161_2, e161_3, e161_4, e161_5, e161_6, e161_7, e161_9, e161_10, e161_14, e161_14n, e161_15, e161_18, e161_21, e161_21n, e161_22, e161_25, e161_27, e161_28, e161_28n, e161_29, e161_32, e161_35, e161_36, e161_39, e161_40, e161_42, e161_44, e161_47, e161_47n, e161_48, e161_50, e161_50n, e161_51, e161_54, e161_56, e161_57, e161_60, e161_63, e161_64, e161_66, e161_68, e161_71, e161_73, e161_76, e161_78, e161_81, e161_82, e161_82n, e161_83, e161_86, e161_88, e161_89, e161_92, e161_95, e161_96, e161_99, e161_100, e161_102, e161_103, e161_105, e161_108, e161_109, e161_109n, e161_110, e161_113, e161_115, e161_116, e161_117, e161_120, e161_121, e161_122, e161_123, e161_124, e161_126, e161_129, e161_130, e161_133, e161_134, e161_135, e161_136, e161_137, e161_139, e161_140, e161_141, e161_144, e161_149, e161_152, e161_153, e161_153n, e161_154, e161_157, e161_160, e161_161, e161_161n, e161_162, e161_165, e161_168, e161_169, e161_169n, e161_170, e161_173, e161_176, e161_177, e161_180, e161_181, e161_183, e161_184, e161_186, e161_188, e161_188n, e161_189, e161_192, e161_195, e161_195n, e161_196, e161_199, e161_201, e161_203, e161_206, e161_206n, e161_207, e161_210, e161_212, e161_213, e161_216, e161_216n, e161_217, e161_220, e161_222, e161_223, e161_224, e161_227, e161_230, e161_230n, e161_231, e161_233, e161_236, e161_237, e161_240, e161_240n, e161_241, e161_244, e161_247, e161_247n, e161_248, e161_250, e161_253, e161_254, e161_257, e161_257n, e161_258, e161_261, e161_264, ↓reduceIte, zth_v, zth_n, zthv_s, zthi_s, zthm_s, true_or, or_true, eq_self, ne_eq, not_false_eq_true, not_true_eq_false, and_self, and_true, true_and, false_and, and_false, foMod_0, foMod_1, foMod_2, foMod_3, foMod_4, foMod_5, foMod_6, foMod_7, foMod_8, foMod_9, foMod_10, foMod_11, foMod_12, foMod_13, foMod_14, foMod_15, foMod_16, foMod_17, foMod_18, foMod_19, foMod_20, foMod_21, foMod_22, foMod_23, foMod_24, foMod_25, foMod_26, foMod_27, foMod_28, foMod_29, foMod_30, foMod_31, foMod_32, foMod_33, foMod_34, foMod_35, foMod_36, foMod_37, foMod_38, poMod_0, poMod_1, poMod_2, poMod_3, poMod_4, poMod_5, poMod_12, poMod_13, poMod_14, poMod_15, poMod_20, poMod_21, poMod_22, poMod_23, poMod_28, poMod_29, poMod_30, poMod_38, coMod, o44, hz44, o57, z57, x1, x2, g1, g2, ct, i10, nI_1, Nat.reduceEqDiff]
theorem m_jr_ok {M : zMem} {x : Nat → Int32} {A : Nat → Nat → Int32} (h : zMdl M x A) (z : zMR x A q nl nr F r) {S : Nat} (hA : ∀ i, i < nr → A 57 i = nI (dg (nl + 1) (nr - 1 - i) S)) : ∀ n k t b e d6 d7, k + n = nr → t < 32 → ∃ a' d6' d7', (rwv (gC q nl nr F r) nl n k t S = 0 ∧ ∃ b' e', ev 161 12 [some (.ref 44), some (.int (nI t)), some (.int b), some (.int e), some (.int 1), some (.int (nI k)), d6, d7] [] M = ev 161 147 [some (.ref 44), some (.int a'), some (.int b'), some (.int e'), some (.int 0), some (.int (nI nr)), d6', d7'] [] M) ∨ (¬ rwv (gC q nl nr F r) nl n k t S = 0 ∧ ev 161 12 [some (.ref 44), some (.int (nI t)), some (.int b), some (.int e), some (.int 1), some (.int (nI k)), d6, d7] [] M = ev 161 147 [some (.ref 44), some (.int a'), some (.int (b + nI (rgm (gC q nl nr F r) nl n k S).1)), some (.int (e + nI (rgm (gC q nl nr F r) nl n k S).2)), some (.int 1), some (.int (nI nr)), d6', d7'] [] M) := by
  have o44 := h.1
  have hz44 : zoc (mget M 44) = some 8 := by rw [h.1]; exact coMod
  have o57 := h.2 57 (by omega) (by omega)
  have mr := z
  obtain ⟨x1, x2, x3, q1, q2, hl5, hr5, hN, hI⟩ := z
  intro n
  induction n with
  | zero =>
    intro k t b e d6 d7 hk ht
    obtain rfl : k = nr := by omega
    refine ⟨nI t, d6, d7, Or.inr ⟨by rw [rwv]; omega, ?_⟩⟩
    have g1 : nI k ≤ nI k := ni_ge (Nat.le_refl _) (by omega)
    simp only [e161_0, e161_1, e161_2, e161_3, e161_4, e161_5, e161_6, e161_7, e161_9, e161_10, e161_12, e161_14, e161_14n, e161_15, e161_18, e161_21, e161_21n, e161_22, e161_25, e161_27, e161_28, e161_28n, e161_29, e161_32, e161_35, e161_36, e161_39, e161_40, e161_42, e161_44, e161_47, e161_47n, e161_48, e161_50, e161_50n, e161_51, e161_54, e161_56, e161_57, e161_60, e161_63, e161_64, e161_66, e161_68, e161_71, e161_73, e161_76, e161_78, e161_81, e161_82, e161_82n, e161_83, e161_86, e161_88, e161_89, e161_92, e161_95, e161_96, e161_99, e161_100, e161_102, e161_103, e161_105, e161_108, e161_109, e161_109n, e161_110, e161_113, e161_115, e161_116, e161_117, e161_120, e161_121, e161_122, e161_123, e161_124, e161_126, e161_129, e161_130, e161_133, e161_134, e161_135, e161_136, e161_137, e161_139, e161_140, e161_141, e161_144, e161_149, e161_152, e161_153, e161_153n, e161_154, e161_157, e161_160, e161_161, e161_161n, e161_162, e161_165, e161_168, e161_169, e161_169n, e161_170, e161_173, e161_176, e161_177, e161_180, e161_181, e161_183, e161_184, e161_186, e161_188, e161_188n, e161_189, e161_192, e161_195, e161_195n, e161_196, e161_199, e161_201, e161_203, e161_206, e161_206n, e161_207, e161_210, e161_212, e161_213, e161_216, e161_216n, e161_217, e161_220, e161_222, e161_223, e161_224, e161_227, e161_230, e161_230n, e161_231, e161_233, e161_236, e161_237, e161_240, e161_240n, e161_241, e161_244, e161_247, e161_247n, e161_248, e161_250, e161_253, e161_254, e161_257, e161_257n, e161_258, e161_261, e161_264, ↓reduceIte, zth_v, zth_n, zthv_s, zthi_s, zthm_s, true_or, or_true, eq_self, ne_eq, not_false_eq_true, not_true_eq_false, and_self, and_true, true_and, false_and, and_false, foMod_0, foMod_1, foMod_2, foMod_3, foMod_4, foMod_5, foMod_6, foMod_7, foMod_8, foMod_9, foMod_10, foMod_11, foMod_12, foMod_13, foMod_14, foMod_15, foMod_16, foMod_17, foMod_18, foMod_19, foMod_20, foMod_21, foMod_22, foMod_23, foMod_24, foMod_25, foMod_26, foMod_27, foMod_28, foMod_29, foMod_30, foMod_31, foMod_32, foMod_33, foMod_34, foMod_35, foMod_36, foMod_37, foMod_38, poMod_0, poMod_1, poMod_2, poMod_3, poMod_4, poMod_5, poMod_12, poMod_13, poMod_14, poMod_15, poMod_20, poMod_21, poMod_22, poMod_23, poMod_28, poMod_29, poMod_30, poMod_38, coMod, o44, x2, g1, rgm, nI_0, Int32.add_zero, Nat.reduceEqDiff]
  | succ n ih =>
    intro k t b e d6 d7 hk ht
    have g1 : ¬ nI nr ≤ nI k := ni_nle (by omega) (by omega)
    have z57 := zia_in (n := zsz 57) (f := A 57) (j := k) (show k < 5 by omega) (show 5 < 2 ^ 31 by omega)
    rw [hA k (by omega), show nr - 1 - k = n from by omega] at z57
    have hd := dg_lt (nl + 1) n S (by omega)
    rw [rwv, rgm]
    generalize dg (nl + 1) n S = d at *
    by_cases c : d = nl
    · rw [if_pos c, if_pos c]
      subst c
      have g2 : nI d ≤ nI d := ni_ge (Nat.le_refl _) (by omega)
      have i1 := ih (k + 1) t b e (some (.int 0)) (some (.int 0)) (by omega) ht
      have st : ev 161 12 [some (.ref 44), some (.int (nI t)), some (.int b), some (.int e), some (.int 1), some (.int (nI k)), d6, d7] [] M = ev 161 12 [some (.ref 44), some (.int (nI t)), some (.int b), some (.int e), some (.int 1), some (.int (nI (k + 1))), some (.int 0), some (.int 0)] [] M := by
        rw [e161_12]
        simp only [e161_0, e161_1, e161_2, e161_3, e161_4, e161_5, e161_6, e161_7, e161_9, e161_10, e161_14, e161_14n, e161_15, e161_18, e161_21, e161_21n, e161_22, e161_25, e161_27, e161_28, e161_28n, e161_29, e161_32, e161_35, e161_36, e161_39, e161_40, e161_42, e161_44, e161_47, e161_47n, e161_48, e161_50, e161_50n, e161_51, e161_54, e161_56, e161_57, e161_60, e161_63, e161_64, e161_66, e161_68, e161_71, e161_73, e161_76, e161_78, e161_81, e161_82, e161_82n, e161_83, e161_86, e161_88, e161_89, e161_92, e161_95, e161_96, e161_99, e161_100, e161_102, e161_103, e161_105, e161_108, e161_109, e161_109n, e161_110, e161_113, e161_115, e161_116, e161_117, e161_120, e161_121, e161_122, e161_123, e161_124, e161_126, e161_129, e161_130, e161_133, e161_134, e161_135, e161_136, e161_137, e161_139, e161_140, e161_141, e161_144, e161_149, e161_152, e161_153, e161_153n, e161_154, e161_157, e161_160, e161_161, e161_161n, e161_162, e161_165, e161_168, e161_169, e161_169n, e161_170, e161_173, e161_176, e161_177, e161_180, e161_181, e161_183, e161_184, e161_186, e161_188, e161_188n, e161_189, e161_192, e161_195, e161_195n, e161_196, e161_199, e161_201, e161_203, e161_206, e161_206n, e161_207, e161_210, e161_212, e161_213, e161_216, e161_216n, e161_217, e161_220, e161_222, e161_223, e161_224, e161_227, e161_230, e161_230n, e161_231, e161_233, e161_236, e161_237, e161_240, e161_240n, e161_241, e161_244, e161_247, e161_247n, e161_248, e161_250, e161_253, e161_254, e161_257, e161_257n, e161_258, e161_261, e161_264, ↓reduceIte, zth_v, zth_n, zthv_s, zthi_s, zthm_s, true_or, or_true, eq_self, ne_eq, not_false_eq_true, not_true_eq_false, and_self, and_true, true_and, false_and, and_false, foMod_0, foMod_1, foMod_2, foMod_3, foMod_4, foMod_5, foMod_6, foMod_7, foMod_8, foMod_9, foMod_10, foMod_11, foMod_12, foMod_13, foMod_14, foMod_15, foMod_16, foMod_17, foMod_18, foMod_19, foMod_20, foMod_21, foMod_22, foMod_23, foMod_24, foMod_25, foMod_26, foMod_27, foMod_28, foMod_29, foMod_30, foMod_31, foMod_32, foMod_33, foMod_34, foMod_35, foMod_36, foMod_37, foMod_38, poMod_0, poMod_1, poMod_2, poMod_3, poMod_4, poMod_5, poMod_12, poMod_13, poMod_14, poMod_15, poMod_20, poMod_21, poMod_22, poMod_23, poMod_28, poMod_29, poMod_30, poMod_38, coMod, o44, o57, z57, x1, x2, g1, g2, i10, or_0, Int32.add_zero, nI_1, Int32.le_refl, show ¬ (0 : Int32) < 0 from by decide, Nat.reduceEqDiff]
      rw [st]
      exact i1
    · rw [if_neg c, if_neg c]
      have g2 : ¬ nI nl ≤ nI d := ni_nle (by omega) (by omega)
      have ct := m_comesTo h mr (show k < nr by omega) (show d < nl by omega)
      rw [gC_e hI (show k < nr by omega) (show d < nl by omega)] at ct
      have h9 := gC_9 hI k d
      by_cases c2 : gC q nl nr F r k d = 0
      · rw [if_pos (Or.inl c2)]
        rw [c2, show eC 0 = -9 from rfl] at ct
        obtain ⟨a', b', e', d6', d7', i1⟩ := m_jr_bad h mr hA n (k + 1) (nI t ||| (1 <<< (nI d &&& 31))) (b + 1) (e + -9) (some (.int 1)) (some (.int (-9))) (by omega)
        refine ⟨a', d6', d7', Or.inl ⟨rfl, b', e', ?_⟩⟩
        rw [← i1, e161_12]
        simp only [e161_0, e161_1, e161_2, e161_3, e161_4, e161_5, e161_6, e161_7, e161_9, e161_10, e161_14, e161_14n, e161_15, e161_18, e161_21, e161_21n, e161_22, e161_25, e161_27, e161_28, e161_28n, e161_29, e161_32, e161_35, e161_36, e161_39, e161_40, e161_42, e161_44, e161_47, e161_47n, e161_48, e161_50, e161_50n, e161_51, e161_54, e161_56, e161_57, e161_60, e161_63, e161_64, e161_66, e161_68, e161_71, e161_73, e161_76, e161_78, e161_81, e161_82, e161_82n, e161_83, e161_86, e161_88, e161_89, e161_92, e161_95, e161_96, e161_99, e161_100, e161_102, e161_103, e161_105, e161_108, e161_109, e161_109n, e161_110, e161_113, e161_115, e161_116, e161_117, e161_120, e161_121, e161_122, e161_123, e161_124, e161_126, e161_129, e161_130, e161_133, e161_134, e161_135, e161_136, e161_137, e161_139, e161_140, e161_141, e161_144, e161_149, e161_152, e161_153, e161_153n, e161_154, e161_157, e161_160, e161_161, e161_161n, e161_162, e161_165, e161_168, e161_169, e161_169n, e161_170, e161_173, e161_176, e161_177, e161_180, e161_181, e161_183, e161_184, e161_186, e161_188, e161_188n, e161_189, e161_192, e161_195, e161_195n, e161_196, e161_199, e161_201, e161_203, e161_206, e161_206n, e161_207, e161_210, e161_212, e161_213, e161_216, e161_216n, e161_217, e161_220, e161_222, e161_223, e161_224, e161_227, e161_230, e161_230n, e161_231, e161_233, e161_236, e161_237, e161_240, e161_240n, e161_241, e161_244, e161_247, e161_247n, e161_248, e161_250, e161_253, e161_254, e161_257, e161_257n, e161_258, e161_261, e161_264, ↓reduceIte, zth_v, zth_n, zthv_s, zthi_s, zthm_s, true_or, or_true, eq_self, ne_eq, not_false_eq_true, not_true_eq_false, and_self, and_true, true_and, false_and, and_false, foMod_0, foMod_1, foMod_2, foMod_3, foMod_4, foMod_5, foMod_6, foMod_7, foMod_8, foMod_9, foMod_10, foMod_11, foMod_12, foMod_13, foMod_14, foMod_15, foMod_16, foMod_17, foMod_18, foMod_19, foMod_20, foMod_21, foMod_22, foMod_23, foMod_24, foMod_25, foMod_26, foMod_27, foMod_28, foMod_29, foMod_30, foMod_31, foMod_32, foMod_33, foMod_34, foMod_35, foMod_36, foMod_37, foMod_38, poMod_0, poMod_1, poMod_2, poMod_3, poMod_4, poMod_5, poMod_12, poMod_13, poMod_14, poMod_15, poMod_20, poMod_21, poMod_22, poMod_23, poMod_28, poMod_29, poMod_30, poMod_38, coMod, o44, hz44, o57, z57, x1, x2, g1, g2, ct, i10, nI_1, show (-9 : Int32) < 0 from by decide, show ¬ (0 : Int32) ≤ -9 from by decide, Nat.reduceEqDiff]
      · have ec : eC (gC q nl nr F r k d) = nI (gC q nl nr F r k d) := if_neg c2
        rw [ec] at ct
        have m1 : ¬ nI (gC q nl nr F r k d) < 0 := nI_pos (by omega)
        have m2 : 0 ≤ nI (gC q nl nr F r k d) := Int32.not_lt.mp m1
        have bg := bt_get t ht d (by omega)
        have bo := bt_or t ht d (by omega)
        have is := m_isIn (M := M) (x := nI t) (k := nI d)
        by_cases c3 : t.testBit d = true
        · rw [if_pos (Or.inr c3)]
          rw [if_pos (by rw [bg]; exact c3)] at is
          obtain ⟨a', b', e', d6', d7', i1⟩ := m_jr_bad h mr hA n (k + 1) (nI t ||| (1 <<< (nI d &&& 31))) (b + 1) (e + nI (gC q nl nr F r k d)) (some (.int 1)) (some (.int (nI (gC q nl nr F r k d)))) (by omega)
          refine ⟨a', d6', d7', Or.inl ⟨rfl, b', e', ?_⟩⟩
          rw [← i1, e161_12]
          simp only [e161_0, e161_1, e161_2, e161_3, e161_4, e161_5, e161_6, e161_7, e161_9, e161_10, e161_14, e161_14n, e161_15, e161_18, e161_21, e161_21n, e161_22, e161_25, e161_27, e161_28, e161_28n, e161_29, e161_32, e161_35, e161_36, e161_39, e161_40, e161_42, e161_44, e161_47, e161_47n, e161_48, e161_50, e161_50n, e161_51, e161_54, e161_56, e161_57, e161_60, e161_63, e161_64, e161_66, e161_68, e161_71, e161_73, e161_76, e161_78, e161_81, e161_82, e161_82n, e161_83, e161_86, e161_88, e161_89, e161_92, e161_95, e161_96, e161_99, e161_100, e161_102, e161_103, e161_105, e161_108, e161_109, e161_109n, e161_110, e161_113, e161_115, e161_116, e161_117, e161_120, e161_121, e161_122, e161_123, e161_124, e161_126, e161_129, e161_130, e161_133, e161_134, e161_135, e161_136, e161_137, e161_139, e161_140, e161_141, e161_144, e161_149, e161_152, e161_153, e161_153n, e161_154, e161_157, e161_160, e161_161, e161_161n, e161_162, e161_165, e161_168, e161_169, e161_169n, e161_170, e161_173, e161_176, e161_177, e161_180, e161_181, e161_183, e161_184, e161_186, e161_188, e161_188n, e161_189, e161_192, e161_195, e161_195n, e161_196, e161_199, e161_201, e161_203, e161_206, e161_206n, e161_207, e161_210, e161_212, e161_213, e161_216, e161_216n, e161_217, e161_220, e161_222, e161_223, e161_224, e161_227, e161_230, e161_230n, e161_231, e161_233, e161_236, e161_237, e161_240, e161_240n, e161_241, e161_244, e161_247, e161_247n, e161_248, e161_250, e161_253, e161_254, e161_257, e161_257n, e161_258, e161_261, e161_264, ↓reduceIte, zth_v, zth_n, zthv_s, zthi_s, zthm_s, true_or, or_true, eq_self, ne_eq, not_false_eq_true, not_true_eq_false, and_self, and_true, true_and, false_and, and_false, foMod_0, foMod_1, foMod_2, foMod_3, foMod_4, foMod_5, foMod_6, foMod_7, foMod_8, foMod_9, foMod_10, foMod_11, foMod_12, foMod_13, foMod_14, foMod_15, foMod_16, foMod_17, foMod_18, foMod_19, foMod_20, foMod_21, foMod_22, foMod_23, foMod_24, foMod_25, foMod_26, foMod_27, foMod_28, foMod_29, foMod_30, foMod_31, foMod_32, foMod_33, foMod_34, foMod_35, foMod_36, foMod_37, foMod_38, poMod_0, poMod_1, poMod_2, poMod_3, poMod_4, poMod_5, poMod_12, poMod_13, poMod_14, poMod_15, poMod_20, poMod_21, poMod_22, poMod_23, poMod_28, poMod_29, poMod_30, poMod_38, coMod, o44, hz44, o57, z57, x1, x2, g1, g2, ct, m1, m2, is, i10, nI_1, Nat.reduceEqDiff]
        · rw [if_neg (by rintro (z | z); exact c2 z; exact c3 z)]
          rw [if_neg (by rw [bg]; exact c3)] at is
          obtain ⟨a', d6', d7', i1⟩ := ih (k + 1) (t ||| 2 ^ d) (b + 1) (e + nI (gC q nl nr F r k d)) (some (.int 1)) (some (.int (nI (gC q nl nr F r k d)))) (by omega) (bt_lt t ht d (by omega))
          have st : ev 161 12 [some (.ref 44), some (.int (nI t)), some (.int b), some (.int e), some (.int 1), some (.int (nI k)), d6, d7] [] M = ev 161 12 [some (.ref 44), some (.int (nI (t ||| 2 ^ d))), some (.int (b + 1)), some (.int (e + nI (gC q nl nr F r k d))), some (.int 1), some (.int (nI (k + 1))), some (.int 1), some (.int (nI (gC q nl nr F r k d)))] [] M := by
            rw [e161_12]
            simp only [e161_0, e161_1, e161_2, e161_3, e161_4, e161_5, e161_6, e161_7, e161_9, e161_10, e161_14, e161_14n, e161_15, e161_18, e161_21, e161_21n, e161_22, e161_25, e161_27, e161_28, e161_28n, e161_29, e161_32, e161_35, e161_36, e161_39, e161_40, e161_42, e161_44, e161_47, e161_47n, e161_48, e161_50, e161_50n, e161_51, e161_54, e161_56, e161_57, e161_60, e161_63, e161_64, e161_66, e161_68, e161_71, e161_73, e161_76, e161_78, e161_81, e161_82, e161_82n, e161_83, e161_86, e161_88, e161_89, e161_92, e161_95, e161_96, e161_99, e161_100, e161_102, e161_103, e161_105, e161_108, e161_109, e161_109n, e161_110, e161_113, e161_115, e161_116, e161_117, e161_120, e161_121, e161_122, e161_123, e161_124, e161_126, e161_129, e161_130, e161_133, e161_134, e161_135, e161_136, e161_137, e161_139, e161_140, e161_141, e161_144, e161_149, e161_152, e161_153, e161_153n, e161_154, e161_157, e161_160, e161_161, e161_161n, e161_162, e161_165, e161_168, e161_169, e161_169n, e161_170, e161_173, e161_176, e161_177, e161_180, e161_181, e161_183, e161_184, e161_186, e161_188, e161_188n, e161_189, e161_192, e161_195, e161_195n, e161_196, e161_199, e161_201, e161_203, e161_206, e161_206n, e161_207, e161_210, e161_212, e161_213, e161_216, e161_216n, e161_217, e161_220, e161_222, e161_223, e161_224, e161_227, e161_230, e161_230n, e161_231, e161_233, e161_236, e161_237, e161_240, e161_240n, e161_241, e161_244, e161_247, e161_247n, e161_248, e161_250, e161_253, e161_254, e161_257, e161_257n, e161_258, e161_261, e161_264, ↓reduceIte, zth_v, zth_n, zthv_s, zthi_s, zthm_s, true_or, or_true, eq_self, ne_eq, not_false_eq_true, not_true_eq_false, and_self, and_true, true_and, false_and, and_false, foMod_0, foMod_1, foMod_2, foMod_3, foMod_4, foMod_5, foMod_6, foMod_7, foMod_8, foMod_9, foMod_10, foMod_11, foMod_12, foMod_13, foMod_14, foMod_15, foMod_16, foMod_17, foMod_18, foMod_19, foMod_20, foMod_21, foMod_22, foMod_23, foMod_24, foMod_25, foMod_26, foMod_27, foMod_28, foMod_29, foMod_30, foMod_31, foMod_32, foMod_33, foMod_34, foMod_35, foMod_36, foMod_37, foMod_38, poMod_0, poMod_1, poMod_2, poMod_3, poMod_4, poMod_5, poMod_12, poMod_13, poMod_14, poMod_15, poMod_20, poMod_21, poMod_22, poMod_23, poMod_28, poMod_29, poMod_30, poMod_38, coMod, o44, hz44, o57, z57, x1, x2, g1, g2, ct, m1, m2, is, bo, i10, nI_1, Nat.reduceEqDiff]
          refine ⟨a', d6', d7', ?_⟩
          rw [st]
          rcases i1 with ⟨w1, b', e', w2⟩ | ⟨w1, w2⟩
          · rw [if_pos w1]
            exact Or.inl ⟨rfl, b', e', w2⟩
          · rw [if_neg w1]
            right
            refine ⟨by omega, ?_⟩
            rw [w2]
            dsimp only
            rw [← nI_1, ← nI_add, Int32.add_assoc b, Int32.add_comm 1, Int32.add_assoc e, Int32.add_comm (nI (gC q nl nr F r k d))]
end JR
