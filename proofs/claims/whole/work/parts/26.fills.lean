/-! A whole text; readings -/
def zpLs (g : Nat → Int32) (n : Nat) : Nat → Nat → Nat → (Nat → Int32) → Bool × Nat × Nat × (Nat → Int32)
  | 0, j, p, F => (true, p, j, F)
  | k + 1, j, p, F => if j = 0 ∨ znx g n p = 44 then (match zpL g n p with
      | (p', some x) => zpLs g n k (j + 1) p' (upd F j x)
      | (p', none) => (false, p', j, F)) else (true, p, j, F)
def zpRs (g : Nat → Int32) (n : Nat) : Nat → Nat → Nat → (Nat → zRD) → Bool × Nat × Nat × (Nat → zRD)
  | 0, j, p, r => (true, p, j, r)
  | k + 1, j, p, r => if j = 0 ∨ znx g n p = 59 then (match zpR g n p with
      | (p', some (a, b, d)) => zpRs g n k (j + 1) p' (va_up r j (a, b, d, 0, 0, 0))
      | (p', none) => (false, p', j, r)) else (true, p, j, r)
def zpF (g : Nat → Int32) (n : Nat) (F : Nat → Int32) (r : Nat → zRD) : Nat × Option (Int32 × Nat × (Nat → Int32) × Nat × (Nat → zRD)) :=
  if znx g n 0 = 114 then (match zdig g n 1 1 with
    | none => (1, none)
    | some c => (match zpLs g n 5 0 2 F with
      | (false, p, _, _) => (p, none)
      | (true, p, nl, F') => (match zpRs g n 5 0 p r with
        | (false, p', _, _) => (p', none)
        | (true, p', nr, r') => if p' = n then (p', some (c, nl, F', nr, r')) else (p', none)))) else (0, none)
theorem zpL_le {g : Nat → Int32} {n p p' : Nat} {x : Int32} (h : zpL g n p = (p', some x)) : p' ≤ n := by
  unfold zpL at h
  split at h
  · split at h
    · cases h
    · rename_i dx d1
      split at h
      · cases h
      · rename_i dy d2
        cases h
        obtain ⟨-, -, -, -, h4⟩ := zdig_of (by split <;> simp) d2
        exact h4
  · cases h
theorem zpR_le {g : Nat → Int32} {n p p' : Nat} {x : Int32 × Int32 × Int32} (h : zpR g n p = (p', some x)) : p' ≤ n := by
  unfold zpR at h
  split at h
  · split at h
    · cases h
    · split at h
      · cases h
      · split at h
        · cases h
        · rename_i dy d2
          cases h
          obtain ⟨-, -, -, -, h4⟩ := zdig_of (Or.inr rfl) d2
          exact h4
  · cases h
section FL
variable {t s i n sn B : Nat} {ln : Int32} {f : Nat → Int32}
theorem x_lands {nr : Nat} {c m : Int32} {r : Nat → zRD} {x : Option Value} (hin : i + n ≤ sn) (hts : t ≠ s ∧ t ≠ s + 1) (htB : t < B ∨ B + 7 < t) (hsB : s + 1 < B ∨ B + 7 < s) : ∀ (k j : Nat) (M : zMem) (p : Nat) (F : Nat → Int32), j + k = 5 → p ≤ n → zTx M t s i n p → zSh M s ln sn f → zNur M B c j nr m F r →
    match zpLs (fun q => f (i + q)) n k j p F with
    | (true, p', j', F') => ∃ M', ev 59 32 [some (.ref t), some (.ref B), x, some (.int (nI j))] [] M = ev 59 66 [some (.ref t), some (.ref B), x, some (.int (nI j'))] [] M' ∧ p' ≤ n ∧ zTx M' t s i n p' ∧ zNur M' B c j' nr m F' r ∧ zFx M M' t B
    | (false, p', j', F') => ∃ M', ev 59 32 [some (.ref t), some (.ref B), x, some (.int (nI j))] [] M = some (some (.int 0), M') ∧ zTx M' t s i n p' ∧ zNur M' B c j' nr m F' r ∧ zFx M M' t B := by
  intro k
  induction k with
  | zero =>
    intro j M p F hj hp h hS hN
    obtain rfl : j = 5 := by omega
    refine ⟨M, ?_, hp, h, hN, zFx.rf⟩
    have g1 : (5 : Int32) ≤ nI 5 := by decide
    simp only [e59_0, e59_0n, e59_1, e59_3, e59_6, e59_9, e59_10, e59_11, e59_11n, e59_12, e59_13, e59_16, e59_17, e59_18, e59_20, e59_23, e59_24, e59_25, e59_25n, e59_26, e59_27, e59_30, e59_31, e59_32, e59_33, e59_34, e59_37, e59_38, e59_41, e59_41n, e59_42, e59_45, e59_47, e59_50, e59_50n, e59_51, e59_51n, e59_52, e59_55, e59_58, e59_59, e59_60, e59_63, e59_67, e59_68, e59_69, e59_70, e59_73, e59_74, e59_77, e59_77n, e59_78, e59_81, e59_83, e59_86, e59_86n, e59_87, e59_87n, e59_88, e59_91, e59_94, e59_95, e59_96, e59_99, e59_102, e59_102n, e59_103, e59_106, e59_106n, e59_107, e59_110, e59_113, e59_114, e59_117, e59_118, ↓reduceIte, zth_v, zth_n, zthv_s, zthi_s, zthm_s, true_or, or_true, eq_self, ne_eq, not_false_eq_true, not_true_eq_false, and_self, and_true, true_and, false_and, and_false, g1]
  | succ k ih =>
    intro j M p F hj hp h hS hN
    have hn60 := hS.2.1
    have g1 : ¬ (5 : Int32) ≤ nI j := ni_nle (b := 5) (by omega) (by omega)
    have hz : zoc (mget M t) = some 6 := by rw [h.2]; exact coText
    have ht := h.1
    have a1 := x_next h hS hin (by omega)
    have a2 := x_fillsLand h hS hin (by omega) hts hN (by omega) htB
    rw [zpLs]
    by_cases q : j = 0 ∨ znx (fun q => f (i + q)) n p = 44
    · rw [if_pos q]
      have start : ev 59 32 [some (.ref t), some (.ref B), x, some (.int (nI j))] [] M = ev 59 50 [some (.ref t), some (.ref B), x, some (.int (nI j))] [] M := by
        by_cases j0 : j = 0
        · subst j0
          simp only [e59_0, e59_0n, e59_1, e59_3, e59_6, e59_9, e59_10, e59_11, e59_11n, e59_12, e59_13, e59_16, e59_17, e59_18, e59_20, e59_23, e59_24, e59_25, e59_25n, e59_26, e59_27, e59_30, e59_31, e59_32, e59_33, e59_34, e59_37, e59_38, e59_41, e59_41n, e59_42, e59_45, e59_47, e59_51, e59_51n, e59_52, e59_55, e59_58, e59_59, e59_60, e59_63, e59_66, e59_67, e59_68, e59_69, e59_70, e59_73, e59_74, e59_77, e59_77n, e59_78, e59_81, e59_83, e59_86, e59_86n, e59_87, e59_87n, e59_88, e59_91, e59_94, e59_95, e59_96, e59_99, e59_102, e59_102n, e59_103, e59_106, e59_106n, e59_107, e59_110, e59_113, e59_114, e59_117, e59_118, ↓reduceIte, zth_v, zth_n, zthv_s, zthi_s, zthm_s, true_or, or_true, eq_self, ne_eq, not_false_eq_true, not_true_eq_false, and_self, and_true, true_and, false_and, and_false, nI_0, show ((5 : Int32) ≤ 0) = False from by decide]
        · have z : znx (fun q => f (i + q)) n p = 44 := q.resolve_left j0
          have z0 : ¬ nI j = 0 := nI_ne0 (by omega) (by omega)
          simp only [e59_0, e59_0n, e59_1, e59_3, e59_6, e59_9, e59_10, e59_11, e59_11n, e59_12, e59_13, e59_16, e59_17, e59_18, e59_20, e59_23, e59_24, e59_25, e59_25n, e59_26, e59_27, e59_30, e59_31, e59_32, e59_33, e59_34, e59_37, e59_38, e59_41, e59_41n, e59_42, e59_45, e59_47, e59_51, e59_51n, e59_52, e59_55, e59_58, e59_59, e59_60, e59_63, e59_66, e59_67, e59_68, e59_69, e59_70, e59_73, e59_74, e59_77, e59_77n, e59_78, e59_81, e59_83, e59_86, e59_86n, e59_87, e59_87n, e59_88, e59_91, e59_94, e59_95, e59_96, e59_99, e59_102, e59_102n, e59_103, e59_106, e59_106n, e59_107, e59_110, e59_113, e59_114, e59_117, e59_118, ↓reduceIte, zth_v, zth_n, zthv_s, zthi_s, zthm_s, true_or, or_true, eq_self, ne_eq, not_false_eq_true, not_true_eq_false, and_self, and_true, true_and, false_and, and_false, g1, z0, hz, ht, a1, z]
      rw [start]
      revert a2
      match hL : zpL (fun q => f (i + q)) n p with
      | (p', some y) =>
        intro a2
        obtain ⟨M1, b1, b2, b3, b4⟩ := a2
        have ih := ih (j + 1) M1 p' (upd F j y) (by omega) (zpL_le hL) b2 (hS.fr (b4.2.2 _ (by omega) (by omega)) (b4.2.2 _ (by omega) (by omega))) b3
        dsimp only
        revert ih
        match zpLs (fun q => f (i + q)) n k (j + 1) p' (upd F j y) with
        | (true, p2, j2, F2) =>
          rintro ⟨M2, c1, c2, c3, c4, c5⟩
          refine ⟨M2, ?_, c2, c3, c4, zFx.tr b4 c5⟩
          rw [← c1]
          simp only [e59_0, e59_0n, e59_1, e59_3, e59_6, e59_9, e59_10, e59_11, e59_11n, e59_12, e59_13, e59_16, e59_17, e59_18, e59_20, e59_23, e59_24, e59_25, e59_25n, e59_26, e59_27, e59_30, e59_31, e59_33, e59_34, e59_37, e59_38, e59_41, e59_41n, e59_42, e59_45, e59_47, e59_50, e59_50n, e59_51, e59_51n, e59_52, e59_55, e59_58, e59_59, e59_60, e59_63, e59_67, e59_68, e59_69, e59_70, e59_73, e59_74, e59_77, e59_77n, e59_78, e59_81, e59_83, e59_86, e59_86n, e59_87, e59_87n, e59_88, e59_91, e59_94, e59_95, e59_96, e59_99, e59_102, e59_102n, e59_103, e59_106, e59_106n, e59_107, e59_110, e59_113, e59_114, e59_117, e59_118, ↓reduceIte, zth_v, zth_n, zthv_s, zthi_s, zthm_s, true_or, or_true, eq_self, ne_eq, not_false_eq_true, not_true_eq_false, and_self, and_true, true_and, false_and, and_false, hz, ht, b1, i10, nI_1]
        | (false, p2, j2, F2) =>
          rintro ⟨M2, c1, c3, c4, c5⟩
          refine ⟨M2, ?_, c3, c4, zFx.tr b4 c5⟩
          rw [← c1]
          simp only [e59_0, e59_0n, e59_1, e59_3, e59_6, e59_9, e59_10, e59_11, e59_11n, e59_12, e59_13, e59_16, e59_17, e59_18, e59_20, e59_23, e59_24, e59_25, e59_25n, e59_26, e59_27, e59_30, e59_31, e59_33, e59_34, e59_37, e59_38, e59_41, e59_41n, e59_42, e59_45, e59_47, e59_50, e59_50n, e59_51, e59_51n, e59_52, e59_55, e59_58, e59_59, e59_60, e59_63, e59_67, e59_68, e59_69, e59_70, e59_73, e59_74, e59_77, e59_77n, e59_78, e59_81, e59_83, e59_86, e59_86n, e59_87, e59_87n, e59_88, e59_91, e59_94, e59_95, e59_96, e59_99, e59_102, e59_102n, e59_103, e59_106, e59_106n, e59_107, e59_110, e59_113, e59_114, e59_117, e59_118, ↓reduceIte, zth_v, zth_n, zthv_s, zthi_s, zthm_s, true_or, or_true, eq_self, ne_eq, not_false_eq_true, not_true_eq_false, and_self, and_true, true_and, false_and, and_false, hz, ht, b1, i10, nI_1]
      | (p', none) =>
        intro a2
        obtain ⟨M1, b1, b2, b3, b4⟩ := a2
        refine ⟨M1, ?_, b2, b3, b4⟩
        simp only [e59_0, e59_0n, e59_1, e59_3, e59_6, e59_9, e59_10, e59_11, e59_11n, e59_12, e59_13, e59_16, e59_17, e59_18, e59_20, e59_23, e59_24, e59_25, e59_25n, e59_26, e59_27, e59_30, e59_31, e59_33, e59_34, e59_37, e59_38, e59_41, e59_41n, e59_42, e59_45, e59_47, e59_50, e59_50n, e59_51, e59_51n, e59_52, e59_55, e59_58, e59_59, e59_60, e59_63, e59_67, e59_68, e59_69, e59_70, e59_73, e59_74, e59_77, e59_77n, e59_78, e59_81, e59_83, e59_86, e59_86n, e59_87, e59_87n, e59_88, e59_91, e59_94, e59_95, e59_96, e59_99, e59_102, e59_102n, e59_103, e59_106, e59_106n, e59_107, e59_110, e59_113, e59_114, e59_117, e59_118, ↓reduceIte, zth_v, zth_n, zthv_s, zthi_s, zthm_s, true_or, or_true, eq_self, ne_eq, not_false_eq_true, not_true_eq_false, and_self, and_true, true_and, false_and, and_false, hz, ht, b1]
    · rw [if_neg q]
      simp only [not_or] at q
      refine ⟨M, ?_, hp, h, hN, zFx.rf⟩
      have z0 : ¬ nI j = 0 := nI_ne0 (by omega) (by omega)
      simp only [e59_0, e59_0n, e59_1, e59_3, e59_6, e59_9, e59_10, e59_11, e59_11n, e59_12, e59_13, e59_16, e59_17, e59_18, e59_20, e59_23, e59_24, e59_25, e59_25n, e59_26, e59_27, e59_30, e59_31, e59_32, e59_33, e59_34, e59_37, e59_38, e59_41, e59_41n, e59_42, e59_45, e59_47, e59_50, e59_50n, e59_51, e59_51n, e59_52, e59_55, e59_58, e59_59, e59_60, e59_63, e59_67, e59_68, e59_69, e59_70, e59_73, e59_74, e59_77, e59_77n, e59_78, e59_81, e59_83, e59_86, e59_86n, e59_87, e59_87n, e59_88, e59_91, e59_94, e59_95, e59_96, e59_99, e59_102, e59_102n, e59_103, e59_106, e59_106n, e59_107, e59_110, e59_113, e59_114, e59_117, e59_118, ↓reduceIte, zth_v, zth_n, zthv_s, zthi_s, zthm_s, true_or, or_true, eq_self, ne_eq, not_false_eq_true, not_true_eq_false, and_self, and_true, true_and, false_and, and_false, g1, z0, hz, ht, a1, q.2]
theorem x_riders {nl : Nat} {c m : Int32} {F : Nat → Int32} {x : Option Value} (hin : i + n ≤ sn) (hts : t ≠ s ∧ t ≠ s + 1) (htB : t < B ∨ B + 7 < t) (hsB : s + 1 < B ∨ B + 7 < s) : ∀ (k j : Nat) (M : zMem) (p : Nat) (r : Nat → zRD), j + k = 5 → p ≤ n → zTx M t s i n p → zSh M s ln sn f → zNur M B c nl j m F r →
    match zpRs (fun q => f (i + q)) n k j p r with
    | (true, p', j', r') => ∃ M', ev 59 68 [some (.ref t), some (.ref B), x, some (.int (nI j))] [] M = ev 59 102 [some (.ref t), some (.ref B), x, some (.int (nI j'))] [] M' ∧ p' ≤ n ∧ zTx M' t s i n p' ∧ zNur M' B c nl j' m F r' ∧ zFx M M' t B
    | (false, p', j', r') => ∃ M', ev 59 68 [some (.ref t), some (.ref B), x, some (.int (nI j))] [] M = some (some (.int 0), M') ∧ zTx M' t s i n p' ∧ zNur M' B c nl j' m F r' ∧ zFx M M' t B := by
  intro k
  induction k with
  | zero =>
    intro j M p r hj hp h hS hN
    obtain rfl : j = 5 := by omega
    refine ⟨M, ?_, hp, h, hN, zFx.rf⟩
    have g1 : (5 : Int32) ≤ nI 5 := by decide
    simp only [e59_0, e59_0n, e59_1, e59_3, e59_6, e59_9, e59_10, e59_11, e59_11n, e59_12, e59_13, e59_16, e59_17, e59_18, e59_20, e59_23, e59_24, e59_25, e59_25n, e59_26, e59_27, e59_30, e59_31, e59_32, e59_33, e59_34, e59_37, e59_38, e59_41, e59_41n, e59_42, e59_45, e59_47, e59_50, e59_50n, e59_51, e59_51n, e59_52, e59_55, e59_58, e59_59, e59_60, e59_63, e59_66, e59_67, e59_68, e59_69, e59_70, e59_73, e59_74, e59_77, e59_77n, e59_78, e59_81, e59_83, e59_86, e59_86n, e59_87, e59_87n, e59_88, e59_91, e59_94, e59_95, e59_96, e59_99, e59_103, e59_106, e59_106n, e59_107, e59_110, e59_113, e59_114, e59_117, e59_118, ↓reduceIte, zth_v, zth_n, zthv_s, zthi_s, zthm_s, true_or, or_true, eq_self, ne_eq, not_false_eq_true, not_true_eq_false, and_self, and_true, true_and, false_and, and_false, g1]
  | succ k ih =>
    intro j M p r hj hp h hS hN
    have hn60 := hS.2.1
    have g1 : ¬ (5 : Int32) ≤ nI j := ni_nle (b := 5) (by omega) (by omega)
    have hz : zoc (mget M t) = some 6 := by rw [h.2]; exact coText
    have ht := h.1
    have a1 := x_next h hS hin (by omega)
    have a2 := x_fillsRider h hS hin (by omega) hts hN (by omega) htB
    rw [zpRs]
    by_cases q : j = 0 ∨ znx (fun q => f (i + q)) n p = 59
    · rw [if_pos q]
      have start : ev 59 68 [some (.ref t), some (.ref B), x, some (.int (nI j))] [] M = ev 59 86 [some (.ref t), some (.ref B), x, some (.int (nI j))] [] M := by
        by_cases j0 : j = 0
        · subst j0
          simp only [e59_0, e59_0n, e59_1, e59_3, e59_6, e59_9, e59_10, e59_11, e59_11n, e59_12, e59_13, e59_16, e59_17, e59_18, e59_20, e59_23, e59_24, e59_25, e59_25n, e59_26, e59_27, e59_30, e59_31, e59_32, e59_33, e59_34, e59_37, e59_38, e59_41, e59_41n, e59_42, e59_45, e59_47, e59_50, e59_50n, e59_51, e59_51n, e59_52, e59_55, e59_58, e59_59, e59_60, e59_63, e59_66, e59_67, e59_68, e59_69, e59_70, e59_73, e59_74, e59_77, e59_77n, e59_78, e59_81, e59_83, e59_87, e59_87n, e59_88, e59_91, e59_94, e59_95, e59_96, e59_99, e59_102, e59_102n, e59_103, e59_106, e59_106n, e59_107, e59_110, e59_113, e59_114, e59_117, e59_118, ↓reduceIte, zth_v, zth_n, zthv_s, zthi_s, zthm_s, true_or, or_true, eq_self, ne_eq, not_false_eq_true, not_true_eq_false, and_self, and_true, true_and, false_and, and_false, nI_0, show ((5 : Int32) ≤ 0) = False from by decide]
        · have z : znx (fun q => f (i + q)) n p = 59 := q.resolve_left j0
          have z0 : ¬ nI j = 0 := nI_ne0 (by omega) (by omega)
          simp only [e59_0, e59_0n, e59_1, e59_3, e59_6, e59_9, e59_10, e59_11, e59_11n, e59_12, e59_13, e59_16, e59_17, e59_18, e59_20, e59_23, e59_24, e59_25, e59_25n, e59_26, e59_27, e59_30, e59_31, e59_32, e59_33, e59_34, e59_37, e59_38, e59_41, e59_41n, e59_42, e59_45, e59_47, e59_50, e59_50n, e59_51, e59_51n, e59_52, e59_55, e59_58, e59_59, e59_60, e59_63, e59_66, e59_67, e59_68, e59_69, e59_70, e59_73, e59_74, e59_77, e59_77n, e59_78, e59_81, e59_83, e59_87, e59_87n, e59_88, e59_91, e59_94, e59_95, e59_96, e59_99, e59_102, e59_102n, e59_103, e59_106, e59_106n, e59_107, e59_110, e59_113, e59_114, e59_117, e59_118, ↓reduceIte, zth_v, zth_n, zthv_s, zthi_s, zthm_s, true_or, or_true, eq_self, ne_eq, not_false_eq_true, not_true_eq_false, and_self, and_true, true_and, false_and, and_false, g1, z0, hz, ht, a1, z]
      rw [start]
      revert a2
      match hL : zpR (fun q => f (i + q)) n p with
      | (p', some (y1, y2, y3)) =>
        intro a2
        obtain ⟨M1, b1, b2, b3, b4⟩ := a2
        have ih := ih (j + 1) M1 p' (va_up r j (y1, y2, y3, 0, 0, 0)) (by omega) (zpR_le hL) b2 (hS.fr (b4.2.2 _ (by omega) (by omega)) (b4.2.2 _ (by omega) (by omega))) b3
        dsimp only
        revert ih
        match zpRs (fun q => f (i + q)) n k (j + 1) p' (va_up r j (y1, y2, y3, 0, 0, 0)) with
        | (true, p2, j2, F2) =>
          rintro ⟨M2, c1, c2, c3, c4, c5⟩
          refine ⟨M2, ?_, c2, c3, c4, zFx.tr b4 c5⟩
          rw [← c1]
          simp only [e59_0, e59_0n, e59_1, e59_3, e59_6, e59_9, e59_10, e59_11, e59_11n, e59_12, e59_13, e59_16, e59_17, e59_18, e59_20, e59_23, e59_24, e59_25, e59_25n, e59_26, e59_27, e59_30, e59_31, e59_32, e59_33, e59_34, e59_37, e59_38, e59_41, e59_41n, e59_42, e59_45, e59_47, e59_50, e59_50n, e59_51, e59_51n, e59_52, e59_55, e59_58, e59_59, e59_60, e59_63, e59_66, e59_67, e59_69, e59_70, e59_73, e59_74, e59_77, e59_77n, e59_78, e59_81, e59_83, e59_86, e59_86n, e59_87, e59_87n, e59_88, e59_91, e59_94, e59_95, e59_96, e59_99, e59_103, e59_106, e59_106n, e59_107, e59_110, e59_113, e59_114, e59_117, e59_118, ↓reduceIte, zth_v, zth_n, zthv_s, zthi_s, zthm_s, true_or, or_true, eq_self, ne_eq, not_false_eq_true, not_true_eq_false, and_self, and_true, true_and, false_and, and_false, hz, ht, b1, i10, nI_1]
        | (false, p2, j2, F2) =>
          rintro ⟨M2, c1, c3, c4, c5⟩
          refine ⟨M2, ?_, c3, c4, zFx.tr b4 c5⟩
          rw [← c1]
          simp only [e59_0, e59_0n, e59_1, e59_3, e59_6, e59_9, e59_10, e59_11, e59_11n, e59_12, e59_13, e59_16, e59_17, e59_18, e59_20, e59_23, e59_24, e59_25, e59_25n, e59_26, e59_27, e59_30, e59_31, e59_32, e59_33, e59_34, e59_37, e59_38, e59_41, e59_41n, e59_42, e59_45, e59_47, e59_50, e59_50n, e59_51, e59_51n, e59_52, e59_55, e59_58, e59_59, e59_60, e59_63, e59_66, e59_67, e59_69, e59_70, e59_73, e59_74, e59_77, e59_77n, e59_78, e59_81, e59_83, e59_86, e59_86n, e59_87, e59_87n, e59_88, e59_91, e59_94, e59_95, e59_96, e59_99, e59_103, e59_106, e59_106n, e59_107, e59_110, e59_113, e59_114, e59_117, e59_118, ↓reduceIte, zth_v, zth_n, zthv_s, zthi_s, zthm_s, true_or, or_true, eq_self, ne_eq, not_false_eq_true, not_true_eq_false, and_self, and_true, true_and, false_and, and_false, hz, ht, b1, i10, nI_1]
      | (p', none) =>
        intro a2
        obtain ⟨M1, b1, b2, b3, b4⟩ := a2
        refine ⟨M1, ?_, b2, b3, b4⟩
        simp only [e59_0, e59_0n, e59_1, e59_3, e59_6, e59_9, e59_10, e59_11, e59_11n, e59_12, e59_13, e59_16, e59_17, e59_18, e59_20, e59_23, e59_24, e59_25, e59_25n, e59_26, e59_27, e59_30, e59_31, e59_32, e59_33, e59_34, e59_37, e59_38, e59_41, e59_41n, e59_42, e59_45, e59_47, e59_50, e59_50n, e59_51, e59_51n, e59_52, e59_55, e59_58, e59_59, e59_60, e59_63, e59_66, e59_67, e59_69, e59_70, e59_73, e59_74, e59_77, e59_77n, e59_78, e59_81, e59_83, e59_86, e59_86n, e59_87, e59_87n, e59_88, e59_91, e59_94, e59_95, e59_96, e59_99, e59_103, e59_106, e59_106n, e59_107, e59_110, e59_113, e59_114, e59_117, e59_118, ↓reduceIte, zth_v, zth_n, zthv_s, zthi_s, zthm_s, true_or, or_true, eq_self, ne_eq, not_false_eq_true, not_true_eq_false, and_self, and_true, true_and, false_and, and_false, hz, ht, b1]
    · rw [if_neg q]
      simp only [not_or] at q
      refine ⟨M, ?_, hp, h, hN, zFx.rf⟩
      have z0 : ¬ nI j = 0 := nI_ne0 (by omega) (by omega)
      simp only [e59_0, e59_0n, e59_1, e59_3, e59_6, e59_9, e59_10, e59_11, e59_11n, e59_12, e59_13, e59_16, e59_17, e59_18, e59_20, e59_23, e59_24, e59_25, e59_25n, e59_26, e59_27, e59_30, e59_31, e59_32, e59_33, e59_34, e59_37, e59_38, e59_41, e59_41n, e59_42, e59_45, e59_47, e59_50, e59_50n, e59_51, e59_51n, e59_52, e59_55, e59_58, e59_59, e59_60, e59_63, e59_66, e59_67, e59_68, e59_69, e59_70, e59_73, e59_74, e59_77, e59_77n, e59_78, e59_81, e59_83, e59_86, e59_86n, e59_87, e59_87n, e59_88, e59_91, e59_94, e59_95, e59_96, e59_99, e59_103, e59_106, e59_106n, e59_107, e59_110, e59_113, e59_114, e59_117, e59_118, ↓reduceIte, zth_v, zth_n, zthv_s, zthi_s, zthm_s, true_or, or_true, eq_self, ne_eq, not_false_eq_true, not_true_eq_false, and_self, and_true, true_and, false_and, and_false, g1, z0, hz, ht, a1, q.2]
theorem x_fills {M : zMem} {nl nr : Nat} {c m : Int32} {F : Nat → Int32} {r : Nat → zRD} (h : zTx M t s i n 0) (hS : zSh M s ln sn f) (hin : i + n ≤ sn) (hts : t ≠ s ∧ t ≠ s + 1) (htB : t < B ∨ B + 7 < t) (hsB : s + 1 < B ∨ B + 7 < s) (hN : zNur M B c nl nr m F r) :
    match zpF (fun q => f (i + q)) n F r with
    | (p', some (c', nl', F', nr', r')) => ∃ M', ev 59 0 [some (.ref t), some (.ref B), none, none] [] M = some (some (.int 1), M') ∧ zNur M' B c' nl' nr' 0 F' r' ∧ zTx M' t s i n p' ∧ zFx M M' t B
    | (p', none) => ∃ M', ev 59 0 [some (.ref t), some (.ref B), none, none] [] M = some (some (.int 0), M') ∧ zTx M' t s i n p' ∧ (∃ c' nl' nr' m' F' r', zNur M' B c' nl' nr' m' F' r') ∧ zFx M M' t B := by
  have hn60 := hS.2.1
  have ht := h.1
  have hz : zoc (mget M t) = some 6 := by rw [h.2]; exact coText
  have zt : ∀ {q : Nat}, zoc (mget (mset M t (oText s (nI i) (nI n) (nI q))) t) = some 6 := by intro q; rw [mget_self]; exact coText
  have nf : ∀ {M : zMem} {q : Nat}, zNur M B c nl nr m F r → zNur (mset M t (oText s (nI i) (nI n) (nI q))) B c nl nr m F r := fun z => z.fr fun a _ _ => mget_ne (by omega)
  have sf : ∀ {M : zMem} {q : Nat}, zSh M s ln sn f → zSh (mset M t (oText s (nI i) (nI n) (nI q))) s ln sn f := fun z => z.fr (mget_ne (by omega)) (mget_ne (by omega))
  have a1 := x_takes h hS hin (by omega) (x := 114)
  unfold zpF
  by_cases q1 : znx (fun q => f (i + q)) n 0 = 114
  · rw [if_pos q1]
    rw [if_pos q1] at a1
    have h2 := h.set (q := 1)
    have a2 := x_takesDigit h2 (sf hS) hin (by omega) (lo := 1)
    cases d1 : zdig (fun q => f (i + q)) n 1 1 with
    | none =>
      rw [d1] at a2
      refine ⟨_, ?_, h2, ⟨_, _, _, _, _, _, nf hN⟩, zFx.ofT⟩
      simp only [e59_0, e59_0n, e59_1, e59_3, e59_6, e59_9, e59_10, e59_11, e59_11n, e59_12, e59_13, e59_16, e59_17, e59_18, e59_20, e59_23, e59_24, e59_25, e59_25n, e59_26, e59_27, e59_30, e59_31, e59_32, e59_33, e59_34, e59_37, e59_38, e59_41, e59_41n, e59_42, e59_45, e59_47, e59_50, e59_50n, e59_51, e59_51n, e59_52, e59_55, e59_58, e59_59, e59_60, e59_63, e59_66, e59_67, e59_68, e59_69, e59_70, e59_73, e59_74, e59_77, e59_77n, e59_78, e59_81, e59_83, e59_86, e59_86n, e59_87, e59_87n, e59_88, e59_91, e59_94, e59_95, e59_96, e59_99, e59_102, e59_102n, e59_103, e59_106, e59_106n, e59_107, e59_110, e59_113, e59_114, e59_117, e59_118, ↓reduceIte, zth_v, zth_n, zthv_s, zthi_s, zthm_s, true_or, or_true, eq_self, ne_eq, not_false_eq_true, not_true_eq_false, and_self, and_true, true_and, false_and, and_false, hz, zt, ht, a1, a2, i10]
    | some x =>
      rw [d1] at a2
      obtain ⟨dx, dx1, rfl, -, hn1⟩ := zdig_of (Or.inr rfl) d1
      have e0 := nI_n9 dx1
      simp only [mset_mset] at a2
      have h3 := h.set (q := 2)
      obtain ⟨M1, b1, b2, b3⟩ := n_begins (nf (q := 2) hN) (c' := nI dx)
      have hzB : zoc (mget (mset M t (oText s (nI i) (nI n) (nI 2))) B) = some 1 := by rw [mget_ne (by omega), hN.2.2.2.1]; exact coNur
      have t1 : zTx M1 t s i n 2 := ⟨ht, (b3.2.2 t (by omega)).trans mget_self⟩
      have s1 : zSh M1 s ln sn f := (sf (q := 2) hS).fr (b3.2.2 _ (by omega)) (b3.2.2 _ (by omega))
      have fx1 : zFx M M1 t B := zFx.tr zFx.ofT (zFx.ofB b3)
      have L := x_lands hin hts htB hsB 5 0 M1 2 F (x := some (.int (nI dx))) (by omega) (by omega) t1 s1 b2
      have start : ev 59 0 [some (.ref t), some (.ref B), none, none] [] M = ev 59 32 [some (.ref t), some (.ref B), some (.int (nI dx)), some (.int (nI 0))] [] M1 := by
        simp only [e59_0, e59_0n, e59_1, e59_3, e59_6, e59_9, e59_10, e59_11, e59_11n, e59_12, e59_13, e59_16, e59_17, e59_18, e59_20, e59_23, e59_24, e59_25, e59_25n, e59_26, e59_27, e59_30, e59_31, e59_33, e59_34, e59_37, e59_38, e59_41, e59_41n, e59_42, e59_45, e59_47, e59_50, e59_50n, e59_51, e59_51n, e59_52, e59_55, e59_58, e59_59, e59_60, e59_63, e59_66, e59_67, e59_68, e59_69, e59_70, e59_73, e59_74, e59_77, e59_77n, e59_78, e59_81, e59_83, e59_86, e59_86n, e59_87, e59_87n, e59_88, e59_91, e59_94, e59_95, e59_96, e59_99, e59_102, e59_102n, e59_103, e59_106, e59_106n, e59_107, e59_110, e59_113, e59_114, e59_117, e59_118, ↓reduceIte, zth_v, zth_n, zthv_s, zthi_s, zthm_s, true_or, or_true, eq_self, ne_eq, not_false_eq_true, not_true_eq_false, and_self, and_true, true_and, false_and, and_false, hz, zt, hzB, hN.1, ht, a1, a2, i10, e0, b1, nI_0]
      rw [start]
      dsimp only
      revert L
      match zpLs (fun q => f (i + q)) n 5 0 2 F with
      | (false, p2, j2, F2) =>
        rintro ⟨M2, c1, c3, c4, c5⟩
        exact ⟨M2, c1, c3, ⟨_, _, _, _, _, _, c4⟩, zFx.tr fx1 c5⟩
      | (true, p2, j2, F2) =>
        rintro ⟨M2, c1, c2, c3, c4, c5⟩
        have s2 : zSh M2 s ln sn f := s1.fr (c5.2.2 _ (by omega) (by omega)) (c5.2.2 _ (by omega) (by omega))
        have Rr := x_riders hin hts htB hsB 5 0 M2 p2 r (x := some (.int (nI dx))) (by omega) c2 c3 s2 c4
        have start2 : ev 59 66 [some (.ref t), some (.ref B), some (.int (nI dx)), some (.int (nI j2))] [] M2 = ev 59 68 [some (.ref t), some (.ref B), some (.int (nI dx)), some (.int (nI 0))] [] M2 := by
          simp only [e59_0, e59_0n, e59_1, e59_3, e59_6, e59_9, e59_10, e59_11, e59_11n, e59_12, e59_13, e59_16, e59_17, e59_18, e59_20, e59_23, e59_24, e59_25, e59_25n, e59_26, e59_27, e59_30, e59_31, e59_32, e59_33, e59_34, e59_37, e59_38, e59_41, e59_41n, e59_42, e59_45, e59_47, e59_50, e59_50n, e59_51, e59_51n, e59_52, e59_55, e59_58, e59_59, e59_60, e59_63, e59_66, e59_67, e59_69, e59_70, e59_73, e59_74, e59_77, e59_77n, e59_78, e59_81, e59_83, e59_86, e59_86n, e59_87, e59_87n, e59_88, e59_91, e59_94, e59_95, e59_96, e59_99, e59_102, e59_102n, e59_103, e59_106, e59_106n, e59_107, e59_110, e59_113, e59_114, e59_117, e59_118, ↓reduceIte, zth_v, zth_n, zthv_s, zthi_s, zthm_s, true_or, or_true, eq_self, ne_eq, not_false_eq_true, not_true_eq_false, and_self, and_true, true_and, false_and, and_false, nI_0]
        rw [c1, start2]
        dsimp only
        revert Rr
        match zpRs (fun q => f (i + q)) n 5 0 p2 r with
        | (false, p3, j3, r3) =>
          rintro ⟨M3, d1, d3, d4, d5⟩
          exact ⟨M3, d1, d3, ⟨_, _, _, _, _, _, d4⟩, zFx.tr (zFx.tr fx1 c5) d5⟩
        | (true, p3, j3, r3) =>
          rintro ⟨M3, d1, d2, d3, d4, d5⟩
          have fx3 := zFx.tr (zFx.tr fx1 c5) d5
          rw [d1]
          obtain ⟨-, d30⟩ := id d3
          by_cases q3 : p3 = n
          · subst q3
            simp only [if_true]
            refine ⟨M3, ?_, d4, d3, fx3⟩
            simp only [e59_0, e59_0n, e59_1, e59_3, e59_6, e59_9, e59_10, e59_11, e59_11n, e59_12, e59_13, e59_16, e59_17, e59_18, e59_20, e59_23, e59_24, e59_25, e59_25n, e59_26, e59_27, e59_30, e59_31, e59_32, e59_33, e59_34, e59_37, e59_38, e59_41, e59_41n, e59_42, e59_45, e59_47, e59_50, e59_50n, e59_51, e59_51n, e59_52, e59_55, e59_58, e59_59, e59_60, e59_63, e59_66, e59_67, e59_68, e59_69, e59_70, e59_73, e59_74, e59_77, e59_77n, e59_78, e59_81, e59_83, e59_86, e59_86n, e59_87, e59_87n, e59_88, e59_91, e59_94, e59_95, e59_96, e59_99, e59_102, e59_102n, e59_103, e59_106, e59_106n, e59_107, e59_110, e59_113, e59_114, e59_117, e59_118, ↓reduceIte, zth_v, zth_n, zthv_s, zthi_s, zthm_s, true_or, or_true, eq_self, ne_eq, not_false_eq_true, not_true_eq_false, and_self, and_true, true_and, false_and, and_false, foText_0, foText_1, foText_2, foText_3, poText_1, poText_2, poText_3, coText, d30, ht]
          · simp only [if_neg q3]
            refine ⟨M3, ?_, d3, ⟨_, _, _, _, _, _, d4⟩, fx3⟩
            have z : ¬ nI p3 = nI n := fun z => q3 ((nI_eq (by omega) (by omega)).mp z)
            simp only [e59_0, e59_0n, e59_1, e59_3, e59_6, e59_9, e59_10, e59_11, e59_11n, e59_12, e59_13, e59_16, e59_17, e59_18, e59_20, e59_23, e59_24, e59_25, e59_25n, e59_26, e59_27, e59_30, e59_31, e59_32, e59_33, e59_34, e59_37, e59_38, e59_41, e59_41n, e59_42, e59_45, e59_47, e59_50, e59_50n, e59_51, e59_51n, e59_52, e59_55, e59_58, e59_59, e59_60, e59_63, e59_66, e59_67, e59_68, e59_69, e59_70, e59_73, e59_74, e59_77, e59_77n, e59_78, e59_81, e59_83, e59_86, e59_86n, e59_87, e59_87n, e59_88, e59_91, e59_94, e59_95, e59_96, e59_99, e59_102, e59_102n, e59_103, e59_106, e59_106n, e59_107, e59_110, e59_113, e59_114, e59_117, e59_118, ↓reduceIte, zth_v, zth_n, zthv_s, zthi_s, zthm_s, true_or, or_true, eq_self, ne_eq, not_false_eq_true, not_true_eq_false, and_self, and_true, true_and, false_and, and_false, foText_0, foText_1, foText_2, foText_3, poText_1, poText_2, poText_3, coText, d30, ht, z]
  · rw [if_neg q1]
    rw [if_neg q1] at a1
    refine ⟨M, ?_, h, ⟨_, _, _, _, _, _, hN⟩, zFx.rf⟩
    simp only [e59_0, e59_0n, e59_1, e59_3, e59_6, e59_9, e59_10, e59_11, e59_11n, e59_12, e59_13, e59_16, e59_17, e59_18, e59_20, e59_23, e59_24, e59_25, e59_25n, e59_26, e59_27, e59_30, e59_31, e59_32, e59_33, e59_34, e59_37, e59_38, e59_41, e59_41n, e59_42, e59_45, e59_47, e59_50, e59_50n, e59_51, e59_51n, e59_52, e59_55, e59_58, e59_59, e59_60, e59_63, e59_66, e59_67, e59_68, e59_69, e59_70, e59_73, e59_74, e59_77, e59_77n, e59_78, e59_81, e59_83, e59_86, e59_86n, e59_87, e59_87n, e59_88, e59_91, e59_94, e59_95, e59_96, e59_99, e59_102, e59_102n, e59_103, e59_106, e59_106n, e59_107, e59_110, e59_113, e59_114, e59_117, e59_118, ↓reduceIte, zth_v, zth_n, zthv_s, zthi_s, zthm_s, true_or, or_true, eq_self, ne_eq, not_false_eq_true, not_true_eq_false, and_self, and_true, true_and, false_and, and_false, hz, ht, a1]
end FL
-- readings
def zRead (M : zMem) (a n : Nat) (o m w : Nat → Int32) : Prop := a ≠ 0 ∧ n ≤ 8 ∧ mget M a = some (oRead (a + 1) (a + 2) (a + 3) (nI n)) ∧ mget M (a + 1) = some (.inl (8, o)) ∧ mget M (a + 2) = some (.inl (8, m)) ∧ mget M (a + 3) = some (.inl (8, w))
theorem zRead.fr {M M' : zMem} {a n : Nat} {o m w : Nat → Int32} (h : zRead M a n o m w) (hf : ∀ b, a ≤ b → b ≤ a + 3 → mget M' b = mget M b) : zRead M' a n o m w := ⟨h.1, h.2.1, (hf _ (by omega) (by omega)).trans h.2.2.1, (hf _ (by omega) (by omega)).trans h.2.2.2.1, (hf _ (by omega) (by omega)).trans h.2.2.2.2.1, (hf _ (by omega) (by omega)).trans h.2.2.2.2.2⟩
theorem r_has {M : zMem} {a n : Nat} {o m w : Nat → Int32} (h : zRead M a n o m w) {j : Nat} (hj : j < 8) : ev 37 0 [some (.ref a), some (.int (nI j))] [] M = some (some (.int 1), M) := by
  obtain ⟨ha, hn, h1, h2, h3, h4⟩ := h
  have g2 : ¬ nI 8 ≤ nI j := ni_nle (by omega) (by omega)
  have g3 : ¬ nI j < 0 := nI_pos (by omega)
  simp only [e37_0, e37_1, e37_4, e37_5, e37_5n, e37_6, e37_9, e37_10, e37_13, e37_14, e37_14n, e37_15, e37_18, e37_19, e37_22, e37_23, e37_23n, e37_24, e37_27, e37_28, e37_31, e37_32, e37_35, e37_36, ↓reduceIte, zth_v, zth_n, zthv_s, zthi_s, zthm_s, true_or, or_true, eq_self, ne_eq, not_false_eq_true, not_true_eq_false, and_self, and_true, true_and, false_and, and_false, foRead_0, foRead_1, foRead_2, foRead_3, poRead_3, coRead, h1, h2, h3, h4, ha, zal_i, g2, g3]
theorem r_adds {M : zMem} {a n : Nat} {o m w : Nat → Int32} (h : zRead M a n o m w) (hn : n < 8) {k t v : Int32} : ∃ M', ev 34 0 [some (.ref a), some (.int k), some (.int t), some (.int v)] [] M = some (none, M') ∧ zRead M' a (n + 1) (upd o n k) (upd m n t) (upd w n v) ∧ zFr M M' a (a + 3) := by
  have h9 := r_has h hn
  obtain ⟨ha, hn8, h1, h2, h3, h4⟩ := h
  refine ⟨mset (mset (mset (mset M (a + 1) (.inl (8, upd o n k))) (a + 2) (.inl (8, upd m n t))) (a + 3) (.inl (8, upd w n v))) a (oRead (a + 1) (a + 2) (a + 3) (nI (n + 1))), ?_, ⟨ha, by omega, mget_self, ?_, ?_, ?_⟩, (((zFr.rf.set (by omega) (by omega)).set (by omega) (by omega)).set (by omega) (by omega)).set (by omega) (by omega)⟩
  · have g1 := zis_in (n := 8) (f := o) (x := k) hn (by omega)
    have g2 := zis_in (n := 8) (f := m) (x := t) hn (by omega)
    have g3 := zis_in (n := 8) (f := w) (x := v) hn (by omega)
    have z1 : a + 1 ≠ 0 := by omega
    have z2 : a + 2 ≠ 0 := by omega
    have z3 : a + 3 ≠ 0 := by omega
    have y1 : a ≠ a + 1 := by omega
    have y2 : a ≠ a + 2 := by omega
    have y3 : a ≠ a + 3 := by omega
    have y4 : a + 2 ≠ a + 1 := by omega
    have y5 : a + 3 ≠ a + 1 := by omega
    have y6 : a + 3 ≠ a + 2 := by omega
    simp only [e34_0, e34_0n, e34_1, e34_1n, e34_2, e34_5, e34_8, e34_11, e34_11n, e34_12, e34_15, e34_15n, e34_16, e34_19, e34_20, e34_21, e34_21n, e34_22, e34_25, e34_25n, e34_26, e34_29, e34_30, e34_31, e34_31n, e34_32, e34_35, e34_35n, e34_36, e34_39, e34_40, e34_41, e34_41n, e34_42, e34_43, e34_46, e34_47, e34_48, e34_51, ↓reduceIte, zth_v, zth_n, zthv_s, zthi_s, zthm_s, true_or, or_true, eq_self, ne_eq, not_false_eq_true, not_true_eq_false, and_self, and_true, true_and, false_and, and_false, foRead_0, foRead_1, foRead_2, foRead_3, poRead_3, coRead, h1, h2, h3, h4, ha, h9, i10, g1, g2, g3, z1, z2, z3, mget_set, y1, y2, y3, y4, y5, y6, nI_1]
  · rw [mget_ne (by omega), mget_ne (by omega), mget_ne (by omega), mget_self]
  · rw [mget_ne (by omega), mget_ne (by omega), mget_self]
  · rw [mget_ne (by omega), mget_self]
theorem r_paceIn {M : zMem} {B nl nr : Nat} {c m : Int32} {F : Nat → Int32} {r : Nat → zRD} (h : zNur M B c nl nr m F r) {j : Nat} (hj : j < nr) : ev 36 0 [some (.ref B), some (.int (nI j)), none] [] M = some (some (.int (zpace (r j).1 (r j).2.1)), M) := by
  have h9 := n_riderAt_in h hj
  obtain ⟨hB, hl, hr, h1, h2, ⟨g, h3, hg⟩, h4, h5⟩ := h
  have g3 : B + 3 + j ≠ 0 := by omega
  simp only [e36_0, e36_0n, e36_1, e36_2, e36_5, e36_5n, e36_6, e36_6n, e36_7, e36_7n, e36_10, e36_11, e36_14, e36_14n, e36_15, e36_18, e36_18n, e36_19, e36_22, e36_25, ↓reduceIte, zth_v, zth_n, zthv_s, zthi_s, zthm_s, true_or, or_true, eq_self, ne_eq, not_false_eq_true, not_true_eq_false, and_self, and_true, true_and, false_and, and_false, foNur_0, foNur_1, foNur_2, foNur_3, foNur_4, foNur_5, poNur_2, poNur_3, poNur_4, poNur_5, coNur, foRid_0, foRid_1, foRid_2, foRid_3, foRid_4, foRid_5, poRid_0, poRid_1, poRid_2, poRid_3, poRid_4, poRid_5a, poRid_5b, coRid, h1, hB, h9, g3, h4 j (by omega), t_pace]
def zall (g : Nat → Bool) : Nat → Nat → Int32
  | 0, _ => 1
  | k + 1, j => if g j = true then zall g k (j + 1) else 0
def zsoC (c : Int32) (r : Nat → zRD) (o m w : Nat → Int32) (k kd ln : Int32) (i : Nat) : Bool := decide (zquo ((if o i = k then zpace kd ln else zpace (r (o i).toNatClampNeg).1 (r (o i).toNatClampNeg).2.1) * m i) c = w i)
theorem r_so_loop {M : zMem} {a n : Nat} {o mm w : Nat → Int32} (h : zRead M a n o mm w) {B nl nr : Nat} {c m : Int32} {F : Nat → Int32} {r : Nat → zRD} (hN : zNur M B c nl nr m F r) (ho : ∀ i, i < n → ∃ j, j < nr ∧ o i = nI j) {k kd ln cr : Int32} : ∀ q j d, j + q = n → ev 35 3 [some (.ref a), some (.ref B), some (.int k), some (.int kd), some (.int ln), some (.int cr), some (.int (nI j)), d] [] M = some (some (.int (zall (zsoC cr r o mm w k kd ln) q j)), M) := by
  have h8 := fun j (hj : j < 8) => r_has h hj
  obtain ⟨ha, hn8, h1, h2, h3, h4⟩ := h
  intro q
  induction q with
  | zero =>
    intro j d hj
    obtain rfl : j = n := by omega
    have g1 : nI j ≤ nI j := ni_ge (Nat.le_refl _) (by omega)
    simp only [e35_0, e35_1, e35_3, e35_5, e35_5n, e35_6, e35_9, e35_12, e35_12n, e35_13, e35_15, e35_18, e35_21, e35_22, e35_23, e35_23n, e35_24, e35_27, e35_29, e35_30, e35_31, e35_34, e35_35, e35_37, e35_40, e35_43, e35_43n, e35_44, e35_44n, e35_45, e35_48, e35_50, e35_51, e35_54, e35_56, e35_58, e35_58n, e35_59, e35_62, e35_64, e35_65, e35_66, e35_68, e35_71, e35_71n, e35_72, e35_75, e35_77, e35_78, e35_81, e35_82, e35_83, e35_86, e35_89, e35_90, ↓reduceIte, zth_v, zth_n, zthv_s, zthi_s, zthm_s, true_or, or_true, eq_self, ne_eq, not_false_eq_true, not_true_eq_false, and_self, and_true, true_and, false_and, and_false, foRead_0, foRead_1, foRead_2, foRead_3, poRead_3, coRead, h1, ha, g1, zall]
  | succ q ih =>
    intro j d hj
    have g1 : ¬ nI n ≤ nI j := ni_nle (by omega) (by omega)
    have ih := fun d => ih (j + 1) d (by omega)
    obtain ⟨u, hu, hou⟩ := ho j (by omega)
    have h9 := r_paceIn hN hu
    have hnr := hN.2.2.1
    have z1 := zia_in (n := 8) (f := o) (show j < 8 by omega) (by omega)
    have z2 := zia_in (n := 8) (f := mm) (show j < 8 by omega) (by omega)
    have z3 := zia_in (n := 8) (f := w) (show j < 8 by omega) (by omega)
    rw [zall]
    unfold zsoC
    rw [e35_3]
    by_cases q1 : nI u = k
    · simp only [e35_0, e35_1, e35_5, e35_5n, e35_6, e35_9, e35_12, e35_12n, e35_13, e35_15, e35_18, e35_21, e35_22, e35_23, e35_23n, e35_24, e35_27, e35_29, e35_30, e35_31, e35_34, e35_35, e35_37, e35_40, e35_43, e35_43n, e35_44, e35_44n, e35_45, e35_48, e35_50, e35_51, e35_54, e35_56, e35_58, e35_58n, e35_59, e35_62, e35_64, e35_65, e35_66, e35_68, e35_71, e35_71n, e35_72, e35_75, e35_77, e35_78, e35_81, e35_82, e35_83, e35_86, e35_89, e35_90, ↓reduceIte, zth_v, zth_n, zthv_s, zthi_s, zthm_s, true_or, or_true, eq_self, ne_eq, not_false_eq_true, not_true_eq_false, and_self, and_true, true_and, false_and, and_false, foRead_0, foRead_1, foRead_2, foRead_3, poRead_3, coRead, h1, h2, h3, h4, ha, g1, h8 j (by omega), i10, z1, z2, z3, hou, q1, t_pace, t_quot, nI_1, ih, decide_eq_true_eq]
      split <;> rfl
    · simp only [e35_0, e35_1, e35_5, e35_5n, e35_6, e35_9, e35_12, e35_12n, e35_13, e35_15, e35_18, e35_21, e35_22, e35_23, e35_23n, e35_24, e35_27, e35_29, e35_30, e35_31, e35_34, e35_35, e35_37, e35_40, e35_43, e35_43n, e35_44, e35_44n, e35_45, e35_48, e35_50, e35_51, e35_54, e35_56, e35_58, e35_58n, e35_59, e35_62, e35_64, e35_65, e35_66, e35_68, e35_71, e35_71n, e35_72, e35_75, e35_77, e35_78, e35_81, e35_82, e35_83, e35_86, e35_89, e35_90, ↓reduceIte, zth_v, zth_n, zthv_s, zthi_s, zthm_s, true_or, or_true, eq_self, ne_eq, not_false_eq_true, not_true_eq_false, and_self, and_true, true_and, false_and, and_false, foRead_0, foRead_1, foRead_2, foRead_3, poRead_3, coRead, h1, h2, h3, h4, ha, g1, h8 j (by omega), i10, z1, z2, z3, hou, q1, h9, t_quot, nI_1, ih, decide_eq_true_eq, nI_clamp (show u < 2 ^ 31 by omega)]
      split <;> rfl
theorem r_areSo {M : zMem} {a n : Nat} {o mm w : Nat → Int32} (h : zRead M a n o mm w) {B nl nr : Nat} {c m : Int32} {F : Nat → Int32} {r : Nat → zRD} (hN : zNur M B c nl nr m F r) (ho : ∀ i, i < n → ∃ j, j < nr ∧ o i = nI j) {k kd ln cr : Int32} : ev 35 0 [some (.ref a), some (.ref B), some (.int k), some (.int kd), some (.int ln), some (.int cr), none, none] [] M = some (some (.int (zall (zsoC cr r o mm w k kd ln) n 0)), M) := by
  have h9 := r_so_loop h hN ho (k := k) (kd := kd) (ln := ln) (cr := cr) n 0 none (by omega)
  rw [nI_0] at h9
  simp only [e35_0, e35_1, e35_5, e35_5n, e35_6, e35_9, e35_12, e35_12n, e35_13, e35_15, e35_18, e35_21, e35_22, e35_23, e35_23n, e35_24, e35_27, e35_29, e35_30, e35_31, e35_34, e35_35, e35_37, e35_40, e35_43, e35_43n, e35_44, e35_44n, e35_45, e35_48, e35_50, e35_51, e35_54, e35_56, e35_58, e35_58n, e35_59, e35_62, e35_64, e35_65, e35_66, e35_68, e35_71, e35_71n, e35_72, e35_75, e35_77, e35_78, e35_81, e35_82, e35_83, e35_86, e35_89, e35_90, ↓reduceIte, zth_v, zth_n, zthv_s, zthi_s, zthm_s, true_or, or_true, eq_self, ne_eq, not_false_eq_true, not_true_eq_false, and_self, and_true, true_and, false_and, and_false]
  exact h9
