/-! Call by call, nine: leans, kinds, creaks -/
theorem upd_upd {f : Nat → Int32} {j : Nat} {y z : Int32} : upd (upd f j y) j z = upd f j z := by
  funext i
  by_cases e : i = j
  · subst e; rw [pk_us, pk_us]
  · rw [pk_un e, pk_un e, pk_un e]
theorem va_up_up {α : Type} {f : Nat → α} {j : Nat} {y z : α} : va_up (va_up f j y) j z = va_up f j z := by
  funext i
  by_cases e : i = j
  · subst e; rw [va_up_self, va_up_self]
  · rw [va_up_ne _ _ e, va_up_ne _ _ e, va_up_ne _ _ e]
theorem zall_or (g : Nat → Bool) : ∀ k j, zall g k j = 0 ∨ zall g k j = 1 := by
  intro k
  induction k with
  | zero => intro j; exact Or.inr rfl
  | succ k ih =>
    intro j
    rw [zall]
    split
    · exact ih _
    · exact Or.inl rfl
theorem zall_congr {g g' : Nat → Bool} : ∀ k j, (∀ i, j ≤ i → i < j + k → g i = g' i) → zall g k j = zall g' k j := by
  intro k
  induction k with
  | zero => intro j _; rfl
  | succ k ih =>
    intro j h
    rw [zall, zall, h j (by omega) (by omega), ih (j + 1) (fun i h1 h2 => h i (by omega) (by omega))]
def zacc (g : Nat → Int32) : Nat → Nat → Int32 → Int32
  | 0, _, a => a
  | k + 1, j, a => zacc g k (j + 1) (if g j = 0 then a else a ||| (1 <<< (nI j &&& 31)))
def mSo (q : Nat) (kd l o mm w : Nat → Int32) (i : Nat) : Bool := decide (mm i * zpace (kd (o i).toNatClampNeg) (l (o i).toNatClampNeg) / nI q = w i)
theorem or_0 (a : Int32) : a ||| 0 = a := by
  apply Int32.toBitVec_inj.mp
  rw [Int32.toBitVec_or]
  simp
section CJ
variable {M : zMem} {x : Nat → Int32} {A : Nat → Nat → Int32} {q n : Nat}
theorem m_so_loop (h : zMdl M x A) (x3 : x 3 = nI q) (q1 : 1 ≤ q) (q2 : q ≤ 9) (x16 : x 16 = nI n) (hn : n ≤ 8) (ho : ∀ i, i < n → ∃ u, u < 5 ∧ A 59 i = nI u) : ∀ k j are, j + k = n → (are = 0 ∨ are = 1) → ev 165 4 [some (.ref 44), some (.int are), some (.int (nI j))] [] M = some (some (.int (if are = 0 then 0 else zall (mSo q (A 46) (A 47) (A 59) (A 60) (A 61)) k j)), M) := by
  have o44 := h.1
  have hz44 : zoc (mget M 44) = some 8 := by rw [h.1]; exact coMod
  have o59 := h.2 59 (by omega) (by omega)
  have o60 := h.2 60 (by omega) (by omega)
  have o61 := h.2 61 (by omega) (by omega)
  have g2 : ¬ nI q = 0 := nI_ne0 (by omega) (by omega)
  intro k
  induction k with
  | zero =>
    intro j are hj ha
    obtain rfl : j = n := by omega
    have g1 : nI j ≤ nI j := ni_ge (Nat.le_refl _) (by omega)
    rcases ha with rfl | rfl
    · simp only [e165_0, e165_1, e165_2, e165_3, e165_4, e165_5, e165_5n, e165_6, e165_9, e165_12, e165_13, e165_16, e165_16n, e165_17, e165_20, e165_21, e165_22, e165_22n, e165_23, e165_23n, e165_24, e165_27, e165_28, e165_29, e165_32, e165_33, e165_33n, e165_34, e165_37, e165_38, e165_38n, e165_39, e165_42, e165_43, e165_44, e165_47, e165_48, e165_51, e165_52, e165_53, e165_56, e165_59, e165_60, ↓reduceIte, zth_v, zth_n, zthv_s, zthi_s, zthm_s, true_or, or_true, eq_self, ne_eq, not_false_eq_true, not_true_eq_false, and_self, and_true, true_and, false_and, and_false, foMod_0, foMod_1, foMod_2, foMod_3, foMod_4, foMod_5, foMod_6, foMod_7, foMod_8, foMod_9, foMod_10, foMod_11, foMod_12, foMod_13, foMod_14, foMod_15, foMod_16, foMod_17, foMod_18, foMod_19, foMod_20, foMod_21, foMod_22, foMod_23, foMod_24, foMod_25, foMod_26, foMod_27, foMod_28, foMod_29, foMod_30, foMod_31, foMod_32, foMod_33, foMod_34, foMod_35, foMod_36, foMod_37, foMod_38, poMod_0, poMod_1, poMod_2, poMod_3, poMod_4, poMod_5, poMod_12, poMod_13, poMod_14, poMod_15, poMod_20, poMod_21, poMod_22, poMod_23, poMod_28, poMod_29, poMod_30, poMod_38, coMod, o44, x16, g1, Nat.reduceEqDiff]
    · simp only [e165_0, e165_1, e165_2, e165_3, e165_4, e165_5, e165_5n, e165_6, e165_9, e165_12, e165_13, e165_16, e165_16n, e165_17, e165_20, e165_21, e165_22, e165_22n, e165_23, e165_23n, e165_24, e165_27, e165_28, e165_29, e165_32, e165_33, e165_33n, e165_34, e165_37, e165_38, e165_38n, e165_39, e165_42, e165_43, e165_44, e165_47, e165_48, e165_51, e165_52, e165_53, e165_56, e165_59, e165_60, ↓reduceIte, zth_v, zth_n, zthv_s, zthi_s, zthm_s, true_or, or_true, eq_self, ne_eq, not_false_eq_true, not_true_eq_false, and_self, and_true, true_and, false_and, and_false, foMod_0, foMod_1, foMod_2, foMod_3, foMod_4, foMod_5, foMod_6, foMod_7, foMod_8, foMod_9, foMod_10, foMod_11, foMod_12, foMod_13, foMod_14, foMod_15, foMod_16, foMod_17, foMod_18, foMod_19, foMod_20, foMod_21, foMod_22, foMod_23, foMod_24, foMod_25, foMod_26, foMod_27, foMod_28, foMod_29, foMod_30, foMod_31, foMod_32, foMod_33, foMod_34, foMod_35, foMod_36, foMod_37, foMod_38, poMod_0, poMod_1, poMod_2, poMod_3, poMod_4, poMod_5, poMod_12, poMod_13, poMod_14, poMod_15, poMod_20, poMod_21, poMod_22, poMod_23, poMod_28, poMod_29, poMod_30, poMod_38, coMod, o44, x16, g1, zall, i10, Nat.reduceEqDiff]
  | succ k ih =>
    intro j are hj ha
    have g1 : ¬ nI n ≤ nI j := ni_nle (by omega) (by omega)
    rcases ha with rfl | rfl
    · have ih := ih (j + 1) 0 (by omega) (Or.inl rfl)
      simp only [if_true] at ih ⊢
      rw [← ih, e165_4]
      simp only [e165_0, e165_1, e165_2, e165_3, e165_5, e165_5n, e165_6, e165_9, e165_12, e165_13, e165_16, e165_16n, e165_17, e165_20, e165_21, e165_22, e165_22n, e165_23, e165_23n, e165_24, e165_27, e165_28, e165_29, e165_32, e165_33, e165_33n, e165_34, e165_37, e165_38, e165_38n, e165_39, e165_42, e165_43, e165_44, e165_47, e165_48, e165_51, e165_52, e165_53, e165_56, e165_59, e165_60, ↓reduceIte, zth_v, zth_n, zthv_s, zthi_s, zthm_s, true_or, or_true, eq_self, ne_eq, not_false_eq_true, not_true_eq_false, and_self, and_true, true_and, false_and, and_false, foMod_0, foMod_1, foMod_2, foMod_3, foMod_4, foMod_5, foMod_6, foMod_7, foMod_8, foMod_9, foMod_10, foMod_11, foMod_12, foMod_13, foMod_14, foMod_15, foMod_16, foMod_17, foMod_18, foMod_19, foMod_20, foMod_21, foMod_22, foMod_23, foMod_24, foMod_25, foMod_26, foMod_27, foMod_28, foMod_29, foMod_30, foMod_31, foMod_32, foMod_33, foMod_34, foMod_35, foMod_36, foMod_37, foMod_38, poMod_0, poMod_1, poMod_2, poMod_3, poMod_4, poMod_5, poMod_12, poMod_13, poMod_14, poMod_15, poMod_20, poMod_21, poMod_22, poMod_23, poMod_28, poMod_29, poMod_30, poMod_38, coMod, o44, x16, g1, nI_1, Nat.reduceEqDiff]
    · obtain ⟨u, u5, eu⟩ := ho j (by omega)
      have z59 := zia_in (n := zsz 59) (f := A 59) (j := j) (show j < 8 by omega) (show 8 < 2 ^ 31 by omega)
      have z60 := zia_in (n := zsz 60) (f := A 60) (j := j) (show j < 8 by omega) (show 8 < 2 ^ 31 by omega)
      have z61 := zia_in (n := zsz 61) (f := A 61) (j := j) (show j < 8 by omega) (show 8 < 2 ^ 31 by omega)
      rw [eu] at z59
      have pc := m_paceOf h u5
      rw [zall]
      unfold mSo
      rw [eu, nI_clamp (show u < 2 ^ 31 by omega)]
      rw [e165_4]
      by_cases c : A 60 j * zpace (A 46 u) (A 47 u) / nI q = A 61 j
      · have ih := ih (j + 1) 1 (by omega) (Or.inr rfl)
        unfold mSo at ih
        simp only [e165_0, e165_1, e165_2, e165_3, e165_5, e165_5n, e165_6, e165_9, e165_12, e165_13, e165_16, e165_16n, e165_17, e165_20, e165_21, e165_22, e165_22n, e165_23, e165_23n, e165_24, e165_27, e165_28, e165_29, e165_32, e165_33, e165_33n, e165_34, e165_37, e165_38, e165_38n, e165_39, e165_42, e165_43, e165_44, e165_47, e165_48, e165_51, e165_52, e165_53, e165_56, e165_59, e165_60, ↓reduceIte, zth_v, zth_n, zthv_s, zthi_s, zthm_s, true_or, or_true, eq_self, ne_eq, not_false_eq_true, not_true_eq_false, and_self, and_true, true_and, false_and, and_false, foMod_0, foMod_1, foMod_2, foMod_3, foMod_4, foMod_5, foMod_6, foMod_7, foMod_8, foMod_9, foMod_10, foMod_11, foMod_12, foMod_13, foMod_14, foMod_15, foMod_16, foMod_17, foMod_18, foMod_19, foMod_20, foMod_21, foMod_22, foMod_23, foMod_24, foMod_25, foMod_26, foMod_27, foMod_28, foMod_29, foMod_30, foMod_31, foMod_32, foMod_33, foMod_34, foMod_35, foMod_36, foMod_37, foMod_38, poMod_0, poMod_1, poMod_2, poMod_3, poMod_4, poMod_5, poMod_12, poMod_13, poMod_14, poMod_15, poMod_20, poMod_21, poMod_22, poMod_23, poMod_28, poMod_29, poMod_30, poMod_38, coMod, o44, hz44, o59, o60, o61, z59, z60, z61, pc, x3, x16, g1, g2, c, i10, nI_1, ih, decide_true, Nat.reduceEqDiff]
      · have ih := ih (j + 1) 0 (by omega) (Or.inl rfl)
        simp only [e165_0, e165_1, e165_2, e165_3, e165_5, e165_5n, e165_6, e165_9, e165_12, e165_13, e165_16, e165_16n, e165_17, e165_20, e165_21, e165_22, e165_22n, e165_23, e165_23n, e165_24, e165_27, e165_28, e165_29, e165_32, e165_33, e165_33n, e165_34, e165_37, e165_38, e165_38n, e165_39, e165_42, e165_43, e165_44, e165_47, e165_48, e165_51, e165_52, e165_53, e165_56, e165_59, e165_60, ↓reduceIte, zth_v, zth_n, zthv_s, zthi_s, zthm_s, true_or, or_true, eq_self, ne_eq, not_false_eq_true, not_true_eq_false, and_self, and_true, true_and, false_and, and_false, foMod_0, foMod_1, foMod_2, foMod_3, foMod_4, foMod_5, foMod_6, foMod_7, foMod_8, foMod_9, foMod_10, foMod_11, foMod_12, foMod_13, foMod_14, foMod_15, foMod_16, foMod_17, foMod_18, foMod_19, foMod_20, foMod_21, foMod_22, foMod_23, foMod_24, foMod_25, foMod_26, foMod_27, foMod_28, foMod_29, foMod_30, foMod_31, foMod_32, foMod_33, foMod_34, foMod_35, foMod_36, foMod_37, foMod_38, poMod_0, poMod_1, poMod_2, poMod_3, poMod_4, poMod_5, poMod_12, poMod_13, poMod_14, poMod_15, poMod_20, poMod_21, poMod_22, poMod_23, poMod_28, poMod_29, poMod_30, poMod_38, coMod, o44, hz44, o59, o60, o61, z59, z60, z61, pc, x3, x16, g1, g2, c, i10, nI_1, ih, decide_false, Bool.false_eq_true, Nat.reduceEqDiff]
theorem m_areSo (h : zMdl M x A) (x3 : x 3 = nI q) (q1 : 1 ≤ q) (q2 : q ≤ 9) (x16 : x 16 = nI n) (hn : n ≤ 8) (ho : ∀ i, i < n → ∃ u, u < 5 ∧ A 59 i = nI u) : ev 165 0 [some (.ref 44), none, none] [] M = some (some (.int (zall (mSo q (A 46) (A 47) (A 59) (A 60) (A 61)) n 0)), M) := by
  have z := m_so_loop h x3 q1 q2 x16 hn ho n 0 1 (by omega) (Or.inr rfl)
  rw [if_neg (by decide), nI_0] at z
  simp only [e165_0, e165_1, e165_2, e165_3, e165_5, e165_5n, e165_6, e165_9, e165_12, e165_13, e165_16, e165_16n, e165_17, e165_20, e165_21, e165_22, e165_22n, e165_23, e165_23n, e165_24, e165_27, e165_28, e165_29, e165_32, e165_33, e165_33n, e165_34, e165_37, e165_38, e165_38n, e165_39, e165_42, e165_43, e165_44, e165_47, e165_48, e165_51, e165_52, e165_53, e165_56, e165_59, e165_60, ↓reduceIte, zth_v, zth_n, zthv_s, zthi_s, zthm_s, true_or, or_true, eq_self, ne_eq, not_false_eq_true, not_true_eq_false, and_self, and_true, true_and, false_and, and_false]
  exact z
theorem m_leans_loop (x3 : x 3 = nI q) (q1 : 1 ≤ q) (q2 : q ≤ 9) (x16 : x 16 = nI n) (hn : n ≤ 8) (ho : ∀ i, i < n → ∃ u, u < 5 ∧ A 59 i = nI u) {j : Nat} (hj : j < 5) {was : Option Value} : ∀ k v M y acc, v + k = 10 → zMdl M x (va_up A 47 (upd (A 47) j y)) → ∃ M' y', ev 166 22 [some (.ref 44), some (.int (nI j)), was, some (.int acc), some (.int (nI v))] [] M = ev 166 61 [some (.ref 44), some (.int (nI j)), was, some (.int (zacc (fun v => zall (mSo q (A 46) (upd (A 47) j (nI v)) (A 59) (A 60) (A 61)) n 0) k v acc)), some (.int (nI 10))] [] M' ∧ zMdl M' x (va_up A 47 (upd (A 47) j y')) ∧ zFr M M' 44 65 := by
  intro k
  induction k with
  | zero =>
    intro v M y acc hv h
    obtain rfl : v = 10 := by omega
    refine ⟨M, y, ?_, h, zFr.rf⟩
    have g1 : (10 : Int32) ≤ nI 10 := by decide
    simp only [e166_0, e166_0n, e166_1, e166_2, e166_5, e166_8, e166_9, e166_10, e166_10n, e166_11, e166_14, e166_15, e166_16, e166_17, e166_18, e166_19, e166_20, e166_22, e166_24, e166_26, e166_29, e166_29n, e166_30, e166_33, e166_34, e166_36, e166_37, e166_38, e166_38n, e166_39, e166_42, e166_45, e166_46, e166_48, e166_49, e166_52, e166_53, e166_54, e166_55, e166_58, e166_62, e166_65, e166_66, e166_67, e166_68, e166_69, ↓reduceIte, zth_v, zth_n, zthv_s, zthi_s, zthm_s, true_or, or_true, eq_self, ne_eq, not_false_eq_true, not_true_eq_false, and_self, and_true, true_and, false_and, and_false, g1, zacc]
  | succ k ih =>
    intro v M y acc hv h
    have g1 : ¬ (10 : Int32) ≤ nI v := ni_nle (b := 10) (by omega) (by omega)
    have h1 := h.setA 47 (by omega) (by omega) (upd (A 47) j (nI v))
    rw [va_up_up] at h1
    have so := m_areSo h1 x3 q1 q2 x16 hn (by rw [va_up_ne _ _ (by omega)]; exact ho)
    rw [va_up_self, va_up_ne _ _ (show 46 ≠ 47 by omega), va_up_ne _ _ (show 59 ≠ 47 by omega), va_up_ne _ _ (show 60 ≠ 47 by omega), va_up_ne _ _ (show 61 ≠ 47 by omega)] at so
    obtain ⟨M', y', i1, i2, i3⟩ := ih (v + 1) _ (nI v) (if zall (mSo q (A 46) (upd (A 47) j (nI v)) (A 59) (A 60) (A 61)) n 0 = 0 then acc else acc ||| (1 <<< (nI v &&& 31))) (by omega) h1
    refine ⟨M', y', ?_, i2, zFr.tr (zFr.rf.set (by omega) (by omega)) i3⟩
    have o44 := h.1
    have hz44 : zoc (mget M 44) = some 8 := by rw [h.1]; exact coMod
    have o44' := h1.1
    have hz44' : zoc (mget (mset M 47 (.inl (zsz 47, upd (A 47) j (nI v)))) 44) = some 8 := by rw [h1.1]; exact coMod
    have oA := h.2 47 (by omega) (by omega)
    rw [va_up_self] at oA
    have sA := zis_in (n := zsz 47) (f := upd (A 47) j y) (x := nI v) (j := j) (show j < 5 by omega) (show 5 < 2 ^ 31 by omega)
    rw [upd_upd] at sA
    rw [zacc, ← i1, e166_22]
    rcases zall_or (mSo q (A 46) (upd (A 47) j (nI v)) (A 59) (A 60) (A 61)) n 0 with e | e
    · rw [e] at so
      simp only [e166_0, e166_0n, e166_1, e166_2, e166_5, e166_8, e166_9, e166_10, e166_10n, e166_11, e166_14, e166_15, e166_16, e166_17, e166_18, e166_19, e166_20, e166_24, e166_26, e166_29, e166_29n, e166_30, e166_33, e166_34, e166_36, e166_37, e166_38, e166_38n, e166_39, e166_42, e166_45, e166_46, e166_48, e166_49, e166_52, e166_53, e166_54, e166_55, e166_58, e166_62, e166_65, e166_66, e166_67, e166_68, e166_69, ↓reduceIte, zth_v, zth_n, zthv_s, zthi_s, zthm_s, true_or, or_true, eq_self, ne_eq, not_false_eq_true, not_true_eq_false, and_self, and_true, true_and, false_and, and_false, foMod_0, foMod_1, foMod_2, foMod_3, foMod_4, foMod_5, foMod_6, foMod_7, foMod_8, foMod_9, foMod_10, foMod_11, foMod_12, foMod_13, foMod_14, foMod_15, foMod_16, foMod_17, foMod_18, foMod_19, foMod_20, foMod_21, foMod_22, foMod_23, foMod_24, foMod_25, foMod_26, foMod_27, foMod_28, foMod_29, foMod_30, foMod_31, foMod_32, foMod_33, foMod_34, foMod_35, foMod_36, foMod_37, foMod_38, poMod_0, poMod_1, poMod_2, poMod_3, poMod_4, poMod_5, poMod_12, poMod_13, poMod_14, poMod_15, poMod_20, poMod_21, poMod_22, poMod_23, poMod_28, poMod_29, poMod_30, poMod_38, coMod, o44, hz44', oA, sA, so, g1, e, or_0, nI_1, Nat.reduceEqDiff]
    · rw [e] at so
      simp only [e166_0, e166_0n, e166_1, e166_2, e166_5, e166_8, e166_9, e166_10, e166_10n, e166_11, e166_14, e166_15, e166_16, e166_17, e166_18, e166_19, e166_20, e166_24, e166_26, e166_29, e166_29n, e166_30, e166_33, e166_34, e166_36, e166_37, e166_38, e166_38n, e166_39, e166_42, e166_45, e166_46, e166_48, e166_49, e166_52, e166_53, e166_54, e166_55, e166_58, e166_62, e166_65, e166_66, e166_67, e166_68, e166_69, ↓reduceIte, zth_v, zth_n, zthv_s, zthi_s, zthm_s, true_or, or_true, eq_self, ne_eq, not_false_eq_true, not_true_eq_false, and_self, and_true, true_and, false_and, and_false, foMod_0, foMod_1, foMod_2, foMod_3, foMod_4, foMod_5, foMod_6, foMod_7, foMod_8, foMod_9, foMod_10, foMod_11, foMod_12, foMod_13, foMod_14, foMod_15, foMod_16, foMod_17, foMod_18, foMod_19, foMod_20, foMod_21, foMod_22, foMod_23, foMod_24, foMod_25, foMod_26, foMod_27, foMod_28, foMod_29, foMod_30, foMod_31, foMod_32, foMod_33, foMod_34, foMod_35, foMod_36, foMod_37, foMod_38, poMod_0, poMod_1, poMod_2, poMod_3, poMod_4, poMod_5, poMod_12, poMod_13, poMod_14, poMod_15, poMod_20, poMod_21, poMod_22, poMod_23, poMod_28, poMod_29, poMod_30, poMod_38, coMod, o44, hz44', oA, sA, so, g1, e, i10, nI_1, Nat.reduceEqDiff]
theorem m_kinds_loop (x3 : x 3 = nI q) (q1 : 1 ≤ q) (q2 : q ≤ 9) (x16 : x 16 = nI n) (hn : n ≤ 8) (ho : ∀ i, i < n → ∃ u, u < 5 ∧ A 59 i = nI u) {j : Nat} (hj : j < 5) {was : Option Value} : ∀ k v M y acc, v + k = 3 → zMdl M x (va_up A 46 (upd (A 46) j y)) → ∃ M' y', ev 167 22 [some (.ref 44), some (.int (nI j)), was, some (.int acc), some (.int (nI v))] [] M = ev 167 60 [some (.ref 44), some (.int (nI j)), was, some (.int (zacc (fun v => zall (mSo q (upd (A 46) j (nI v)) (A 47) (A 59) (A 60) (A 61)) n 0) k v acc)), some (.int (nI 3))] [] M' ∧ zMdl M' x (va_up A 46 (upd (A 46) j y')) ∧ zFr M M' 44 65 := by
  intro k
  induction k with
  | zero =>
    intro v M y acc hv h
    obtain rfl : v = 3 := by omega
    refine ⟨M, y, ?_, h, zFr.rf⟩
    have g1 : (3 : Int32) ≤ nI 3 := by decide
    simp only [e167_0, e167_0n, e167_1, e167_2, e167_5, e167_8, e167_9, e167_10, e167_10n, e167_11, e167_14, e167_15, e167_16, e167_17, e167_18, e167_19, e167_20, e167_22, e167_24, e167_25, e167_28, e167_28n, e167_29, e167_32, e167_33, e167_35, e167_36, e167_37, e167_37n, e167_38, e167_41, e167_44, e167_45, e167_47, e167_48, e167_51, e167_52, e167_53, e167_54, e167_57, e167_61, e167_64, e167_65, e167_66, e167_67, e167_68, ↓reduceIte, zth_v, zth_n, zthv_s, zthi_s, zthm_s, true_or, or_true, eq_self, ne_eq, not_false_eq_true, not_true_eq_false, and_self, and_true, true_and, false_and, and_false, g1, zacc]
  | succ k ih =>
    intro v M y acc hv h
    have g1 : ¬ (3 : Int32) ≤ nI v := ni_nle (b := 3) (by omega) (by omega)
    have h1 := h.setA 46 (by omega) (by omega) (upd (A 46) j (nI v))
    rw [va_up_up] at h1
    have so := m_areSo h1 x3 q1 q2 x16 hn (by rw [va_up_ne _ _ (by omega)]; exact ho)
    rw [va_up_self, va_up_ne _ _ (show 47 ≠ 46 by omega), va_up_ne _ _ (show 59 ≠ 46 by omega), va_up_ne _ _ (show 60 ≠ 46 by omega), va_up_ne _ _ (show 61 ≠ 46 by omega)] at so
    obtain ⟨M', y', i1, i2, i3⟩ := ih (v + 1) _ (nI v) (if zall (mSo q (upd (A 46) j (nI v)) (A 47) (A 59) (A 60) (A 61)) n 0 = 0 then acc else acc ||| (1 <<< (nI v &&& 31))) (by omega) h1
    refine ⟨M', y', ?_, i2, zFr.tr (zFr.rf.set (by omega) (by omega)) i3⟩
    have o44 := h.1
    have hz44 : zoc (mget M 44) = some 8 := by rw [h.1]; exact coMod
    have o44' := h1.1
    have hz44' : zoc (mget (mset M 46 (.inl (zsz 46, upd (A 46) j (nI v)))) 44) = some 8 := by rw [h1.1]; exact coMod
    have oA := h.2 46 (by omega) (by omega)
    rw [va_up_self] at oA
    have sA := zis_in (n := zsz 46) (f := upd (A 46) j y) (x := nI v) (j := j) (show j < 5 by omega) (show 5 < 2 ^ 31 by omega)
    rw [upd_upd] at sA
    rw [zacc, ← i1, e167_22]
    rcases zall_or (mSo q (upd (A 46) j (nI v)) (A 47) (A 59) (A 60) (A 61)) n 0 with e | e
    · rw [e] at so
      simp only [e167_0, e167_0n, e167_1, e167_2, e167_5, e167_8, e167_9, e167_10, e167_10n, e167_11, e167_14, e167_15, e167_16, e167_17, e167_18, e167_19, e167_20, e167_24, e167_25, e167_28, e167_28n, e167_29, e167_32, e167_33, e167_35, e167_36, e167_37, e167_37n, e167_38, e167_41, e167_44, e167_45, e167_47, e167_48, e167_51, e167_52, e167_53, e167_54, e167_57, e167_61, e167_64, e167_65, e167_66, e167_67, e167_68, ↓reduceIte, zth_v, zth_n, zthv_s, zthi_s, zthm_s, true_or, or_true, eq_self, ne_eq, not_false_eq_true, not_true_eq_false, and_self, and_true, true_and, false_and, and_false, foMod_0, foMod_1, foMod_2, foMod_3, foMod_4, foMod_5, foMod_6, foMod_7, foMod_8, foMod_9, foMod_10, foMod_11, foMod_12, foMod_13, foMod_14, foMod_15, foMod_16, foMod_17, foMod_18, foMod_19, foMod_20, foMod_21, foMod_22, foMod_23, foMod_24, foMod_25, foMod_26, foMod_27, foMod_28, foMod_29, foMod_30, foMod_31, foMod_32, foMod_33, foMod_34, foMod_35, foMod_36, foMod_37, foMod_38, poMod_0, poMod_1, poMod_2, poMod_3, poMod_4, poMod_5, poMod_12, poMod_13, poMod_14, poMod_15, poMod_20, poMod_21, poMod_22, poMod_23, poMod_28, poMod_29, poMod_30, poMod_38, coMod, o44, hz44', oA, sA, so, g1, e, or_0, nI_1, Nat.reduceEqDiff]
    · rw [e] at so
      simp only [e167_0, e167_0n, e167_1, e167_2, e167_5, e167_8, e167_9, e167_10, e167_10n, e167_11, e167_14, e167_15, e167_16, e167_17, e167_18, e167_19, e167_20, e167_24, e167_25, e167_28, e167_28n, e167_29, e167_32, e167_33, e167_35, e167_36, e167_37, e167_37n, e167_38, e167_41, e167_44, e167_45, e167_47, e167_48, e167_51, e167_52, e167_53, e167_54, e167_57, e167_61, e167_64, e167_65, e167_66, e167_67, e167_68, ↓reduceIte, zth_v, zth_n, zthv_s, zthi_s, zthm_s, true_or, or_true, eq_self, ne_eq, not_false_eq_true, not_true_eq_false, and_self, and_true, true_and, false_and, and_false, foMod_0, foMod_1, foMod_2, foMod_3, foMod_4, foMod_5, foMod_6, foMod_7, foMod_8, foMod_9, foMod_10, foMod_11, foMod_12, foMod_13, foMod_14, foMod_15, foMod_16, foMod_17, foMod_18, foMod_19, foMod_20, foMod_21, foMod_22, foMod_23, foMod_24, foMod_25, foMod_26, foMod_27, foMod_28, foMod_29, foMod_30, foMod_31, foMod_32, foMod_33, foMod_34, foMod_35, foMod_36, foMod_37, foMod_38, poMod_0, poMod_1, poMod_2, poMod_3, poMod_4, poMod_5, poMod_12, poMod_13, poMod_14, poMod_15, poMod_20, poMod_21, poMod_22, poMod_23, poMod_28, poMod_29, poMod_30, poMod_38, coMod, o44, hz44', oA, sA, so, g1, e, i10, nI_1, Nat.reduceEqDiff]
end CJ
theorem t_leans_loop {M : zMem} {tr ft : Int32} (k0 : mget M 1 = some (oRR 2 10 18 27 31 35 tr ft)) {c m : Int32} {nl nr : Nat} {F : Nat → Int32} {r : Nat → zRD} (kN : zNur M 2 c nl nr m F r) {n : Nat} {o mm w : Nat → Int32} (kR : zRead M 27 n o mm w) (hJ : zInR nr n o) {j : Nat} (hj : j < nr) : ∀ k v acc, v + k = 10 → ev 89 20 [some (.ref 1), some (.int (nI j)), some (.ref (2 + 3 + j)), some (.int acc), some (.int (nI v))] [] M = some (some (.int (zacc (fun v => zall (zsoC c r o mm w (nI j) (r j).1 (nI v)) n 0) k v acc)), M) := by
  have k4 := kN.2.2.2.2.2.2.1 j (by have := kN.2.2.1; omega)
  have n3 : 2 + 3 + j ≠ 0 := by omega
  have k2 := kN.2.2.2.1
  have hz27 : zoc (mget M 27) = some 2 := by rw [kR.2.2.1]; exact coRead
  intro k
  induction k with
  | zero =>
    intro v acc hv
    obtain rfl : v = 10 := by omega
    have g1 : (9 : Int32) < nI 10 := by decide
    have g2 : ¬ nI 10 ≤ (9 : Int32) := by decide
    simp only [e89_0, e89_0n, e89_1, e89_4, e89_5, e89_8, e89_8n, e89_9, e89_9n, e89_10, e89_10n, e89_13, e89_14, e89_15, e89_16, e89_17, e89_18, e89_20, e89_22, e89_24, e89_27, e89_27n, e89_28, e89_31, e89_31n, e89_32, e89_35, e89_36, e89_36n, e89_37, e89_40, e89_42, e89_42n, e89_43, e89_46, e89_49, e89_52, e89_55, e89_56, e89_57, e89_59, e89_60, e89_61, e89_62, e89_65, e89_68, e89_69, ↓reduceIte, zth_v, zth_n, zthv_s, zthi_s, zthm_s, true_or, or_true, eq_self, ne_eq, not_false_eq_true, not_true_eq_false, and_self, and_true, true_and, false_and, and_false, g1, g2, zacc]
  | succ k ih =>
    intro v acc hv
    have g1 : ¬ (9 : Int32) < nI v := nI_nlt (a := 9) (by omega) (by omega)
    have g2 : nI v ≤ (9 : Int32) := Int32.not_lt.mp g1
    have so := r_areSo kR kN hJ (k := nI j) (kd := (r j).1) (ln := nI v) (cr := c)
    have ih := fun acc => ih (v + 1) acc (by omega)
    rw [zacc, ← ih, e89_20]
    rcases zall_or (zsoC c r o mm w (nI j) (r j).1 (nI v)) n 0 with e | e
    · rw [e] at so
      simp only [e89_0, e89_0n, e89_1, e89_4, e89_5, e89_8, e89_8n, e89_9, e89_9n, e89_10, e89_10n, e89_13, e89_14, e89_15, e89_16, e89_17, e89_18, e89_22, e89_24, e89_27, e89_27n, e89_28, e89_31, e89_31n, e89_32, e89_35, e89_36, e89_36n, e89_37, e89_40, e89_42, e89_42n, e89_43, e89_46, e89_49, e89_52, e89_55, e89_56, e89_57, e89_59, e89_60, e89_61, e89_62, e89_65, e89_68, e89_69, ↓reduceIte, zth_v, zth_n, zthv_s, zthi_s, zthm_s, true_or, or_true, eq_self, ne_eq, not_false_eq_true, not_true_eq_false, and_self, and_true, true_and, false_and, and_false, foRR_0, foRR_1, foRR_2, foRR_3, foRR_4, foRR_5, foRR_6, foRR_7, poRR_6, poRR_7, coRR, foNur_0, foNur_1, foNur_2, foNur_3, foNur_4, foNur_5, poNur_2, poNur_3, poNur_4, poNur_5, coNur, foRid_0, foRid_1, foRid_2, foRid_3, foRid_4, foRid_5, poRid_0, poRid_1, poRid_2, poRid_3, poRid_4, poRid_5a, poRid_5b, coRid, k0, k2, k4, n3, hz27, so, g1, g2, e, nI_1, Nat.reduceEqDiff]
    · rw [e] at so
      simp only [e89_0, e89_0n, e89_1, e89_4, e89_5, e89_8, e89_8n, e89_9, e89_9n, e89_10, e89_10n, e89_13, e89_14, e89_15, e89_16, e89_17, e89_18, e89_22, e89_24, e89_27, e89_27n, e89_28, e89_31, e89_31n, e89_32, e89_35, e89_36, e89_36n, e89_37, e89_40, e89_42, e89_42n, e89_43, e89_46, e89_49, e89_52, e89_55, e89_56, e89_57, e89_59, e89_60, e89_61, e89_62, e89_65, e89_68, e89_69, ↓reduceIte, zth_v, zth_n, zthv_s, zthi_s, zthm_s, true_or, or_true, eq_self, ne_eq, not_false_eq_true, not_true_eq_false, and_self, and_true, true_and, false_and, and_false, foRR_0, foRR_1, foRR_2, foRR_3, foRR_4, foRR_5, foRR_6, foRR_7, poRR_6, poRR_7, coRR, foNur_0, foNur_1, foNur_2, foNur_3, foNur_4, foNur_5, poNur_2, poNur_3, poNur_4, poNur_5, coNur, foRid_0, foRid_1, foRid_2, foRid_3, foRid_4, foRid_5, poRid_0, poRid_1, poRid_2, poRid_3, poRid_4, poRid_5a, poRid_5b, coRid, k0, k2, k4, n3, hz27, so, g1, g2, e, i10, nI_1, Nat.reduceEqDiff]
theorem t_kinds_loop {M : zMem} {tr ft : Int32} (k0 : mget M 1 = some (oRR 2 10 18 27 31 35 tr ft)) {c m : Int32} {nl nr : Nat} {F : Nat → Int32} {r : Nat → zRD} (kN : zNur M 2 c nl nr m F r) {n : Nat} {o mm w : Nat → Int32} (kR : zRead M 27 n o mm w) (hJ : zInR nr n o) {j : Nat} (hj : j < nr) : ∀ k v acc, v + k = 3 → ev 90 20 [some (.ref 1), some (.int (nI j)), some (.ref (2 + 3 + j)), some (.int acc), some (.int (nI v))] [] M = some (some (.int (zacc (fun v => zall (zsoC c r o mm w (nI j) (nI v) (r j).2.1) n 0) k v acc)), M) := by
  have k4 := kN.2.2.2.2.2.2.1 j (by have := kN.2.2.1; omega)
  have n3 : 2 + 3 + j ≠ 0 := by omega
  have k2 := kN.2.2.2.1
  have hz27 : zoc (mget M 27) = some 2 := by rw [kR.2.2.1]; exact coRead
  intro k
  induction k with
  | zero =>
    intro v acc hv
    obtain rfl : v = 3 := by omega
    have g1 : (2 : Int32) < nI 3 := by decide
    have g2 : ¬ nI 3 ≤ (2 : Int32) := by decide
    simp only [e90_0, e90_0n, e90_1, e90_4, e90_5, e90_8, e90_8n, e90_9, e90_9n, e90_10, e90_10n, e90_13, e90_14, e90_15, e90_16, e90_17, e90_18, e90_20, e90_22, e90_23, e90_26, e90_26n, e90_27, e90_30, e90_30n, e90_31, e90_34, e90_35, e90_37, e90_37n, e90_38, e90_41, e90_41n, e90_42, e90_45, e90_48, e90_51, e90_54, e90_55, e90_56, e90_58, e90_59, e90_60, e90_61, e90_64, e90_67, e90_68, ↓reduceIte, zth_v, zth_n, zthv_s, zthi_s, zthm_s, true_or, or_true, eq_self, ne_eq, not_false_eq_true, not_true_eq_false, and_self, and_true, true_and, false_and, and_false, g1, g2, zacc]
  | succ k ih =>
    intro v acc hv
    have g1 : ¬ (2 : Int32) < nI v := nI_nlt (a := 2) (by omega) (by omega)
    have g2 : nI v ≤ (2 : Int32) := Int32.not_lt.mp g1
    have so := r_areSo kR kN hJ (k := nI j) (kd := nI v) (ln := (r j).2.1) (cr := c)
    have ih := fun acc => ih (v + 1) acc (by omega)
    rw [zacc, ← ih, e90_20]
    rcases zall_or (zsoC c r o mm w (nI j) (nI v) (r j).2.1) n 0 with e | e
    · rw [e] at so
      simp only [e90_0, e90_0n, e90_1, e90_4, e90_5, e90_8, e90_8n, e90_9, e90_9n, e90_10, e90_10n, e90_13, e90_14, e90_15, e90_16, e90_17, e90_18, e90_22, e90_23, e90_26, e90_26n, e90_27, e90_30, e90_30n, e90_31, e90_34, e90_35, e90_37, e90_37n, e90_38, e90_41, e90_41n, e90_42, e90_45, e90_48, e90_51, e90_54, e90_55, e90_56, e90_58, e90_59, e90_60, e90_61, e90_64, e90_67, e90_68, ↓reduceIte, zth_v, zth_n, zthv_s, zthi_s, zthm_s, true_or, or_true, eq_self, ne_eq, not_false_eq_true, not_true_eq_false, and_self, and_true, true_and, false_and, and_false, foRR_0, foRR_1, foRR_2, foRR_3, foRR_4, foRR_5, foRR_6, foRR_7, poRR_6, poRR_7, coRR, foNur_0, foNur_1, foNur_2, foNur_3, foNur_4, foNur_5, poNur_2, poNur_3, poNur_4, poNur_5, coNur, foRid_0, foRid_1, foRid_2, foRid_3, foRid_4, foRid_5, poRid_0, poRid_1, poRid_2, poRid_3, poRid_4, poRid_5a, poRid_5b, coRid, k0, k2, k4, n3, hz27, so, g1, g2, e, nI_1, Nat.reduceEqDiff]
    · rw [e] at so
      simp only [e90_0, e90_0n, e90_1, e90_4, e90_5, e90_8, e90_8n, e90_9, e90_9n, e90_10, e90_10n, e90_13, e90_14, e90_15, e90_16, e90_17, e90_18, e90_22, e90_23, e90_26, e90_26n, e90_27, e90_30, e90_30n, e90_31, e90_34, e90_35, e90_37, e90_37n, e90_38, e90_41, e90_41n, e90_42, e90_45, e90_48, e90_51, e90_54, e90_55, e90_56, e90_58, e90_59, e90_60, e90_61, e90_64, e90_67, e90_68, ↓reduceIte, zth_v, zth_n, zthv_s, zthi_s, zthm_s, true_or, or_true, eq_self, ne_eq, not_false_eq_true, not_true_eq_false, and_self, and_true, true_and, false_and, and_false, foRR_0, foRR_1, foRR_2, foRR_3, foRR_4, foRR_5, foRR_6, foRR_7, poRR_6, poRR_7, coRR, foNur_0, foNur_1, foNur_2, foNur_3, foNur_4, foNur_5, poNur_2, poNur_3, poNur_4, poNur_5, coNur, foRid_0, foRid_1, foRid_2, foRid_3, foRid_4, foRid_5, poRid_0, poRid_1, poRid_2, poRid_3, poRid_4, poRid_5a, poRid_5b, coRid, k0, k2, k4, n3, hz27, so, g1, g2, e, i10, nI_1, Nat.reduceEqDiff]
theorem p_leans {M : zMem} (g : zGood M) {k : Int32} : zPI 89 166 [some (.int k), none, none, none] [some (.int k), none, none, none] M := by
  have g0 := g
  obtain ⟨h65, c, nl, nr, m, F, r, n, o, mm, w, ln, sn, f, tr, ft, hC, ⟨x, A, hx, hX, hN, hR, hS⟩, hI, hJ, hK⟩ := g
  have hC0 := hC
  have hX0 := hX
  obtain ⟨k0, kN, kR, kS, kP⟩ := hC
  have hz2 : zoc (mget M 2) = some 1 := by rw [kN.2.2.2.1]; exact coNur
  have hz1 : zoc (mget M 1) = some 7 := by rw [k0]; exact coRR
  have hz44 : zoc (mget M 44) = some 8 := by rw [hx.1]; exact coMod
  have hl5 := kN.2.1
  have hr5 := kN.2.2.1
  have hn8 := kR.2.1
  obtain ⟨x0, x1, x2, x3, x4, x5, x16, x17⟩ := hX
  have o44 := hx.1
  rcases kr_or k (n := nr) (by omega) with h | ⟨j, hj, rfl⟩
  · have h9 := n_riderAt_out kN h
    have h8 := m_noRider_out hx x2 hr5 h
    refine ⟨-1, M, M, ?_, ?_, zSkip hz44 g0⟩
    · simp only [e89_0, e89_0n, e89_1, e89_4, e89_5, e89_8, e89_8n, e89_9, e89_9n, e89_10, e89_10n, e89_13, e89_14, e89_15, e89_16, e89_17, e89_18, e89_20, e89_22, e89_24, e89_27, e89_27n, e89_28, e89_31, e89_31n, e89_32, e89_35, e89_36, e89_36n, e89_37, e89_40, e89_42, e89_42n, e89_43, e89_46, e89_49, e89_52, e89_55, e89_56, e89_57, e89_59, e89_60, e89_61, e89_62, e89_65, e89_68, e89_69, ↓reduceIte, zth_v, zth_n, zthv_s, zthi_s, zthm_s, true_or, or_true, eq_self, ne_eq, not_false_eq_true, not_true_eq_false, and_self, and_true, true_and, false_and, and_false, foRR_0, foRR_1, foRR_2, foRR_3, foRR_4, foRR_5, foRR_6, foRR_7, poRR_6, poRR_7, coRR, k0, hz2, h9, Nat.reduceEqDiff]
    · simp only [e166_0, e166_0n, e166_1, e166_2, e166_5, e166_8, e166_9, e166_10, e166_10n, e166_11, e166_14, e166_15, e166_16, e166_17, e166_18, e166_19, e166_20, e166_22, e166_24, e166_26, e166_29, e166_29n, e166_30, e166_33, e166_34, e166_36, e166_37, e166_38, e166_38n, e166_39, e166_42, e166_45, e166_46, e166_48, e166_49, e166_52, e166_53, e166_54, e166_55, e166_58, e166_61, e166_61n, e166_62, e166_65, e166_66, e166_67, e166_68, e166_69, ↓reduceIte, zth_v, zth_n, zthv_s, zthi_s, zthm_s, true_or, or_true, eq_self, ne_eq, not_false_eq_true, not_true_eq_false, and_self, and_true, true_and, false_and, and_false, hz44, h8, i10, Nat.reduceEqDiff]
  have h9 := n_riderAt_in kN hj
  have h8 := m_noRider_in hx x2 hr5 hj
  obtain ⟨q, q1, q2, rfl⟩ := hI_q hI (by omega)
  obtain ⟨y46, y47, y48, y49, y50⟩ := hN.2 j hj
  obtain ⟨r59, r60, r61⟩ := hR
  have tl := t_leans_loop k0 kN kR hJ hj 9 1 0 (by omega)
  have hx0 : zMdl M x (va_up A 47 (upd (A 47) j (A 47 j))) := by rw [upd_id, va_up_id]; exact hx
  obtain ⟨M', y', i1, i2, i3⟩ := m_leans_loop (A := A) (was := some (.int (r j).2.1)) x3 q1 q2 x16 hn8 (fun i hi => by
    obtain ⟨u, hu, e⟩ := hJ i hi
    exact ⟨u, by omega, by rw [r59]; exact e⟩) (show j < 5 by omega) 9 1 M _ 0 (by omega) hx0
  have e9 : (fun v => zall (mSo q (A 46) (upd (A 47) j (nI v)) (A 59) (A 60) (A 61)) n 0) = (fun v => zall (zsoC (nI q) r o mm w (nI j) (r j).1 (nI v)) n 0) := by
    funext v
    apply zall_congr
    intro i _ hi
    obtain ⟨u, hu, e⟩ := hJ i (by omega)
    unfold mSo zsoC
    rw [r59, r60, r61, e, zquo_q q1 q2, Int32.mul_comm (mm i)]
    have eu : ((nI u = nI j) ↔ u = j) := nI_eq (by omega) (by omega)
    rw [nI_clamp (show u < 2 ^ 31 by omega)]
    by_cases c : u = j
    · subst c
      rw [if_pos rfl, pk_us, y46]
    · obtain ⟨a1, a2, a3⟩ := hN.2 u hu
      rw [if_neg (fun z => c (eu.mp z)), pk_un c, a1, a2]
  rw [e9] at i1
  have i2' := i2.setA 47 (by omega) (by omega) (A 47)
  rw [va_up_up, va_up_id] at i2'
  have oA := i2.2 47 (by omega) (by omega)
  rw [va_up_self] at oA
  have sA := zis_in (n := zsz 47) (f := upd (A 47) j y') (x := (r j).2.1) (j := j) (show j < 5 by omega) (show 5 < 2 ^ 31 by omega)
  rw [upd_upd, ← y47, upd_id] at sA
  have zA := zia_in (n := zsz 47) (f := A 47) (j := j) (show j < 5 by omega) (show 5 < 2 ^ 31 by omega)
  have oA0 := hx.2 47 (by omega) (by omega)
  have o44' := i2.1
  refine ⟨zacc (fun v => zall (zsoC (nI q) r o mm w (nI j) (r j).1 (nI v)) n 0) 9 1 0, M, _, ?_, ?_, zFin h65 hz44 zFr.rf (zFr.tr i3 (zFr.rf.set (by omega) (by omega))) hC0 ⟨_, _, i2', hX0, hN, ⟨r59, r60, r61⟩, hS⟩ hI hJ hK⟩
  · simp only [e89_0, e89_0n, e89_1, e89_4, e89_5, e89_8, e89_8n, e89_9, e89_9n, e89_10, e89_10n, e89_13, e89_14, e89_15, e89_16, e89_17, e89_18, e89_22, e89_24, e89_27, e89_27n, e89_28, e89_31, e89_31n, e89_32, e89_35, e89_36, e89_36n, e89_37, e89_40, e89_42, e89_42n, e89_43, e89_46, e89_49, e89_52, e89_55, e89_56, e89_57, e89_59, e89_60, e89_61, e89_62, e89_65, e89_68, e89_69, ↓reduceIte, zth_v, zth_n, zthv_s, zthi_s, zthm_s, true_or, or_true, eq_self, ne_eq, not_false_eq_true, not_true_eq_false, and_self, and_true, true_and, false_and, and_false, foRR_0, foRR_1, foRR_2, foRR_3, foRR_4, foRR_5, foRR_6, foRR_7, poRR_6, poRR_7, coRR, k0, hz2, h9, Nat.reduceEqDiff]
    exact tl
  · have st : ev 166 0 [some (.ref 44), some (.int (nI j)), none, none, none] [] M = ev 166 22 [some (.ref 44), some (.int (nI j)), some (.int (r j).2.1), some (.int 0), some (.int 1)] [] M := by
      simp only [e166_0, e166_0n, e166_1, e166_2, e166_5, e166_8, e166_9, e166_10, e166_10n, e166_11, e166_14, e166_15, e166_16, e166_17, e166_18, e166_19, e166_20, e166_24, e166_26, e166_29, e166_29n, e166_30, e166_33, e166_34, e166_36, e166_37, e166_38, e166_38n, e166_39, e166_42, e166_45, e166_46, e166_48, e166_49, e166_52, e166_53, e166_54, e166_55, e166_58, e166_61, e166_61n, e166_62, e166_65, e166_66, e166_67, e166_68, e166_69, ↓reduceIte, zth_v, zth_n, zthv_s, zthi_s, zthm_s, true_or, or_true, eq_self, ne_eq, not_false_eq_true, not_true_eq_false, and_self, and_true, true_and, false_and, and_false, foMod_0, foMod_1, foMod_2, foMod_3, foMod_4, foMod_5, foMod_6, foMod_7, foMod_8, foMod_9, foMod_10, foMod_11, foMod_12, foMod_13, foMod_14, foMod_15, foMod_16, foMod_17, foMod_18, foMod_19, foMod_20, foMod_21, foMod_22, foMod_23, foMod_24, foMod_25, foMod_26, foMod_27, foMod_28, foMod_29, foMod_30, foMod_31, foMod_32, foMod_33, foMod_34, foMod_35, foMod_36, foMod_37, foMod_38, poMod_0, poMod_1, poMod_2, poMod_3, poMod_4, poMod_5, poMod_12, poMod_13, poMod_14, poMod_15, poMod_20, poMod_21, poMod_22, poMod_23, poMod_28, poMod_29, poMod_30, poMod_38, coMod, o44, hz44, h8, oA0, zA, y47, Nat.reduceEqDiff]
    rw [st]
    refine i1.trans ?_
    rw [y47] at sA
    simp only [e166_0, e166_0n, e166_1, e166_2, e166_5, e166_8, e166_9, e166_10, e166_10n, e166_11, e166_14, e166_15, e166_16, e166_17, e166_18, e166_19, e166_20, e166_22, e166_24, e166_26, e166_29, e166_29n, e166_30, e166_33, e166_34, e166_36, e166_37, e166_38, e166_38n, e166_39, e166_42, e166_45, e166_46, e166_48, e166_49, e166_52, e166_53, e166_54, e166_55, e166_58, e166_61, e166_61n, e166_62, e166_65, e166_66, e166_67, e166_68, e166_69, ↓reduceIte, zth_v, zth_n, zthv_s, zthi_s, zthm_s, true_or, or_true, eq_self, ne_eq, not_false_eq_true, not_true_eq_false, and_self, and_true, true_and, false_and, and_false, foMod_0, foMod_1, foMod_2, foMod_3, foMod_4, foMod_5, foMod_6, foMod_7, foMod_8, foMod_9, foMod_10, foMod_11, foMod_12, foMod_13, foMod_14, foMod_15, foMod_16, foMod_17, foMod_18, foMod_19, foMod_20, foMod_21, foMod_22, foMod_23, foMod_24, foMod_25, foMod_26, foMod_27, foMod_28, foMod_29, foMod_30, foMod_31, foMod_32, foMod_33, foMod_34, foMod_35, foMod_36, foMod_37, foMod_38, poMod_0, poMod_1, poMod_2, poMod_3, poMod_4, poMod_5, poMod_12, poMod_13, poMod_14, poMod_15, poMod_20, poMod_21, poMod_22, poMod_23, poMod_28, poMod_29, poMod_30, poMod_38, coMod, o44', oA, sA, Nat.reduceEqDiff]
theorem p_kinds {M : zMem} (g : zGood M) {k : Int32} : zPI 90 167 [some (.int k), none, none, none] [some (.int k), none, none, none] M := by
  have g0 := g
  obtain ⟨h65, c, nl, nr, m, F, r, n, o, mm, w, ln, sn, f, tr, ft, hC, ⟨x, A, hx, hX, hN, hR, hS⟩, hI, hJ, hK⟩ := g
  have hC0 := hC
  have hX0 := hX
  obtain ⟨k0, kN, kR, kS, kP⟩ := hC
  have hz2 : zoc (mget M 2) = some 1 := by rw [kN.2.2.2.1]; exact coNur
  have hz1 : zoc (mget M 1) = some 7 := by rw [k0]; exact coRR
  have hz44 : zoc (mget M 44) = some 8 := by rw [hx.1]; exact coMod
  have hl5 := kN.2.1
  have hr5 := kN.2.2.1
  have hn8 := kR.2.1
  obtain ⟨x0, x1, x2, x3, x4, x5, x16, x17⟩ := hX
  have o44 := hx.1
  rcases kr_or k (n := nr) (by omega) with h | ⟨j, hj, rfl⟩
  · have h9 := n_riderAt_out kN h
    have h8 := m_noRider_out hx x2 hr5 h
    refine ⟨-1, M, M, ?_, ?_, zSkip hz44 g0⟩
    · simp only [e90_0, e90_0n, e90_1, e90_4, e90_5, e90_8, e90_8n, e90_9, e90_9n, e90_10, e90_10n, e90_13, e90_14, e90_15, e90_16, e90_17, e90_18, e90_20, e90_22, e90_23, e90_26, e90_26n, e90_27, e90_30, e90_30n, e90_31, e90_34, e90_35, e90_37, e90_37n, e90_38, e90_41, e90_41n, e90_42, e90_45, e90_48, e90_51, e90_54, e90_55, e90_56, e90_58, e90_59, e90_60, e90_61, e90_64, e90_67, e90_68, ↓reduceIte, zth_v, zth_n, zthv_s, zthi_s, zthm_s, true_or, or_true, eq_self, ne_eq, not_false_eq_true, not_true_eq_false, and_self, and_true, true_and, false_and, and_false, foRR_0, foRR_1, foRR_2, foRR_3, foRR_4, foRR_5, foRR_6, foRR_7, poRR_6, poRR_7, coRR, k0, hz2, h9, Nat.reduceEqDiff]
    · simp only [e167_0, e167_0n, e167_1, e167_2, e167_5, e167_8, e167_9, e167_10, e167_10n, e167_11, e167_14, e167_15, e167_16, e167_17, e167_18, e167_19, e167_20, e167_22, e167_24, e167_25, e167_28, e167_28n, e167_29, e167_32, e167_33, e167_35, e167_36, e167_37, e167_37n, e167_38, e167_41, e167_44, e167_45, e167_47, e167_48, e167_51, e167_52, e167_53, e167_54, e167_57, e167_60, e167_60n, e167_61, e167_64, e167_65, e167_66, e167_67, e167_68, ↓reduceIte, zth_v, zth_n, zthv_s, zthi_s, zthm_s, true_or, or_true, eq_self, ne_eq, not_false_eq_true, not_true_eq_false, and_self, and_true, true_and, false_and, and_false, hz44, h8, i10, Nat.reduceEqDiff]
  have h9 := n_riderAt_in kN hj
  have h8 := m_noRider_in hx x2 hr5 hj
  obtain ⟨q, q1, q2, rfl⟩ := hI_q hI (by omega)
  obtain ⟨y46, y47, y48, y49, y50⟩ := hN.2 j hj
  obtain ⟨r59, r60, r61⟩ := hR
  have tl := t_kinds_loop k0 kN kR hJ hj 3 0 0 (by omega)
  have hx0 : zMdl M x (va_up A 46 (upd (A 46) j (A 46 j))) := by rw [upd_id, va_up_id]; exact hx
  obtain ⟨M', y', i1, i2, i3⟩ := m_kinds_loop (A := A) (was := some (.int (r j).1)) x3 q1 q2 x16 hn8 (fun i hi => by
    obtain ⟨u, hu, e⟩ := hJ i hi
    exact ⟨u, by omega, by rw [r59]; exact e⟩) (show j < 5 by omega) 3 0 M _ 0 (by omega) hx0
  have e9 : (fun v => zall (mSo q (upd (A 46) j (nI v)) (A 47) (A 59) (A 60) (A 61)) n 0) = (fun v => zall (zsoC (nI q) r o mm w (nI j) (nI v) (r j).2.1) n 0) := by
    funext v
    apply zall_congr
    intro i _ hi
    obtain ⟨u, hu, e⟩ := hJ i (by omega)
    unfold mSo zsoC
    rw [r59, r60, r61, e, zquo_q q1 q2, Int32.mul_comm (mm i)]
    have eu : ((nI u = nI j) ↔ u = j) := nI_eq (by omega) (by omega)
    rw [nI_clamp (show u < 2 ^ 31 by omega)]
    by_cases c : u = j
    · subst c
      rw [if_pos rfl, pk_us, y47]
    · obtain ⟨a1, a2, a3⟩ := hN.2 u hu
      rw [if_neg (fun z => c (eu.mp z)), pk_un c, a1, a2]
  rw [e9] at i1
  have i2' := i2.setA 46 (by omega) (by omega) (A 46)
  rw [va_up_up, va_up_id] at i2'
  have oA := i2.2 46 (by omega) (by omega)
  rw [va_up_self] at oA
  have sA := zis_in (n := zsz 46) (f := upd (A 46) j y') (x := (r j).1) (j := j) (show j < 5 by omega) (show 5 < 2 ^ 31 by omega)
  rw [upd_upd, ← y46, upd_id] at sA
  have zA := zia_in (n := zsz 46) (f := A 46) (j := j) (show j < 5 by omega) (show 5 < 2 ^ 31 by omega)
  have oA0 := hx.2 46 (by omega) (by omega)
  have o44' := i2.1
  refine ⟨zacc (fun v => zall (zsoC (nI q) r o mm w (nI j) (nI v) (r j).2.1) n 0) 3 0 0, M, _, ?_, ?_, zFin h65 hz44 zFr.rf (zFr.tr i3 (zFr.rf.set (by omega) (by omega))) hC0 ⟨_, _, i2', hX0, hN, ⟨r59, r60, r61⟩, hS⟩ hI hJ hK⟩
  · simp only [e90_0, e90_0n, e90_1, e90_4, e90_5, e90_8, e90_8n, e90_9, e90_9n, e90_10, e90_10n, e90_13, e90_14, e90_15, e90_16, e90_17, e90_18, e90_22, e90_23, e90_26, e90_26n, e90_27, e90_30, e90_30n, e90_31, e90_34, e90_35, e90_37, e90_37n, e90_38, e90_41, e90_41n, e90_42, e90_45, e90_48, e90_51, e90_54, e90_55, e90_56, e90_58, e90_59, e90_60, e90_61, e90_64, e90_67, e90_68, ↓reduceIte, zth_v, zth_n, zthv_s, zthi_s, zthm_s, true_or, or_true, eq_self, ne_eq, not_false_eq_true, not_true_eq_false, and_self, and_true, true_and, false_and, and_false, foRR_0, foRR_1, foRR_2, foRR_3, foRR_4, foRR_5, foRR_6, foRR_7, poRR_6, poRR_7, coRR, k0, hz2, h9, Nat.reduceEqDiff]
    exact tl
  · have st : ev 167 0 [some (.ref 44), some (.int (nI j)), none, none, none] [] M = ev 167 22 [some (.ref 44), some (.int (nI j)), some (.int (r j).1), some (.int 0), some (.int 0)] [] M := by
      simp only [e167_0, e167_0n, e167_1, e167_2, e167_5, e167_8, e167_9, e167_10, e167_10n, e167_11, e167_14, e167_15, e167_16, e167_17, e167_18, e167_19, e167_20, e167_24, e167_25, e167_28, e167_28n, e167_29, e167_32, e167_33, e167_35, e167_36, e167_37, e167_37n, e167_38, e167_41, e167_44, e167_45, e167_47, e167_48, e167_51, e167_52, e167_53, e167_54, e167_57, e167_60, e167_60n, e167_61, e167_64, e167_65, e167_66, e167_67, e167_68, ↓reduceIte, zth_v, zth_n, zthv_s, zthi_s, zthm_s, true_or, or_true, eq_self, ne_eq, not_false_eq_true, not_true_eq_false, and_self, and_true, true_and, false_and, and_false, foMod_0, foMod_1, foMod_2, foMod_3, foMod_4, foMod_5, foMod_6, foMod_7, foMod_8, foMod_9, foMod_10, foMod_11, foMod_12, foMod_13, foMod_14, foMod_15, foMod_16, foMod_17, foMod_18, foMod_19, foMod_20, foMod_21, foMod_22, foMod_23, foMod_24, foMod_25, foMod_26, foMod_27, foMod_28, foMod_29, foMod_30, foMod_31, foMod_32, foMod_33, foMod_34, foMod_35, foMod_36, foMod_37, foMod_38, poMod_0, poMod_1, poMod_2, poMod_3, poMod_4, poMod_5, poMod_12, poMod_13, poMod_14, poMod_15, poMod_20, poMod_21, poMod_22, poMod_23, poMod_28, poMod_29, poMod_30, poMod_38, coMod, o44, hz44, h8, oA0, zA, y46, Nat.reduceEqDiff]
    rw [st]
    refine i1.trans ?_
    rw [y46] at sA
    simp only [e167_0, e167_0n, e167_1, e167_2, e167_5, e167_8, e167_9, e167_10, e167_10n, e167_11, e167_14, e167_15, e167_16, e167_17, e167_18, e167_19, e167_20, e167_22, e167_24, e167_25, e167_28, e167_28n, e167_29, e167_32, e167_33, e167_35, e167_36, e167_37, e167_37n, e167_38, e167_41, e167_44, e167_45, e167_47, e167_48, e167_51, e167_52, e167_53, e167_54, e167_57, e167_60, e167_60n, e167_61, e167_64, e167_65, e167_66, e167_67, e167_68, ↓reduceIte, zth_v, zth_n, zthv_s, zthi_s, zthm_s, true_or, or_true, eq_self, ne_eq, not_false_eq_true, not_true_eq_false, and_self, and_true, true_and, false_and, and_false, foMod_0, foMod_1, foMod_2, foMod_3, foMod_4, foMod_5, foMod_6, foMod_7, foMod_8, foMod_9, foMod_10, foMod_11, foMod_12, foMod_13, foMod_14, foMod_15, foMod_16, foMod_17, foMod_18, foMod_19, foMod_20, foMod_21, foMod_22, foMod_23, foMod_24, foMod_25, foMod_26, foMod_27, foMod_28, foMod_29, foMod_30, foMod_31, foMod_32, foMod_33, foMod_34, foMod_35, foMod_36, foMod_37, foMod_38, poMod_0, poMod_1, poMod_2, poMod_3, poMod_4, poMod_5, poMod_12, poMod_13, poMod_14, poMod_15, poMod_20, poMod_21, poMod_22, poMod_23, poMod_28, poMod_29, poMod_30, poMod_38, coMod, o44', oA, sA, Nat.reduceEqDiff]
