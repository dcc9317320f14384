/-! Sheets once more; an afternoon that is told -/
def zSh (M : zMem) (a : Nat) (ln : Int32) (n : Nat) (f : Nat → Int32) : Prop := a ≠ 0 ∧ n ≤ 60 ∧ mget M a = some (oSheet (a + 1) ln (nI n)) ∧ mget M (a + 1) = some (.inl (60, f))
theorem zSh.fr {M M' : zMem} {a n : Nat} {ln : Int32} {f : Nat → Int32} (h : zSh M a ln n f) (h0 : mget M' a = mget M a) (h1 : mget M' (a + 1) = mget M (a + 1)) : zSh M' a ln n f := ⟨h.1, h.2.1, h0.trans h.2.2.1, h1.trans h.2.2.2⟩
theorem ni2 (i q : Nat) : nI i + 2 * nI q = nI (i + 2 * q) := by
  rw [show (2 : Int32) = nI 2 from rfl, pk_mul, nI_add]
section SH2
variable {M : zMem} {a n : Nat} {ln : Int32} {f : Nat → Int32}
theorem s_row_loop : ∀ (k j : Nat) (M : zMem) (f : Nat → Int32) (x y : Option Value), j + k = 60 → zSh M a ln n f → (∀ i, i < j → f i = 0) → ∃ M' f', ev 47 24 [some (.ref a), x, y, some (.int (nI j))] [] M = some (none, M') ∧ zSh M' a ln n f' ∧ (∀ i, i < 60 → f' i = 0) ∧ zFr M M' a (a + 1) := by
  intro k
  induction k with
  | zero =>
    intro j M f x y hj h hf
    obtain rfl : j = 60 := by omega
    refine ⟨M, f, ?_, h, hf, zFr.rf⟩
    obtain ⟨ha, hn, h1, h2⟩ := h
    have g1 : nI 60 ≤ nI 60 := ni_ge (Nat.le_refl _) (by omega)
    simp only [e47_0, e47_0n, e47_1, e47_2, e47_5, e47_5n, e47_6, e47_7, e47_8, e47_8n, e47_9, e47_12, e47_13, e47_16, e47_19, e47_22, e47_23, e47_24, e47_25, e47_25n, e47_26, e47_29, e47_30, e47_33, e47_33n, e47_34, e47_37, e47_38, e47_39, e47_40, e47_43, e47_46, ↓reduceIte, zth_v, zth_n, zthv_s, zthi_s, zthm_s, true_or, or_true, eq_self, ne_eq, not_false_eq_true, not_true_eq_false, and_self, and_true, true_and, false_and, and_false, foSheet_0, foSheet_1, foSheet_2, poSheet_1, poSheet_2, coSheet, h1, h2, ha, zal_i, g1]
  | succ k ih =>
    intro j M f x y hj h hf
    have hn2 : zSh (mset M (a + 1) (.inl (60, upd f j 0))) a ln n (upd f j 0) := ⟨h.1, h.2.1, (mget_ne (by omega)).trans h.2.2.1, mget_self⟩
    obtain ⟨M', f', i1, i2, i3, i4⟩ := ih (j + 1) _ _ x y (by omega) hn2 (fun i hi => by
      by_cases e : i = j
      · subst e; exact pk_us
      · rw [pk_un e]; exact hf i (by omega))
    refine ⟨M', f', ?_, i2, i3, zFr.tr (zFr.rf.set (by omega) (by omega)) i4⟩
    obtain ⟨ha, hn, h1, h2⟩ := h
    have g1 : ¬ nI 60 ≤ nI j := ni_nle (by omega) (by omega)
    have g5 := zis_in (n := 60) (f := f) (x := 0) (show j < 60 by omega) (by omega)
    have g6 : a + 1 ≠ 0 := by omega
    rw [e47_24]
    simp only [e47_0, e47_0n, e47_1, e47_2, e47_5, e47_5n, e47_6, e47_7, e47_8, e47_8n, e47_9, e47_12, e47_13, e47_16, e47_19, e47_22, e47_23, e47_25, e47_25n, e47_26, e47_29, e47_30, e47_33, e47_33n, e47_34, e47_37, e47_38, e47_39, e47_40, e47_43, e47_46, ↓reduceIte, zth_v, zth_n, zthv_s, zthi_s, zthm_s, true_or, or_true, eq_self, ne_eq, not_false_eq_true, not_true_eq_false, and_self, and_true, true_and, false_and, and_false, foSheet_0, foSheet_1, foSheet_2, poSheet_1, poSheet_2, coSheet, h1, h2, ha, zal_i, g1, g5, g6, nI_1]
    exact i1
theorem s_becomesRow (h : zSh M a ln n f) {ln' : Int32} {n' : Nat} (hn' : n' ≤ 60) : ∃ M' f', ev 47 0 [some (.ref a), some (.int ln'), some (.int (nI n')), none] [] M = some (none, M') ∧ zSh M' a ln' n' f' ∧ (∀ i, i < 60 → f' i = 0) ∧ zFr M M' a (a + 1) := by
  have hs : zSh (mset M a (oSheet (a + 1) ln' (nI n'))) a ln' n' f := ⟨h.1, hn', mget_self, (mget_ne (by omega)).trans h.2.2.2⟩
  obtain ⟨M', f', i1, i2, i3, i4⟩ := s_row_loop 60 0 _ _ (some (.int ln')) (some (.int (nI n'))) (by omega) hs (fun i hi => by omega)
  refine ⟨M', f', ?_, i2, i3, zFr.tr (zFr.rf.set (by omega) (by omega)) i4⟩
  obtain ⟨ha, hn, h1, h2⟩ := h
  have g1 : ¬ nI 60 < nI n' := nI_nlt hn' (by omega)
  have g2 : (if (0 : Int32) < nI n' then nI n' else 0) = nI n' := by
    by_cases z : n' = 0
    · subst z; rfl
    · rw [if_pos]
      rw [show (0 : Int32) = nI 0 from rfl]
      exact nI_lt (by omega) (by omega)
  have g3 : a + 1 ≠ a := by omega
  simp only [e47_0, e47_0n, e47_1, e47_2, e47_5, e47_5n, e47_6, e47_7, e47_8, e47_8n, e47_9, e47_12, e47_13, e47_16, e47_19, e47_22, e47_23, e47_25, e47_25n, e47_26, e47_29, e47_30, e47_33, e47_33n, e47_34, e47_37, e47_38, e47_39, e47_40, e47_43, e47_46, ↓reduceIte, zth_v, zth_n, zthv_s, zthi_s, zthm_s, true_or, or_true, eq_self, ne_eq, not_false_eq_true, not_true_eq_false, and_self, and_true, true_and, false_and, and_false, foSheet_0, foSheet_1, foSheet_2, poSheet_1, poSheet_2, coSheet, h1, h2, ha, zal_i, mget_self, mget_set, g3, mset_mset, g1, g2]
  rw [nI_0] at i1
  exact i1
theorem s_setCell (h : zSh M a ln n f) {j : Nat} (hj : j < n) {v : Int32} : ev 51 0 [some (.ref a), some (.int (nI j)), some (.int v)] [] M = some (none, mset M (a + 1) (.inl (60, upd f j (if ln = 0 then v.toInt8.toInt32 else if ln = 1 then v.toInt16.toInt32 else v)))) := by
  obtain ⟨ha, hn, h1, h2⟩ := h
  have h9 := s_hasCell_in h1 h2 hn ha hj
  have h8 := s_cutToLane h1 ha (v := v)
  have g5 := fun x => zis_in (n := 60) (f := f) (x := x) (show j < 60 by omega) (by omega)
  have g6 : a + 1 ≠ 0 := by omega
  simp only [e51_0, e51_0n, e51_1, e51_2, e51_5, e51_8, e51_8n, e51_9, e51_12, e51_13, e51_13n, e51_14, e51_15, e51_18, e51_19, ↓reduceIte, zth_v, zth_n, zthv_s, zthi_s, zthm_s, true_or, or_true, eq_self, ne_eq, not_false_eq_true, not_true_eq_false, and_self, and_true, true_and, false_and, and_false, foSheet_0, foSheet_1, foSheet_2, poSheet_1, poSheet_2, coSheet, h1, h2, ha, h9, h8, g5, g6, i10]
theorem s_run_ok {n i m : Nat} (hn : n ≤ 60) (h : i + m ≤ n) : ¬ (nI m < 0 ∨ nI i < 0 ∨ nI n < nI i ∨ nI n - nI i < nI m) := by
  rintro (z | z | z | z)
  · exact nI_pos (by omega) z
  · exact nI_pos (by omega) z
  · exact nI_nlt (by omega) (by omega) z
  · rw [pk_sub (by omega)] at z
    exact nI_nlt (by omega) (by omega) z
theorem zcp_in {f g : Nat → Int32} {i j m : Nat} (h1 : i + m ≤ 60) (h2 : j + m ≤ 60) : zcp (some (.inl (60, f))) (some (.inl (60, g))) (nI i) (nI j) (nI m) = some (.inl (60, va_cpy f g i j m)) := by
  have e : ∀ k, k ≤ 60 → (nI k).toNatClampNeg = k := fun k hk => nI_clamp (by omega)
  have g : ∀ k, k ≤ 60 → ¬ nI k < 0 := fun k hk => nI_pos (by omega)
  simp only [zcp]
  rw [e i (by omega), e j (by omega), e m (by omega), if_neg]
  rintro (z | z | z | z | z)
  · exact g i (by omega) z
  · exact g j (by omega) z
  · exact g m (by omega) z
  · omega
  · omega
theorem s_takesRun (h : zSh M a ln n f) {b n2 : Nat} {ln2 : Int32} {f2 : Nat → Int32} (h' : zSh M b ln2 n2 f2) {i j m : Nat} (hi : i + m ≤ n2) (hj : j + m ≤ n) : ev 53 0 [some (.ref a), some (.int (nI j)), some (.ref b), some (.int (nI i)), some (.int (nI m))] [] M = some (none, mset M (a + 1) (.inl (60, va_cpy f2 f i j m))) := by
  obtain ⟨ha, hn, h1, h2⟩ := h
  obtain ⟨hb, hn2, k1, k2⟩ := h'
  have h9 := s_hasRun h1 h2 hn ha (i := nI j) (m := nI m)
  have h8 := s_hasRun k1 k2 hn2 hb (i := nI i) (m := nI m)
  rw [if_neg (s_run_ok hn hj)] at h9
  rw [if_neg (s_run_ok hn2 hi)] at h8
  have g5 := zcp_in (f := f2) (g := f) (i := i) (j := j) (m := m) (by omega) (by omega)
  have g6 : ¬ (b + 1 = 0 ∨ a + 1 = 0) := by omega
  simp only [e53_0, e53_0n, e53_1, e53_2, e53_4, e53_7, e53_10, e53_10n, e53_11, e53_12, e53_14, e53_17, e53_20, e53_20n, e53_21, e53_24, e53_25, e53_25n, e53_26, e53_29, e53_30, e53_32, e53_35, ↓reduceIte, zth_v, zth_n, zthv_s, zthi_s, zthm_s, true_or, or_true, eq_self, ne_eq, not_false_eq_true, not_true_eq_false, and_self, and_true, true_and, false_and, and_false, foSheet_0, foSheet_1, foSheet_2, poSheet_1, poSheet_2, coSheet, h1, h2, k1, k2, ha, hb, h9, h8, i10, g5, if_neg g6]
end SH2
-- the tale: its object at a, its nursery behind it
abbrev zTS : Type := Int32 × Int32 × (Nat → zRD)
def zpm1 (c : Int32) (F : Nat → Int32) (nl nr : Nat) (s : zTS) : zTS := (s.1 + zlooks s.2.2 nr, s.2.1 ||| zany (fun j => zlandR c F nl (rAfter s.2.2 nr j)) nr, rAfter s.2.2 nr)
def zpm (c : Int32) (F : Nat → Int32) (nl nr : Nat) : Nat → zTS → zTS
  | 0, s => s
  | k + 1, s => zpm c F nl nr k (zpm1 c F nl nr s)
def zTale (M : zMem) (a : Nat) (c : Int32) (nl nr : Nat) (F : Nat → Int32) (s : zTS) : Prop := a ≠ 0 ∧ mget M a = some (oTale (a + 1) s.1 s.2.1) ∧ ∃ m, zNur M (a + 1) c nl nr m F s.2.2
section TALE
variable {a nl nr : Nat} {c : Int32} {F : Nat → Int32}
theorem l_pass_loop {t : Nat} (ht : t ≤ 99) : ∀ (k j : Nat) (M : zMem) (s : zTS), j + k = t → zTale M a c nl nr F s → ∃ M', ev 57 2 [some (.ref a), some (.int (nI t)), some (.int (nI j))] [] M = some (none, M') ∧ zTale M' a c nl nr F (zpm c F nl nr k s) ∧ zFr M M' a (a + 8) := by
  intro k
  induction k with
  | zero =>
    intro j M s hj h
    obtain rfl : j = t := by omega
    refine ⟨M, ?_, h, zFr.rf⟩
    have g1 : nI j ≤ nI j := ni_ge (Nat.le_refl _) (by omega)
    simp only [e57_0, e57_1, e57_2, e57_3, e57_4, e57_7, e57_7n, e57_8, e57_9, e57_12, e57_12n, e57_13, e57_16, e57_19, e57_20, e57_23, e57_23n, e57_24, e57_25, e57_28, e57_28n, e57_29, e57_32, e57_35, e57_36, e57_39, e57_42, e57_45, ↓reduceIte, zth_v, zth_n, zthv_s, zthi_s, zthm_s, true_or, or_true, eq_self, ne_eq, not_false_eq_true, not_true_eq_false, and_self, and_true, true_and, false_and, and_false, g1]
  | succ k ih =>
    intro j M s hj h
    obtain ⟨ha, h1, m, hN⟩ := h
    obtain ⟨M1, i1, i2, i3⟩ := n_passMinute hN
    have k1 : mget M1 a = some (oTale (a + 1) s.1 s.2.1) := (i3.2.2 a (by omega)).trans h1
    have i4 : zNur (mset M1 a (oTale (a + 1) (s.1 + zlooks s.2.2 nr) s.2.1)) (a + 1) c nl nr (m + 1) F (rAfter s.2.2 nr) := i2.fr fun b hb hb2 => mget_ne (by omega)
    have i5 := n_landsWithAnybody i4
    have i6 : zTale (mset (mset M1 a (oTale (a + 1) (s.1 + zlooks s.2.2 nr) s.2.1)) a (oTale (a + 1) (zpm1 c F nl nr s).1 (zpm1 c F nl nr s).2.1)) a c nl nr F (zpm1 c F nl nr s) := ⟨ha, mget_self, m + 1, i4.fr fun b hb hb2 => mget_ne (by omega)⟩
    obtain ⟨M', j1, j2, j3⟩ := ih (j + 1) _ _ (by omega) i6
    refine ⟨M', ?_, j2, zFr.tr ((zFr.set (zFr.set (i3.mono (by omega) (by omega)) (Nat.le_refl _) (by omega)) (Nat.le_refl _) (by omega))) j3⟩
    have g1 : ¬ nI t ≤ nI j := ni_nle (by omega) (by omega)
    have hz : zoc (mget M (a + 1)) = some 1 := by rw [hN.2.2.2.1]; exact coNur
    have hz2 : zoc (mget M1 (a + 1)) = some 1 := by rw [i2.2.2.2.1]; exact coNur
    have g2 : a + 1 ≠ 0 := by omega
    have g3 : a + 1 ≠ a := by omega
    rw [e57_2]
    simp only [e57_0, e57_1, e57_3, e57_4, e57_7, e57_7n, e57_8, e57_9, e57_12, e57_12n, e57_13, e57_16, e57_19, e57_20, e57_23, e57_23n, e57_24, e57_25, e57_28, e57_28n, e57_29, e57_32, e57_35, e57_36, e57_39, e57_42, e57_45, ↓reduceIte, zth_v, zth_n, zthv_s, zthi_s, zthm_s, true_or, or_true, eq_self, ne_eq, not_false_eq_true, not_true_eq_false, and_self, and_true, true_and, false_and, and_false, foTale_0, foTale_1, foTale_2, poTale_1, poTale_2, coTale, h1, ha, g1, g2, g3, hz, hz2, i1, k1, i5, mget_self, mget_set, nI_1]
    exact j1
theorem l_passMinutes {M : zMem} {s : zTS} (h : zTale M a c nl nr F s) {t : Nat} (ht : t ≤ 99) : ∃ M', ev 57 0 [some (.ref a), some (.int (nI t)), none] [] M = some (none, M') ∧ zTale M' a c nl nr F (zpm c F nl nr t s) ∧ zFr M M' a (a + 8) := by
  obtain ⟨M', i1, i2, i3⟩ := l_pass_loop ht t 0 M s (by omega) h
  refine ⟨M', ?_, i2, i3⟩
  simp only [e57_0, e57_1, e57_3, e57_4, e57_7, e57_7n, e57_8, e57_9, e57_12, e57_12n, e57_13, e57_16, e57_19, e57_20, e57_23, e57_23n, e57_24, e57_25, e57_28, e57_28n, e57_29, e57_32, e57_35, e57_36, e57_39, e57_42, e57_45, ↓reduceIte, zth_v, zth_n, zthv_s, zthi_s, zthm_s, true_or, or_true, eq_self, ne_eq, not_false_eq_true, not_true_eq_false, and_self, and_true, true_and, false_and, and_false]
  exact i1
/-- an act: x of whom, or how long; w what -/
def zact (c : Int32) (F : Nat → Int32) (nl nr : Nat) (x w : Int32) (s : zTS) : Option zTS :=
  if w = 2 then some (zpm c F nl nr x.toNatClampNeg s)
  else if w = 1 then (if (s.2.2 x.toNatClampNeg).2.2.2.2.2 = 1 then some (s.1 + 1, s.2.1, va_up s.2.2 x.toNatClampNeg (rUp (s.2.2 x.toNatClampNeg))) else none)
  else (if (s.2.2 x.toNatClampNeg).2.2.2.2.2 = 0 then some (s.1, s.2.1, va_up s.2.2 x.toNatClampNeg (rShut (s.2.2 x.toNatClampNeg))) else none)
def zactOk (nr : Nat) (x w : Int32) : Prop := (w = 2 ∧ ∃ t, t ≤ 20 ∧ x = nI t) ∨ ((w = 0 ∨ w = 1) ∧ ∃ j, j < nr ∧ x = nI j)
theorem l_acts {M : zMem} {s : zTS} (h : zTale M a c nl nr F s) {x w : Int32} (hx : zactOk nr x w) : match zact c F nl nr x w s with
    | some s' => ∃ M', ev 56 0 [some (.ref a), some (.int x), some (.int w), none] [] M = some (some (.int 1), M') ∧ zTale M' a c nl nr F s' ∧ zFr M M' a (a + 8)
    | none => ev 56 0 [some (.ref a), some (.int x), some (.int w), none] [] M = some (some (.int 0), M) := by
  rcases hx with ⟨rfl, t, ht, rfl⟩ | ⟨hw, j, hj, rfl⟩
  · obtain ⟨M', i1, i2, i3⟩ := l_passMinutes h (t := t) (by omega)
    simp only [zact, if_true, nI_clamp (show t < 2 ^ 31 by omega)]
    refine ⟨M', ?_, i2, i3⟩
    have hz : zoc (mget M a) = some 5 := by rw [h.2.1]; exact coTale
    have ha := h.1
    simp only [e56_0, e56_1, e56_2, e56_5, e56_5n, e56_6, e56_7, e56_10, e56_11, e56_12, e56_12n, e56_13, e56_16, e56_17, e56_20, e56_20n, e56_21, e56_21n, e56_22, e56_22n, e56_25, e56_25n, e56_26, e56_29, e56_30, e56_31, e56_34, e56_35, e56_38, e56_39, e56_42, e56_43, e56_44, e56_45, e56_46, e56_49, e56_49n, e56_50, e56_53, e56_53n, e56_54, e56_55, e56_58, e56_59, e56_60, e56_63, e56_66, e56_66n, e56_67, e56_70, e56_71, ↓reduceIte, zth_v, zth_n, zthv_s, zthi_s, zthm_s, true_or, or_true, eq_self, ne_eq, not_false_eq_true, not_true_eq_false, and_self, and_true, true_and, false_and, and_false, hz, ha, i1]
  · obtain ⟨ha, h1, m, hN⟩ := h
    have hnr := hN.2.2.1
    have h9 := n_riderAt_in hN hj
    have h4 := hN.2.2.2.2.2.2.1 j (by omega)
    have h5 := hN.2.2.2.2.2.2.2 j (by omega)
    have hz : zoc (mget M (a + 1)) = some 1 := by rw [hN.2.2.2.1]; exact coNur
    have g2 : a + 1 ≠ 0 := by omega
    have g3 : a + 1 + 3 + j ≠ 0 := by omega
    have g4 : a + 1 + 3 + j ≠ a := by omega
    have g5 : a ≠ a + 1 + 3 + j := by omega
    have k1 := t_looksUp h4 g3
    have k2 := t_shutsEyes h4 g3
    have n1 := hN.setR (j := j) (by omega) (rOk_up (s.2.2 j))
    have n2 := hN.setR (j := j) (by omega) (rOk_shut (s.2.2 j))
    rcases hw with rfl | rfl
    · simp only [zact, show ((0 : Int32) = 2) = False from by decide, i01, if_false, nI_clamp (show j < 2 ^ 31 by omega)]
      by_cases q : (s.2.2 j).2.2.2.2.2 = 0
      · rw [if_pos q]
        refine ⟨mset M (a + 1 + 3 + j) (oRid (rShut (s.2.2 j))), ?_, ⟨ha, (mget_ne (by omega)).trans h1, m, n2⟩, zFr.rf.set (by omega) (by omega)⟩
        simp only [e56_0, e56_1, e56_2, e56_5, e56_5n, e56_6, e56_7, e56_10, e56_11, e56_12, e56_12n, e56_13, e56_16, e56_17, e56_20, e56_20n, e56_21, e56_21n, e56_22, e56_22n, e56_25, e56_25n, e56_26, e56_29, e56_30, e56_31, e56_34, e56_35, e56_38, e56_39, e56_42, e56_43, e56_44, e56_45, e56_46, e56_49, e56_49n, e56_50, e56_53, e56_53n, e56_54, e56_55, e56_58, e56_59, e56_60, e56_63, e56_66, e56_66n, e56_67, e56_70, e56_71, ↓reduceIte, zth_v, zth_n, zthv_s, zthi_s, zthm_s, true_or, or_true, eq_self, ne_eq, not_false_eq_true, not_true_eq_false, and_self, and_true, true_and, false_and, and_false, foTale_0, foTale_1, foTale_2, poTale_1, poTale_2, coTale, foRid_0, foRid_1, foRid_2, foRid_3, foRid_4, foRid_5, poRid_0, poRid_1, poRid_2, poRid_3, poRid_4, poRid_5a, poRid_5b, coRid, show ((0 : Int32) = 2) = False from by decide, i01, h1, ha, g2, g3, hz, h9, h4, q, k2]
      · rw [if_neg q]
        simp only [e56_0, e56_1, e56_2, e56_5, e56_5n, e56_6, e56_7, e56_10, e56_11, e56_12, e56_12n, e56_13, e56_16, e56_17, e56_20, e56_20n, e56_21, e56_21n, e56_22, e56_22n, e56_25, e56_25n, e56_26, e56_29, e56_30, e56_31, e56_34, e56_35, e56_38, e56_39, e56_42, e56_43, e56_44, e56_45, e56_46, e56_49, e56_49n, e56_50, e56_53, e56_53n, e56_54, e56_55, e56_58, e56_59, e56_60, e56_63, e56_66, e56_66n, e56_67, e56_70, e56_71, ↓reduceIte, zth_v, zth_n, zthv_s, zthi_s, zthm_s, true_or, or_true, eq_self, ne_eq, not_false_eq_true, not_true_eq_false, and_self, and_true, true_and, false_and, and_false, foTale_0, foTale_1, foTale_2, poTale_1, poTale_2, coTale, foRid_0, foRid_1, foRid_2, foRid_3, foRid_4, foRid_5, poRid_0, poRid_1, poRid_2, poRid_3, poRid_4, poRid_5a, poRid_5b, coRid, show ((0 : Int32) = 2) = False from by decide, i01, h1, ha, g2, g3, hz, h9, h4, q]
    · simp only [zact, show ((1 : Int32) = 2) = False from by decide, if_false, if_true, nI_clamp (show j < 2 ^ 31 by omega)]
      by_cases q : (s.2.2 j).2.2.2.2.2 = 1
      · rw [if_pos q]
        refine ⟨mset (mset M (a + 1 + 3 + j) (oRid (rUp (s.2.2 j)))) a (oTale (a + 1) (s.1 + 1) s.2.1), ?_, ⟨ha, mget_self, m, n1.fr fun b hb hb2 => mget_ne (by omega)⟩, (zFr.rf.set (by omega) (by omega)).set (Nat.le_refl _) (by omega)⟩
        simp only [e56_0, e56_1, e56_2, e56_5, e56_5n, e56_6, e56_7, e56_10, e56_11, e56_12, e56_12n, e56_13, e56_16, e56_17, e56_20, e56_20n, e56_21, e56_21n, e56_22, e56_22n, e56_25, e56_25n, e56_26, e56_29, e56_30, e56_31, e56_34, e56_35, e56_38, e56_39, e56_42, e56_43, e56_44, e56_45, e56_46, e56_49, e56_49n, e56_50, e56_53, e56_53n, e56_54, e56_55, e56_58, e56_59, e56_60, e56_63, e56_66, e56_66n, e56_67, e56_70, e56_71, ↓reduceIte, zth_v, zth_n, zthv_s, zthi_s, zthm_s, true_or, or_true, eq_self, ne_eq, not_false_eq_true, not_true_eq_false, and_self, and_true, true_and, false_and, and_false, foTale_0, foTale_1, foTale_2, poTale_1, poTale_2, coTale, foRid_0, foRid_1, foRid_2, foRid_3, foRid_4, foRid_5, poRid_0, poRid_1, poRid_2, poRid_3, poRid_4, poRid_5a, poRid_5b, coRid, show ((1 : Int32) = 2) = False from by decide, i11, h1, ha, g2, g3, g5, hz, h9, h4, q, k1, mget_set]
      · rw [if_neg q]
        simp only [e56_0, e56_1, e56_2, e56_5, e56_5n, e56_6, e56_7, e56_10, e56_11, e56_12, e56_12n, e56_13, e56_16, e56_17, e56_20, e56_20n, e56_21, e56_21n, e56_22, e56_22n, e56_25, e56_25n, e56_26, e56_29, e56_30, e56_31, e56_34, e56_35, e56_38, e56_39, e56_42, e56_43, e56_44, e56_45, e56_46, e56_49, e56_49n, e56_50, e56_53, e56_53n, e56_54, e56_55, e56_58, e56_59, e56_60, e56_63, e56_66, e56_66n, e56_67, e56_70, e56_71, ↓reduceIte, zth_v, zth_n, zthv_s, zthi_s, zthm_s, true_or, or_true, eq_self, ne_eq, not_false_eq_true, not_true_eq_false, and_self, and_true, true_and, false_and, and_false, foTale_0, foTale_1, foTale_2, poTale_1, poTale_2, coTale, foRid_0, foRid_1, foRid_2, foRid_3, foRid_4, foRid_5, poRid_0, poRid_1, poRid_2, poRid_3, poRid_4, poRid_5a, poRid_5b, coRid, show ((1 : Int32) = 2) = False from by decide, i11, h1, ha, g2, g3, hz, h9, h4, q]
/-- k pairs from pair j on: the first wrong and what stands then -/
def ztell (c : Int32) (F : Nat → Int32) (nl nr : Nat) (f : Nat → Int32) (i : Nat) : Nat → Nat → zTS → Int32 × zTS
  | 0, _, s => (-9, s)
  | k + 1, j, s => match zact c F nl nr (f (i + 2 * j)) (f (i + 2 * j + 1)) s with
    | some s' => ztell c F nl nr f i k (j + 1) s'
    | none => (nI j, s)
theorem l_tells_loop {b n : Nat} {ln : Int32} {f : Nat → Int32} {i t : Nat} (ht : t ≤ 20) (hit : i + 2 * t ≤ n) (hb : b + 1 < a ∨ a + 8 < b) (hok : ∀ j, j < t → zactOk nr (f (i + 2 * j)) (f (i + 2 * j + 1))) {x : Option Value} : ∀ (k j : Nat) (M : zMem) (s : zTS), j + k = t → zTale M a c nl nr F s → zSh M b ln n f → ∃ M', ev 55 21 [some (.ref a), x, some (.ref b), some (.int (nI i)), some (.int (nI t)), some (.int (nI j))] [] M = some (some (.int (ztell c F nl nr f i k j s).1), M') ∧ zTale M' a c nl nr F (ztell c F nl nr f i k j s).2 ∧ zFr M M' a (a + 8) := by
  intro k
  induction k with
  | zero =>
    intro j M s hj h hS
    obtain rfl : j = t := by omega
    refine ⟨M, ?_, h, zFr.rf⟩
    have g1 : nI j ≤ nI j := ni_ge (Nat.le_refl _) (by omega)
    simp only [e55_0, e55_0n, e55_1, e55_4, e55_4n, e55_5, e55_8, e55_8n, e55_9, e55_10, e55_13, e55_13n, e55_14, e55_15, e55_18, e55_19, e55_21, e55_23, e55_25, e55_28, e55_28n, e55_29, e55_29n, e55_30, e55_31, e55_32, e55_34, e55_35, e55_36, e55_39, e55_39n, e55_40, e55_41, e55_42, e55_44, e55_45, e55_46, e55_47, e55_48, e55_51, e55_54, e55_57, e55_59, e55_60, e55_63, e55_66, e55_68, ↓reduceIte, zth_v, zth_n, zthv_s, zthi_s, zthm_s, true_or, or_true, eq_self, ne_eq, not_false_eq_true, not_true_eq_false, and_self, and_true, true_and, false_and, and_false, g1, ztell]
  | succ k ih =>
    intro j M s hj h hS
    have hA := l_acts h (hok j (by omega))
    have hS0 := hS
    obtain ⟨hb0, hn, k1, k2⟩ := hS
    have g1 : ¬ nI t ≤ nI j := ni_nle (by omega) (by omega)
    have s1 := s_at_in k1 k2 hn hb0 (j := i + 2 * j) (by omega)
    have s2 := s_at_in k1 k2 hn hb0 (j := i + 2 * j + 1) (by omega)
    have hz : zoc (mget M a) = some 5 := by rw [h.2.1]; exact coTale
    have ha := h.1
    rw [ztell]
    revert hA
    cases hact : zact c F nl nr (f (i + 2 * j)) (f (i + 2 * j + 1)) s with
    | none =>
      intro hA
      refine ⟨M, ?_, h, zFr.rf⟩
      rw [e55_21]
      simp only [e55_0, e55_0n, e55_1, e55_4, e55_4n, e55_5, e55_8, e55_8n, e55_9, e55_10, e55_13, e55_13n, e55_14, e55_15, e55_18, e55_19, e55_23, e55_25, e55_28, e55_28n, e55_29, e55_29n, e55_30, e55_31, e55_32, e55_34, e55_35, e55_36, e55_39, e55_39n, e55_40, e55_41, e55_42, e55_44, e55_45, e55_46, e55_47, e55_48, e55_51, e55_54, e55_57, e55_59, e55_60, e55_63, e55_66, e55_68, ↓reduceIte, zth_v, zth_n, zthv_s, zthi_s, zthm_s, true_or, or_true, eq_self, ne_eq, not_false_eq_true, not_true_eq_false, and_self, and_true, true_and, false_and, and_false, foSheet_0, foSheet_1, foSheet_2, poSheet_1, poSheet_2, coSheet, k1, hb0, ha, hz, g1, ni2, s1, s2, hA, nI_1]
    | some s' =>
      intro hA
      obtain ⟨M1, a1, a2, a3⟩ := hA
      obtain ⟨M', b1, b2, b3⟩ := ih (j + 1) M1 s' (by omega) a2 (hS0.fr (a3.2.2 _ (by omega)) (a3.2.2 _ (by omega)))
      refine ⟨M', ?_, b2, zFr.tr a3 b3⟩
      rw [e55_21]
      simp only [e55_0, e55_0n, e55_1, e55_4, e55_4n, e55_5, e55_8, e55_8n, e55_9, e55_10, e55_13, e55_13n, e55_14, e55_15, e55_18, e55_19, e55_23, e55_25, e55_28, e55_28n, e55_29, e55_29n, e55_30, e55_31, e55_32, e55_34, e55_35, e55_36, e55_39, e55_39n, e55_40, e55_41, e55_42, e55_44, e55_45, e55_46, e55_47, e55_48, e55_51, e55_54, e55_57, e55_59, e55_60, e55_63, e55_66, e55_68, ↓reduceIte, zth_v, zth_n, zthv_s, zthi_s, zthm_s, true_or, or_true, eq_self, ne_eq, not_false_eq_true, not_true_eq_false, and_self, and_true, true_and, false_and, and_false, foSheet_0, foSheet_1, foSheet_2, poSheet_1, poSheet_2, coSheet, k1, hb0, ha, hz, g1, ni2, s1, s2, a1, nI_1, i10]
      exact b1
theorem l_tells {M : zMem} {s : zTS} {nl0 nr0 : Nat} {c0 m0 : Int32} {F0 : Nat → Int32} (h : zTale M a c0 nl0 nr0 F0 s) {A : Nat} {m : Int32} {r : Nat → zRD} (hA : zNur M A c nl nr m F r) (hd : A + 7 < a ∨ a + 8 < A) {b n : Nat} {ln : Int32} {f : Nat → Int32} (hS : zSh M b ln n f) {i t : Nat} (ht : t ≤ 20) (hit : i + 2 * t ≤ n) (hb : b + 1 < a ∨ a + 8 < b) (hok : ∀ j, j < t → zactOk nr (f (i + 2 * j)) (f (i + 2 * j + 1))) :
    ∃ M' F1, ev 55 0 [some (.ref a), some (.ref A), some (.ref b), some (.int (nI i)), some (.int (nI t)), none] [] M = some (some (.int (ztell c F1 nl nr f i t 0 (0, 0, r)).1), M') ∧ zTale M' a c nl nr F1 (ztell c F1 nl nr f i t 0 (0, 0, r)).2 ∧ (∀ i, i < 5 → F1 i = F i) ∧ zFr M M' a (a + 8) := by
  obtain ⟨ha, h1, m1, hN⟩ := h
  obtain ⟨M1, F1, i1, i2, i3, i4⟩ := n_becomesLike (B := a + 1) (C := A) (by omega) hN hA
  have k1 : mget M1 a = some (oTale (a + 1) s.1 s.2.1) := (i4.2.2 a (by omega)).trans h1
  have hT : zTale (mset M1 a (oTale (a + 1) 0 0)) a c nl nr F1 (0, 0, r) := ⟨ha, mget_self, m, i3.fr fun q hq hq2 => mget_ne (by omega)⟩
  have hS1 : zSh (mset M1 a (oTale (a + 1) 0 0)) b ln n f := hS.fr ((mget_ne (by omega)).trans (i4.2.2 _ (by omega))) ((mget_ne (by omega)).trans (i4.2.2 _ (by omega)))
  obtain ⟨M', j1, j2, j3⟩ := l_tells_loop ht hit hb hok (x := some (.ref A)) t 0 _ _ (by omega) hT hS1
  refine ⟨M', F1, ?_, j2, i2, zFr.tr ((i4.mono (by omega) (by omega)).set (Nat.le_refl _) (by omega)) j3⟩
  have hz : zoc (mget M (a + 1)) = some 1 := by rw [hN.2.2.2.1]; exact coNur
  have g2 : a + 1 ≠ 0 := by omega
  simp only [e55_0, e55_0n, e55_1, e55_4, e55_4n, e55_5, e55_8, e55_8n, e55_9, e55_10, e55_13, e55_13n, e55_14, e55_15, e55_18, e55_19, e55_23, e55_25, e55_28, e55_28n, e55_29, e55_29n, e55_30, e55_31, e55_32, e55_34, e55_35, e55_36, e55_39, e55_39n, e55_40, e55_41, e55_42, e55_44, e55_45, e55_46, e55_47, e55_48, e55_51, e55_54, e55_57, e55_59, e55_60, e55_63, e55_66, e55_68, ↓reduceIte, zth_v, zth_n, zthv_s, zthi_s, zthm_s, true_or, or_true, eq_self, ne_eq, not_false_eq_true, not_true_eq_false, and_self, and_true, true_and, false_and, and_false, foTale_0, foTale_1, foTale_2, poTale_1, poTale_2, coTale, h1, ha, hz, g2, i1, k1, mget_self, mset_mset]
  rw [nI_0] at j1
  exact j1
end TALE
