/-! The model's minute -/
theorem zRid_min {q : zRD} (h : zRid q) (hk : rOk q) : zRid (rMin q) := by
  obtain ⟨h1, h2, t, u, t1, t2, t3, t4, u1, u2⟩ := h
  unfold rMin
  split
  · exact ⟨h1, h2, t, u, t1, t2, t3, t4, u1, u2⟩
  · rename_i e
    split
    · rename_i c
      rw [u1, t4] at c
      have : u < t := by
        by_cases w : u < t
        · exact w
        · exact absurd c (nI_nlt (by omega) (by omega))
      exact ⟨h1, h2, t, u + 1, t1, t2, by omega, t4, by show q.2.2.2.2.1 + 1 = _; rw [u1, nI_1], fun z => absurd z e⟩
    · exact ⟨h1, h2, t, 0, t1, t2, by omega, t4, rfl, fun _ => rfl⟩
theorem rAfter_ok {r : Nat → zRD} {nr : Nat} (h : ∀ j, j < nr → zRid (r j)) (hk : ∀ j, j < nr → rOk (r j)) (n : Nat) : ∀ j, j < nr → zRid (rAfter r n j) := by
  intro j hj
  unfold rAfter
  split
  · exact zRid_min (h j hj) (hk j hj)
  · exact h j hj
theorem rAfter_ok2 {r : Nat → zRD} {nr : Nat} (hk : ∀ j, j < nr → rOk (r j)) (n : Nat) : ∀ j, j < nr → rOk (rAfter r n j) := by
  intro j hj
  unfold rAfter
  split
  · exact rOk_min (hk j hj)
  · exact hk j hj
def zSame (x y : Nat → Int32) (A B : Nat → Nat → Int32) : Prop := (∀ i, i ≠ 4 → i ≠ 5 → i ≠ 10 → i ≠ 11 → y i = x i) ∧ ∀ a, a ≠ 49 → a ≠ 50 → B a = A a
theorem zSame.rf {x : Nat → Int32} {A : Nat → Nat → Int32} : zSame x x A A := ⟨fun _ _ _ _ _ => rfl, fun _ _ _ => rfl⟩
theorem zSame.tr {x y z : Nat → Int32} {A B C : Nat → Nat → Int32} (h : zSame x y A B) (h' : zSame y z B C) : zSame x z A C := ⟨fun i a b c d => (h'.1 i a b c d).trans (h.1 i a b c d), fun i a b => (h'.2 i a b).trans (h.2 i a b)⟩
theorem zSame.lk {x : Nat → Int32} {A : Nat → Nat → Int32} (j : Nat) : zSame x (xLk x j) A (aLk A j) := ⟨fun i _ h5 h10 _ => by unfold xLk; rw [pk_un h10, pk_un h5], fun a h49 h50 => by unfold aLk; rw [va_up_ne _ _ h50, va_up_ne _ _ h49]⟩
section PS
variable {x : Nat → Int32} {A : Nat → Nat → Int32} {nl nr : Nat} {F : Nat → Int32} {r : Nat → zRD}
theorem m_pass1 (x2 : x 2 = nI nr) (hr5 : nr ≤ 5) (hR : ∀ j, j < nr → zRid (r j)) (hO : ∀ j, j < nr → rOk (r j)) {L : Int32} : ∀ k j M y B, j + k = nr → zMdl M y B → zSame x y A B → y 5 = zshut (rAfter r j) nr → y 10 = L + zlooks r j → zRlN B nl nr F (rAfter r j) → ∃ M' y' B', ev 143 2 [some (.ref 44), some (.int (nI j)), none] [] M = ev 143 85 [some (.ref 44), some (.int (nI nr)), none] [] M' ∧ zMdl M' y' B' ∧ zSame x y' A B' ∧ y' 5 = zshut (rAfter r nr) nr ∧ y' 10 = L + zlooks r nr ∧ y' 4 = y 4 ∧ y' 11 = y 11 ∧ zRlN B' nl nr F (rAfter r nr) ∧ zFr M M' 44 65 := by
  intro k
  induction k with
  | zero =>
    intro j M y B hj h hs h5 h10 hN
    obtain rfl : j = nr := by omega
    refine ⟨M, y, B, ?_, h, hs, h5, h10, rfl, rfl, hN, zFr.rf⟩
    have g1 : nI j ≤ nI j := ni_ge (Nat.le_refl _) (by omega)
    have o44 := h.1
    have y2 : y 2 = nI j := (hs.1 2 (by omega) (by omega) (by omega) (by omega)).trans x2
    simp only [e143_0, e143_1, e143_2, e143_3, e143_3n, e143_4, e143_7, e143_10, e143_10n, e143_11, e143_14, e143_15, e143_18, e143_21, e143_21n, e143_22, e143_25, e143_26, e143_27, e143_27n, e143_28, e143_31, e143_32, e143_33, e143_36, e143_36n, e143_37, e143_38, e143_41, e143_44, e143_44n, e143_45, e143_48, e143_49, e143_52, e143_55, e143_55n, e143_56, e143_59, e143_60, e143_61, e143_62, e143_62n, e143_63, e143_64, e143_67, e143_68, e143_69, e143_69n, e143_70, e143_73, e143_74, e143_75, e143_76, e143_77, e143_78, e143_79, e143_82, e143_86, e143_87, e143_88, e143_88n, e143_89, e143_92, e143_95, e143_95n, e143_96, e143_96n, e143_97, e143_100, e143_101, e143_102, e143_105, e143_106, e143_106n, e143_107, e143_108, e143_111, e143_112, e143_115, e143_116, e143_119, e143_120, e143_121, e143_122, e143_123, e143_126, e143_129, e143_132, e143_132n, e143_133, e143_134, e143_137, e143_138, e143_139, e143_142, ↓reduceIte, zth_v, zth_n, zthv_s, zthi_s, zthm_s, true_or, or_true, eq_self, ne_eq, not_false_eq_true, not_true_eq_false, and_self, and_true, true_and, false_and, and_false, foMod_0, foMod_1, foMod_2, foMod_3, foMod_4, foMod_5, foMod_6, foMod_7, foMod_8, foMod_9, foMod_10, foMod_11, foMod_12, foMod_13, foMod_14, foMod_15, foMod_16, foMod_17, foMod_18, foMod_19, foMod_20, foMod_21, foMod_22, foMod_23, foMod_24, foMod_25, foMod_26, foMod_27, foMod_28, foMod_29, foMod_30, foMod_31, foMod_32, foMod_33, foMod_34, foMod_35, foMod_36, foMod_37, foMod_38, poMod_0, poMod_1, poMod_2, poMod_3, poMod_4, poMod_5, poMod_12, poMod_13, poMod_14, poMod_15, poMod_20, poMod_21, poMod_22, poMod_23, poMod_28, poMod_29, poMod_30, poMod_38, coMod, o44, y2, g1, Nat.reduceEqDiff]
  | succ k ih =>
    intro j M y B hj h hs h5 h10 hN
    have g1 : ¬ nI nr ≤ nI j := ni_nle (by omega) (by omega)
    have y2 : y 2 = nI nr := (hs.1 2 (by omega) (by omega) (by omega) (by omega)).trans x2
    have o44 := h.1
    have hz44 : zoc (mget M 44) = some 8 := by rw [h.1]; exact coMod
    have hj' : j < nr := by omega
    have ej := rAfter_at r j
    have es := rAfter_s r j
    have gt := zshut_get (r := rAfter r j) hr5 hj' (by rw [ej]; exact hO j hj')
    rw [ej] at gt
    obtain ⟨a1, a2, a3, a4, a5⟩ := hN.2 j hj'
    rw [ej] at a1 a2 a3 a4 a5
    obtain ⟨r1, r2, t, u, t1, t2, t3, t4, u1, u2⟩ := hR j hj'
    have o48 := h.2 48 (by omega) (by omega)
    have o49 := h.2 49 (by omega) (by omega)
    have o50 := h.2 50 (by omega) (by omega)
    have z48 := zia_in (n := zsz 48) (f := B 48) (j := j) (show j < 5 by omega) (show 5 < 2 ^ 31 by omega)
    have z49 := zia_in (n := zsz 49) (f := B 49) (j := j) (show j < 5 by omega) (show 5 < 2 ^ 31 by omega)
    have z50 := zia_in (n := zsz 50) (f := B 50) (j := j) (show j < 5 by omega) (show 5 < 2 ^ 31 by omega)
    rw [a3, t4] at z48
    rw [a4] at z49
    rw [a5, u1] at z50
    rcases hO j hj' with e | e
    · have em : rMin (r j) = r j := by unfold rMin; rw [if_pos e]
      have er : rAfter r (j + 1) = rAfter r j := by
        rw [← es, em]
        have z := va_up_id (f := rAfter r j) (j := j)
        rw [ej] at z
        exact z
      have el : zlooks r (j + 1) = zlooks r j := by rw [zlooks]; unfold rLook; rw [if_pos e, if_pos rfl]
      rw [e] at gt
      rw [← er] at h5 hN
      rw [← el] at h10
      obtain ⟨M', y', B', i1, i2⟩ := ih (j + 1) M y B (by omega) h hs h5 h10 hN
      refine ⟨M', y', B', ?_, i2⟩
      rw [er] at h5
      rw [← i1, e143_2]
      simp only [e143_0, e143_1, e143_3, e143_3n, e143_4, e143_7, e143_10, e143_10n, e143_11, e143_14, e143_15, e143_18, e143_21, e143_21n, e143_22, e143_25, e143_26, e143_27, e143_27n, e143_28, e143_31, e143_32, e143_33, e143_36, e143_36n, e143_37, e143_38, e143_41, e143_44, e143_44n, e143_45, e143_48, e143_49, e143_52, e143_55, e143_55n, e143_56, e143_59, e143_60, e143_61, e143_62, e143_62n, e143_63, e143_64, e143_67, e143_68, e143_69, e143_69n, e143_70, e143_73, e143_74, e143_75, e143_76, e143_77, e143_78, e143_79, e143_82, e143_86, e143_87, e143_88, e143_88n, e143_89, e143_92, e143_95, e143_95n, e143_96, e143_96n, e143_97, e143_100, e143_101, e143_102, e143_105, e143_106, e143_106n, e143_107, e143_108, e143_111, e143_112, e143_115, e143_116, e143_119, e143_120, e143_121, e143_122, e143_123, e143_126, e143_129, e143_132, e143_132n, e143_133, e143_134, e143_137, e143_138, e143_139, e143_142, ↓reduceIte, zth_v, zth_n, zthv_s, zthi_s, zthm_s, true_or, or_true, eq_self, ne_eq, not_false_eq_true, not_true_eq_false, and_self, and_true, true_and, false_and, and_false, foMod_0, foMod_1, foMod_2, foMod_3, foMod_4, foMod_5, foMod_6, foMod_7, foMod_8, foMod_9, foMod_10, foMod_11, foMod_12, foMod_13, foMod_14, foMod_15, foMod_16, foMod_17, foMod_18, foMod_19, foMod_20, foMod_21, foMod_22, foMod_23, foMod_24, foMod_25, foMod_26, foMod_27, foMod_28, foMod_29, foMod_30, foMod_31, foMod_32, foMod_33, foMod_34, foMod_35, foMod_36, foMod_37, foMod_38, poMod_0, poMod_1, poMod_2, poMod_3, poMod_4, poMod_5, poMod_12, poMod_13, poMod_14, poMod_15, poMod_20, poMod_21, poMod_22, poMod_23, poMod_28, poMod_29, poMod_30, poMod_38, coMod, o44, y2, h5, m_isIn, gt, g1, i01, nI_1, Nat.reduceEqDiff]
    · rw [e] at gt
      by_cases c : u = t
      · subst c
        have c2 : ¬ nI u < nI u := nI_nlt (Nat.le_refl _) (by omega)
        have em : rMin (r j) = rUp (r j) := by unfold rMin; rw [if_neg (by rw [e]; decide), if_neg (by rw [u1, t4]; exact c2)]
        have el : zlooks r (j + 1) = zlooks r j + 1 := by
          have lk : rLook (r j) = 1 := by unfold rLook; rw [if_neg (by rw [e]; decide), if_neg (by rw [u1, t4]; exact c2)]
          rw [zlooks, lk, if_neg (by decide)]
        obtain ⟨M1, l1, l2, l3⟩ := m_looked h (j := j) (by omega)
        have e7 := zshut_up (r := rAfter r j) hr5 hj' (q := rMin (r j)) (by rw [em]; rfl)
        rw [es] at e7
        obtain ⟨M', y', B', i1, i2, i3, i4, i5, i6, i7, i8, i9⟩ := ih (j + 1) M1 _ _ (by omega) l2 (hs.tr (zSame.lk j)) (by rw [e7, ← h5]; rfl) (by rw [el, ← Int32.add_assoc, ← h10]; rfl) ⟨hN.1, fun i hi => by
          obtain ⟨b1, b2, b3, b4, b5⟩ := hN.2 i hi
          rw [← es, em]
          show B 46 i = _ ∧ B 47 i = _ ∧ B 48 i = _ ∧ upd (B 49) j 0 i = _ ∧ upd (B 50) j 0 i = _
          by_cases w1 : i = j
          · subst w1
            rw [va_up_self, pk_us, pk_us]
            exact ⟨a1, a2, a3, rfl, rfl⟩
          · rw [va_up_ne _ _ w1, pk_un w1, pk_un w1]; exact ⟨b1, b2, b3, b4, b5⟩⟩
        refine ⟨M', y', B', ?_, i2, i3, i4, i5, i6, i7, i8, zFr.tr l3 i9⟩
        rw [← i1, e143_2]
        simp only [e143_0, e143_1, e143_3, e143_3n, e143_4, e143_7, e143_10, e143_10n, e143_11, e143_14, e143_15, e143_18, e143_21, e143_21n, e143_22, e143_25, e143_26, e143_27, e143_27n, e143_28, e143_31, e143_32, e143_33, e143_36, e143_36n, e143_37, e143_38, e143_41, e143_44, e143_44n, e143_45, e143_48, e143_49, e143_52, e143_55, e143_55n, e143_56, e143_59, e143_60, e143_61, e143_62, e143_62n, e143_63, e143_64, e143_67, e143_68, e143_69, e143_69n, e143_70, e143_73, e143_74, e143_75, e143_76, e143_77, e143_78, e143_79, e143_82, e143_86, e143_87, e143_88, e143_88n, e143_89, e143_92, e143_95, e143_95n, e143_96, e143_96n, e143_97, e143_100, e143_101, e143_102, e143_105, e143_106, e143_106n, e143_107, e143_108, e143_111, e143_112, e143_115, e143_116, e143_119, e143_120, e143_121, e143_122, e143_123, e143_126, e143_129, e143_132, e143_132n, e143_133, e143_134, e143_137, e143_138, e143_139, e143_142, ↓reduceIte, zth_v, zth_n, zthv_s, zthi_s, zthm_s, true_or, or_true, eq_self, ne_eq, not_false_eq_true, not_true_eq_false, and_self, and_true, true_and, false_and, and_false, foMod_0, foMod_1, foMod_2, foMod_3, foMod_4, foMod_5, foMod_6, foMod_7, foMod_8, foMod_9, foMod_10, foMod_11, foMod_12, foMod_13, foMod_14, foMod_15, foMod_16, foMod_17, foMod_18, foMod_19, foMod_20, foMod_21, foMod_22, foMod_23, foMod_24, foMod_25, foMod_26, foMod_27, foMod_28, foMod_29, foMod_30, foMod_31, foMod_32, foMod_33, foMod_34, foMod_35, foMod_36, foMod_37, foMod_38, poMod_0, poMod_1, poMod_2, poMod_3, poMod_4, poMod_5, poMod_12, poMod_13, poMod_14, poMod_15, poMod_20, poMod_21, poMod_22, poMod_23, poMod_28, poMod_29, poMod_30, poMod_38, coMod, o44, hz44, y2, h5, m_isIn, gt, g1, o48, o50, z48, z50, l1, i10, nI_1, Nat.reduceEqDiff]
      · have c2 : nI u < nI t := nI_lt (by omega) (by omega)
        have c3 : ¬ nI u = nI t := fun z => c ((nI_eq (by omega) (by omega)).mp z)
        have em : rMin (r j) = ((r j).1, (r j).2.1, (r j).2.2.1, (r j).2.2.2.1 + zpace (r j).1 (r j).2.1, (r j).2.2.2.2.1 + 1, (r j).2.2.2.2.2) := by unfold rMin; rw [if_neg (by rw [e]; decide), if_pos (by rw [u1, t4]; exact c2)]
        have el : zlooks r (j + 1) = zlooks r j := by
          have lk : rLook (r j) = 0 := by unfold rLook; rw [if_neg (by rw [e]; decide), if_pos (by rw [u1, t4]; exact c2)]
          rw [zlooks, lk, if_pos rfl]
        have h1 := h.setA 49 (by omega) (by omega) (upd (B 49) j ((r j).2.2.2.1 + zpace (r j).1 (r j).2.1))
        have h2 := h1.setA 50 (by omega) (by omega) (upd (B 50) j (nI (u + 1)))
        have e7 : zshut (rAfter r (j + 1)) nr = zshut (rAfter r j) nr := by
          have z1 := zshut_shut (r := rAfter r j) hr5 hj' (q := rMin (r j)) (by rw [em]; exact e)
          have z2 := zshut_shut (r := rAfter r j) hr5 hj' (q := rAfter r j j) (by rw [ej]; exact e)
          rw [va_up_id] at z2
          rw [es] at z1
          rw [z1, ← z2]
        obtain ⟨M', y', B', i1, i2, i3, i4, i5, i6, i7, i8, i9⟩ := ih (j + 1) _ _ _ (by omega) h2 (hs.tr ⟨fun _ _ _ _ _ => rfl, fun a h49 h50 => by rw [va_up_ne _ _ h50, va_up_ne _ _ h49]⟩) (by rw [e7]; exact h5) (by rw [el]; exact h10) ⟨hN.1, fun i hi => by
          obtain ⟨b1, b2, b3, b4, b5⟩ := hN.2 i hi
          rw [← es, em]
          show B 46 i = _ ∧ B 47 i = _ ∧ B 48 i = _ ∧ upd (B 49) j _ i = _ ∧ upd (B 50) j _ i = _
          by_cases w1 : i = j
          · subst w1
            rw [va_up_self, pk_us, pk_us]
            exact ⟨a1, a2, a3, rfl, by show nI (u + 1) = (r i).2.2.2.2.1 + 1; rw [u1, nI_1]⟩
          · rw [va_up_ne _ _ w1, pk_un w1, pk_un w1]; exact ⟨b1, b2, b3, b4, b5⟩⟩
        refine ⟨M', y', B', ?_, i2, i3, i4, i5, i6, i7, i8, zFr.tr ((zFr.rf.set (by omega) (by omega)).set (by omega) (by omega)) i9⟩
        have pc := m_paceOf h (j := j) (by omega)
        rw [a1, a2] at pc
        have o44' := h1.1
        have o50' := h1.2 50 (by omega) (by omega)
        rw [va_up_ne _ _ (by omega)] at o50'
        have s49 := zis_in (n := zsz 49) (f := B 49) (x := (r j).2.2.2.1 + zpace (r j).1 (r j).2.1) (j := j) (show j < 5 by omega) (show 5 < 2 ^ 31 by omega)
        have s50 := zis_in (n := zsz 50) (f := B 50) (x := nI (u + 1)) (j := j) (show j < 5 by omega) (show 5 < 2 ^ 31 by omega)
        rw [← i1, e143_2]
        simp only [e143_0, e143_1, e143_3, e143_3n, e143_4, e143_7, e143_10, e143_10n, e143_11, e143_14, e143_15, e143_18, e143_21, e143_21n, e143_22, e143_25, e143_26, e143_27, e143_27n, e143_28, e143_31, e143_32, e143_33, e143_36, e143_36n, e143_37, e143_38, e143_41, e143_44, e143_44n, e143_45, e143_48, e143_49, e143_52, e143_55, e143_55n, e143_56, e143_59, e143_60, e143_61, e143_62, e143_62n, e143_63, e143_64, e143_67, e143_68, e143_69, e143_69n, e143_70, e143_73, e143_74, e143_75, e143_76, e143_77, e143_78, e143_79, e143_82, e143_86, e143_87, e143_88, e143_88n, e143_89, e143_92, e143_95, e143_95n, e143_96, e143_96n, e143_97, e143_100, e143_101, e143_102, e143_105, e143_106, e143_106n, e143_107, e143_108, e143_111, e143_112, e143_115, e143_116, e143_119, e143_120, e143_121, e143_122, e143_123, e143_126, e143_129, e143_132, e143_132n, e143_133, e143_134, e143_137, e143_138, e143_139, e143_142, ↓reduceIte, zth_v, zth_n, zthv_s, zthi_s, zthm_s, true_or, or_true, eq_self, ne_eq, not_false_eq_true, not_true_eq_false, and_self, and_true, true_and, false_and, and_false, foMod_0, foMod_1, foMod_2, foMod_3, foMod_4, foMod_5, foMod_6, foMod_7, foMod_8, foMod_9, foMod_10, foMod_11, foMod_12, foMod_13, foMod_14, foMod_15, foMod_16, foMod_17, foMod_18, foMod_19, foMod_20, foMod_21, foMod_22, foMod_23, foMod_24, foMod_25, foMod_26, foMod_27, foMod_28, foMod_29, foMod_30, foMod_31, foMod_32, foMod_33, foMod_34, foMod_35, foMod_36, foMod_37, foMod_38, poMod_0, poMod_1, poMod_2, poMod_3, poMod_4, poMod_5, poMod_12, poMod_13, poMod_14, poMod_15, poMod_20, poMod_21, poMod_22, poMod_23, poMod_28, poMod_29, poMod_30, poMod_38, coMod, o44, o44', hz44, y2, h5, m_isIn, gt, g1, o48, o49, o50, o50', z48, z49, z50, s49, s50, pc, c3, i10, nI_1, Nat.reduceEqDiff]
end PS
