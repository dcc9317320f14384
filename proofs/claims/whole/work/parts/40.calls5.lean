/-! Call by call, five: put, cell -/
theorem upd_id {f : Nat → Int32} {j : Nat} : upd f j (f j) = f := by
  funext i
  by_cases e : i = j
  · subst e; exact pk_us
  · exact pk_un e
theorem va_up_id {α : Type} {f : Nat → α} {j : Nat} : va_up f j (f j) = f := by
  funext i
  by_cases e : i = j
  · subst e; exact va_up_self _ _ _
  · exact va_up_ne _ _ e
theorem kr60 (k : Int32) {n : Nat} (hn : n ≤ 300) : (k < 0 ∨ nI n ≤ k) ∨ ∃ j, j < n ∧ k = nI j := by
  rcases pk_ix k (n := n) (by omega) with h | h | h
  · exact Or.inl (Or.inl h)
  · exact Or.inl (Or.inr h)
  · exact Or.inr h
section CE
variable {M : zMem}
theorem p_put (g : zGood M) {k i v : Int32} : zPI 96 174 [some (.int k), some (.int i), some (.int v), none] [some (.int k), some (.int i), some (.int v)] M := by
  have g0 := g
  obtain ⟨h65, c, nl, nr, m, F, r, n, o, mm, w, ln, sn, f, tr, ft, hC, ⟨x, A, hx, hX, hN, hR, hS⟩, hI, hJ, hK⟩ := g
  have hC0 := hC
  have hX0 := hX
  obtain ⟨k0, kN, kR, kS, kP⟩ := hC
  have hz2 : zoc (mget M 2) = some 1 := by rw [kN.2.2.2.1]; exact coNur
  have hz1 : zoc (mget M 1) = some 7 := by rw [k0]; exact coRR
  have hz44 : zoc (mget M 44) = some 8 := by rw [hx.1]; exact coMod
  have hl5 := kN.2.1
  have hr5 := kN.2.2.1
  have hn8 := kR.2.1
  obtain ⟨x0, x1, x2, x3, x4, x5, x16, x17⟩ := hX
  have o44 := hx.1
  have C1 := hC0.setT (tr' := tr) (ft' := 0)
  have k0' := C1.1
  have kS' := C1.2.2.2.1
  have hz1' : zoc (mget (mset M 1 (oRR 2 10 18 27 31 35 tr 0)) 1) = some 7 := by rw [k0']; exact coRR
  have fr1 : ∀ c, zFr M (mset M 1 c) 1 43 := fun c => zFr.rf.set (by omega) (by omega)
  have hx1 : ∀ c, zMdl (mset M 1 c) x A := fun c => hx.fr fun a g1 g2 => mget_ne (by omega)
  have hz44' : ∀ c, zoc (mget (mset M 1 c) 44) = some 8 := fun c => z44 hz44 (fr1 c)
  have o44' := fun c => (hx1 c).1
  have fin0 := fun (y : Int32) => (zFin (M1 := mset M 1 (oRR 2 10 18 27 31 35 tr y)) h65 (hz44' _) (fr1 _) (zFr.rf.set (a := 44) (c := oM (upd x 0 y)) (by omega) (by omega)) (hC0.setT (tr' := tr) (ft' := y)) ⟨_, _, (hx1 _).setX _, ⟨rfl, x1, x2, x3, x4, x5, x16, x17⟩, hN, hR, hS⟩ hI hJ hK)
  rcases kr_or k (n := 4) (by omega) with q | ⟨j, hj, rfl⟩
  · have h9 := t_sheetAt_out k0' kS' q
    have h8 := fun M => m_noSheet_out (M := M) q
    have h7 := m_refused (hx1 (oRR 2 10 18 27 31 35 tr 0)) (v := -1)
    refine ⟨-1, _, _, ?_, ?_, fin0 0⟩
    · simp only [e96_0, e96_0n, e96_1, e96_2, e96_5, e96_5n, e96_6, e96_7, e96_10, e96_10n, e96_12, e96_12n, e96_14, e96_14n, e96_17, e96_18, e96_19, e96_19n, e96_21, e96_24, e96_27, e96_27n, e96_28, e96_29, e96_32, e96_33, e96_33n, e96_35, e96_36, e96_39, e96_42, e96_42n, e96_43, e96_44, e96_47, e96_48, e96_48n, e96_50, e96_51, e96_52, e96_55, e96_56, ↓reduceIte, zth_v, zth_n, zthv_s, zthi_s, zthm_s, true_or, or_true, eq_self, ne_eq, not_false_eq_true, not_true_eq_false, and_self, and_true, true_and, false_and, and_false, foRR_0, foRR_1, foRR_2, foRR_3, foRR_4, foRR_5, foRR_6, foRR_7, poRR_6, poRR_7, coRR, k0, hz1', h9, Nat.reduceEqDiff]
    · simp only [e174_0, e174_1, e174_4, e174_7, e174_7n, e174_8, e174_9, e174_12, e174_13, e174_13n, e174_14, e174_15, e174_16, e174_19, e174_22, e174_22n, e174_23, e174_23n, e174_24, e174_25, e174_26, e174_29, e174_32, e174_33, e174_33n, e174_34, e174_37, e174_39, e174_40, e174_41, e174_42, e174_43, e174_43n, e174_44, e174_47, e174_48, e174_49, e174_52, e174_53, e174_54, e174_57, e174_57n, e174_58, e174_61, e174_62, e174_63, e174_64, e174_67, e174_68, e174_69, e174_72, e174_73, e174_74, e174_74n, e174_75, e174_76, e174_79, ↓reduceIte, zth_v, zth_n, zthv_s, zthi_s, zthm_s, true_or, or_true, eq_self, ne_eq, not_false_eq_true, not_true_eq_false, and_self, and_true, true_and, false_and, and_false, hz44', h8, h7, i10, Nat.reduceEqDiff]
  have h9 := t_sheetAt_in k0' kS' hj
  have kj := kS'.2 j hj
  have hsn := kj.2.1
  have n3 : 36 + 2 * j ≠ 0 := by omega
  have hzj : zoc (mget (mset M 1 (oRR 2 10 18 27 31 35 tr 0)) (36 + 2 * j)) = some 4 := by rw [kj.2.2.1]; exact coSheet
  have hN9 := s_hasNothing kj.2.2.1 n3
  have h8 := fun M => m_noSheet_in (M := M) hj
  have hc := fun c => m_noCell (hx1 c) hS hj hsn (i := i)
  by_cases e : ln j = -1
  · have h7 := fun c => m_failed (hx1 c) (v := 1)
    have h6 := t_faulted k0' (v := 1)
    rw [mset_mset] at h6
    refine ⟨-10 - 1, _, _, ?_, ?_, fin0 1⟩
    · simp only [e96_0, e96_0n, e96_1, e96_2, e96_5, e96_5n, e96_6, e96_7, e96_10, e96_10n, e96_12, e96_12n, e96_14, e96_14n, e96_17, e96_18, e96_19, e96_19n, e96_21, e96_24, e96_27, e96_27n, e96_28, e96_29, e96_32, e96_33, e96_33n, e96_35, e96_36, e96_39, e96_42, e96_42n, e96_43, e96_44, e96_47, e96_48, e96_48n, e96_50, e96_51, e96_52, e96_55, e96_56, ↓reduceIte, zth_v, zth_n, zthv_s, zthi_s, zthm_s, true_or, or_true, eq_self, ne_eq, not_false_eq_true, not_true_eq_false, and_self, and_true, true_and, false_and, and_false, foRR_0, foRR_1, foRR_2, foRR_3, foRR_4, foRR_5, foRR_6, foRR_7, poRR_6, poRR_7, coRR, k0, hz1', hzj, h9, hN9, n3, e, h6, i10, Nat.reduceEqDiff]
    · simp only [e174_0, e174_1, e174_4, e174_7, e174_7n, e174_8, e174_9, e174_12, e174_13, e174_13n, e174_14, e174_15, e174_16, e174_19, e174_22, e174_22n, e174_23, e174_23n, e174_24, e174_25, e174_26, e174_29, e174_32, e174_33, e174_33n, e174_34, e174_37, e174_39, e174_40, e174_41, e174_42, e174_43, e174_43n, e174_44, e174_47, e174_48, e174_49, e174_52, e174_53, e174_54, e174_57, e174_57n, e174_58, e174_61, e174_62, e174_63, e174_64, e174_67, e174_68, e174_69, e174_72, e174_73, e174_74, e174_74n, e174_75, e174_76, e174_79, ↓reduceIte, zth_v, zth_n, zthv_s, zthi_s, zthm_s, true_or, or_true, eq_self, ne_eq, not_false_eq_true, not_true_eq_false, and_self, and_true, true_and, false_and, and_false, hz44', h8, h7, hc, e, show ((1 : Int32) ≤ 0) = False from by decide, Nat.reduceEqDiff]
  rcases kr60 i (n := sn j) (by omega) with q | ⟨i, hi, rfl⟩
  · have h5 := s_hasCell_out kj.2.2.1 kj.2.2.2 n3 q
    have h7 := fun c => m_failed (hx1 c) (v := 3)
    have h6 := t_faulted k0' (v := 3)
    rw [mset_mset] at h6
    refine ⟨-10 - 3, _, _, ?_, ?_, fin0 3⟩
    · simp only [e96_0, e96_0n, e96_1, e96_2, e96_5, e96_5n, e96_6, e96_7, e96_10, e96_10n, e96_12, e96_12n, e96_14, e96_14n, e96_17, e96_18, e96_19, e96_19n, e96_21, e96_24, e96_27, e96_27n, e96_28, e96_29, e96_32, e96_33, e96_33n, e96_35, e96_36, e96_39, e96_42, e96_42n, e96_43, e96_44, e96_47, e96_48, e96_48n, e96_50, e96_51, e96_52, e96_55, e96_56, ↓reduceIte, zth_v, zth_n, zthv_s, zthi_s, zthm_s, true_or, or_true, eq_self, ne_eq, not_false_eq_true, not_true_eq_false, and_self, and_true, true_and, false_and, and_false, foRR_0, foRR_1, foRR_2, foRR_3, foRR_4, foRR_5, foRR_6, foRR_7, poRR_6, poRR_7, coRR, k0, hz1', hzj, h9, hN9, n3, e, h6, h5, Nat.reduceEqDiff]
    · simp only [e174_0, e174_1, e174_4, e174_7, e174_7n, e174_8, e174_9, e174_12, e174_13, e174_13n, e174_14, e174_15, e174_16, e174_19, e174_22, e174_22n, e174_23, e174_23n, e174_24, e174_25, e174_26, e174_29, e174_32, e174_33, e174_33n, e174_34, e174_37, e174_39, e174_40, e174_41, e174_42, e174_43, e174_43n, e174_44, e174_47, e174_48, e174_49, e174_52, e174_53, e174_54, e174_57, e174_57n, e174_58, e174_61, e174_62, e174_63, e174_64, e174_67, e174_68, e174_69, e174_72, e174_73, e174_74, e174_74n, e174_75, e174_76, e174_79, ↓reduceIte, zth_v, zth_n, zthv_s, zthi_s, zthm_s, true_or, or_true, eq_self, ne_eq, not_false_eq_true, not_true_eq_false, and_self, and_true, true_and, false_and, and_false, hz44', h8, h7, hc, e, q, show ((3 : Int32) ≤ 0) = False from by decide, Nat.reduceEqDiff]
  have h5 := s_hasCell_in kj.2.2.1 kj.2.2.2 hsn n3 hi
  have h6 := s_setCell kj hi (v := v)
  have hk' : zSh (mset (mset M 1 (oRR 2 10 18 27 31 35 tr 0)) (36 + 2 * j + 1) (.inl (60, upd (f j) i (if ln j = 0 then v.toInt8.toInt32 else if ln j = 1 then v.toInt16.toInt32 else v)))) (36 + 2 * j) (ln j) (sn j) (upd (f j) i (if ln j = 0 then v.toInt8.toInt32 else if ln j = 1 then v.toInt16.toInt32 else v)) := ⟨n3, hsn, (mget_ne (by omega)).trans kj.2.2.1, mget_self⟩
  have fr2 : zFr (mset M 1 (oRR 2 10 18 27 31 35 tr 0)) (mset (mset M 1 (oRR 2 10 18 27 31 35 tr 0)) (36 + 2 * j + 1) (.inl (60, upd (f j) i (if ln j = 0 then v.toInt8.toInt32 else if ln j = 1 then v.toInt16.toInt32 else v)))) (36 + 2 * j) (37 + 2 * j) := zFr.rf.set (by omega) (by omega)
  have fr3 := zFr.tr (fr1 (oRR 2 10 18 27 31 35 tr 0)) (fr2.mono (lo' := 1) (hi' := 43) (by omega) (by omega))
  have C2 := C1.setS hj fr2 hk'
  rw [upd_id, va_up_id] at C2
  have hx2 : zMdl (mset (mset M 1 (oRR 2 10 18 27 31 35 tr 0)) (36 + 2 * j + 1) (.inl (60, upd (f j) i (if ln j = 0 then v.toInt8.toInt32 else if ln j = 1 then v.toInt16.toInt32 else v)))) x A := hx.fr fun a g1 g2 => fr3.2.2 _ (by omega)
  have hz44'' := z44 hz44 fr3
  have gi : ¬ (nI i < 0 ∨ nI (sn j) ≤ nI i) := by
    rintro (z | z)
    · exact nI_pos (by omega) z
    · exact ni_nle hi (by omega) z
  have hc2 := m_noCell hx2 hS hj hsn (i := nI i)
  have o63 := hx2.2 63 (by omega) (by omega)
  have o64 := hx2.2 64 (by omega) (by omega)
  have o44'' := hx2.1
  have z63 := zia_in (n := zsz 63) (f := A 63) (j := j) (show j < 4 from hj) (show 4 < 2 ^ 31 by omega)
  rw [hS.2.1 j hj e] at z63
  have s64 := fun y => zis_in (n := zsz 64) (f := A 64) (x := y) (j := 60 * j + i) (show 60 * j + i < 240 by omega) (show 240 < 2 ^ 31 by omega)
  have hx3 := hx2.setA 64 (by omega) (by omega) (upd (A 64) (60 * j + i) (if ln j = 0 then v.toInt8.toInt32 else if ln j = 1 then v.toInt16.toInt32 else v))
  have h7 := m_refused hx3 (v := 1)
  have hz3 : zoc (mget (mset (mset (mset M 1 (oRR 2 10 18 27 31 35 tr 0)) (36 + 2 * j + 1) (.inl (60, upd (f j) i (if ln j = 0 then v.toInt8.toInt32 else if ln j = 1 then v.toInt16.toInt32 else v)))) 64 (.inl (zsz 64, upd (A 64) (60 * j + i) (if ln j = 0 then v.toInt8.toInt32 else if ln j = 1 then v.toInt16.toInt32 else v)))) 44) = some 8 := by rw [hx3.1]; exact coMod
  refine ⟨1, _, _, ?_, ?_, zFin h65 hz44'' fr3 ((zFr.rf.set (a := 64) (by omega) (by omega)).set (a := 44) (c := oM (upd x 0 0)) (by omega) (by omega)) C2 ⟨_, _, hx3.setX _, ⟨rfl, x1, x2, x3, x4, x5, x16, x17⟩, hN, hR, ⟨hS.1, hS.2.1, fun k2 i2 hk2 hi2 => ?_⟩⟩ hI hJ hK⟩
  · simp only [e96_0, e96_0n, e96_1, e96_2, e96_5, e96_5n, e96_6, e96_7, e96_10, e96_10n, e96_12, e96_12n, e96_14, e96_14n, e96_17, e96_18, e96_19, e96_19n, e96_21, e96_24, e96_27, e96_27n, e96_28, e96_29, e96_32, e96_33, e96_33n, e96_35, e96_36, e96_39, e96_42, e96_42n, e96_43, e96_44, e96_47, e96_48, e96_48n, e96_50, e96_51, e96_52, e96_55, e96_56, ↓reduceIte, zth_v, zth_n, zthv_s, zthi_s, zthm_s, true_or, or_true, eq_self, ne_eq, not_false_eq_true, not_true_eq_false, and_self, and_true, true_and, false_and, and_false, foRR_0, foRR_1, foRR_2, foRR_3, foRR_4, foRR_5, foRR_6, foRR_7, poRR_6, poRR_7, coRR, k0, hz1', hzj, h9, hN9, n3, e, h5, h6, i10, Nat.reduceEqDiff]
  · by_cases l0 : ln j = 0
    · simp only [l0, if_true] at *
      simp only [e174_0, e174_1, e174_4, e174_7, e174_7n, e174_8, e174_9, e174_12, e174_13, e174_13n, e174_14, e174_15, e174_16, e174_19, e174_22, e174_22n, e174_23, e174_23n, e174_24, e174_25, e174_26, e174_29, e174_32, e174_33, e174_33n, e174_34, e174_37, e174_39, e174_40, e174_41, e174_42, e174_43, e174_43n, e174_44, e174_47, e174_48, e174_49, e174_52, e174_53, e174_54, e174_57, e174_57n, e174_58, e174_61, e174_62, e174_63, e174_64, e174_67, e174_68, e174_69, e174_72, e174_73, e174_74, e174_74n, e174_75, e174_76, e174_79, ↓reduceIte, zth_v, zth_n, zthv_s, zthi_s, zthm_s, true_or, or_true, eq_self, ne_eq, not_false_eq_true, not_true_eq_false, and_self, and_true, true_and, false_and, and_false, foMod_0, foMod_1, foMod_2, foMod_3, foMod_4, foMod_5, foMod_6, foMod_7, foMod_8, foMod_9, foMod_10, foMod_11, foMod_12, foMod_13, foMod_14, foMod_15, foMod_16, foMod_17, foMod_18, foMod_19, foMod_20, foMod_21, foMod_22, foMod_23, foMod_24, foMod_25, foMod_26, foMod_27, foMod_28, foMod_29, foMod_30, foMod_31, foMod_32, foMod_33, foMod_34, foMod_35, foMod_36, foMod_37, foMod_38, poMod_0, poMod_1, poMod_2, poMod_3, poMod_4, poMod_5, poMod_12, poMod_13, poMod_14, poMod_15, poMod_20, poMod_21, poMod_22, poMod_23, poMod_28, poMod_29, poMod_30, poMod_38, coMod, hz44'', h8, hc2, gi, o44'', o63, o64, z63, s64, n60, l0, h7, hz3, show ((0 : Int32) = -1) = False from by decide, Int32.le_refl, Nat.reduceEqDiff]
    · by_cases l1 : ln j = 1
      · simp only [l1, if_true, if_false, i10] at *
        simp only [e174_0, e174_1, e174_4, e174_7, e174_7n, e174_8, e174_9, e174_12, e174_13, e174_13n, e174_14, e174_15, e174_16, e174_19, e174_22, e174_22n, e174_23, e174_23n, e174_24, e174_25, e174_26, e174_29, e174_32, e174_33, e174_33n, e174_34, e174_37, e174_39, e174_40, e174_41, e174_42, e174_43, e174_43n, e174_44, e174_47, e174_48, e174_49, e174_52, e174_53, e174_54, e174_57, e174_57n, e174_58, e174_61, e174_62, e174_63, e174_64, e174_67, e174_68, e174_69, e174_72, e174_73, e174_74, e174_74n, e174_75, e174_76, e174_79, ↓reduceIte, zth_v, zth_n, zthv_s, zthi_s, zthm_s, true_or, or_true, eq_self, ne_eq, not_false_eq_true, not_true_eq_false, and_self, and_true, true_and, false_and, and_false, foMod_0, foMod_1, foMod_2, foMod_3, foMod_4, foMod_5, foMod_6, foMod_7, foMod_8, foMod_9, foMod_10, foMod_11, foMod_12, foMod_13, foMod_14, foMod_15, foMod_16, foMod_17, foMod_18, foMod_19, foMod_20, foMod_21, foMod_22, foMod_23, foMod_24, foMod_25, foMod_26, foMod_27, foMod_28, foMod_29, foMod_30, foMod_31, foMod_32, foMod_33, foMod_34, foMod_35, foMod_36, foMod_37, foMod_38, poMod_0, poMod_1, poMod_2, poMod_3, poMod_4, poMod_5, poMod_12, poMod_13, poMod_14, poMod_15, poMod_20, poMod_21, poMod_22, poMod_23, poMod_28, poMod_29, poMod_30, poMod_38, coMod, hz44'', h8, hc2, gi, o44'', o63, o64, z63, s64, n60, l1, h7, hz3, i10, show ((1 : Int32) = -1) = False from by decide, Int32.le_refl, Nat.reduceEqDiff]
      · have ve : (if ln j = 0 then v.toInt8.toInt32 else if ln j = 1 then v.toInt16.toInt32 else v) = v := by rw [if_neg l0, if_neg l1]
        simp only [ve] at h7 hz3 h6 hz44'' hc2 o63 o64 o44'' ⊢
        simp only [e174_0, e174_1, e174_4, e174_7, e174_7n, e174_8, e174_9, e174_12, e174_13, e174_13n, e174_14, e174_15, e174_16, e174_19, e174_22, e174_22n, e174_23, e174_23n, e174_24, e174_25, e174_26, e174_29, e174_32, e174_33, e174_33n, e174_34, e174_37, e174_39, e174_40, e174_41, e174_42, e174_43, e174_43n, e174_44, e174_47, e174_48, e174_49, e174_52, e174_53, e174_54, e174_57, e174_57n, e174_58, e174_61, e174_62, e174_63, e174_64, e174_67, e174_68, e174_69, e174_72, e174_73, e174_74, e174_74n, e174_75, e174_76, e174_79, ↓reduceIte, zth_v, zth_n, zthv_s, zthi_s, zthm_s, true_or, or_true, eq_self, ne_eq, not_false_eq_true, not_true_eq_false, and_self, and_true, true_and, false_and, and_false, foMod_0, foMod_1, foMod_2, foMod_3, foMod_4, foMod_5, foMod_6, foMod_7, foMod_8, foMod_9, foMod_10, foMod_11, foMod_12, foMod_13, foMod_14, foMod_15, foMod_16, foMod_17, foMod_18, foMod_19, foMod_20, foMod_21, foMod_22, foMod_23, foMod_24, foMod_25, foMod_26, foMod_27, foMod_28, foMod_29, foMod_30, foMod_31, foMod_32, foMod_33, foMod_34, foMod_35, foMod_36, foMod_37, foMod_38, poMod_0, poMod_1, poMod_2, poMod_3, poMod_4, poMod_5, poMod_12, poMod_13, poMod_14, poMod_15, poMod_20, poMod_21, poMod_22, poMod_23, poMod_28, poMod_29, poMod_30, poMod_38, coMod, hz44'', h8, hc2, gi, o44'', o63, o64, z63, s64, n60, e, l0, l1, h7, hz3, Int32.le_refl, Nat.reduceEqDiff]
  · have hsk := (kS'.2 k2 hk2).2.1
    show upd (A 64) (60 * j + i) _ (60 * k2 + i2) = _
    by_cases e2 : k2 = j
    · subst e2
      rw [va_up_self]
      by_cases e3 : i2 = i
      · subst e3; rw [pk_us, pk_us]
      · rw [pk_un (by omega), pk_un e3]; exact hS.2.2 k2 i2 hk2 hi2
    · rw [va_up_ne _ _ e2, pk_un (by omega)]; exact hS.2.2 k2 i2 hk2 hi2
theorem p_cell (g : zGood M) {k i v : Int32} : zPL 97 175 [some (.int k), some (.int i), some (.int v), none] [some (.int k), some (.int i), some (.int v)] M := by
  have g0 := g
  obtain ⟨h65, c, nl, nr, m, F, r, n, o, mm, w, ln, sn, f, tr, ft, hC, ⟨x, A, hx, hX, hN, hR, hS⟩, hI, hJ, hK⟩ := g
  have hC0 := hC
  have hX0 := hX
  obtain ⟨k0, kN, kR, kS, kP⟩ := hC
  have hz2 : zoc (mget M 2) = some 1 := by rw [kN.2.2.2.1]; exact coNur
  have hz1 : zoc (mget M 1) = some 7 := by rw [k0]; exact coRR
  have hz44 : zoc (mget M 44) = some 8 := by rw [hx.1]; exact coMod
  have hl5 := kN.2.1
  have hr5 := kN.2.2.1
  have hn8 := kR.2.1
  obtain ⟨x0, x1, x2, x3, x4, x5, x16, x17⟩ := hX
  have o44 := hx.1
  have C1 := hC0.setT (tr' := tr) (ft' := 0)
  have k0' := C1.1
  have kS' := C1.2.2.2.1
  have hz1' : zoc (mget (mset M 1 (oRR 2 10 18 27 31 35 tr 0)) 1) = some 7 := by rw [k0']; exact coRR
  have fr1 : ∀ c, zFr M (mset M 1 c) 1 43 := fun c => zFr.rf.set (by omega) (by omega)
  have hx1 : ∀ c, zMdl (mset M 1 c) x A := fun c => hx.fr fun a g1 g2 => mget_ne (by omega)
  have hz44' : ∀ c, zoc (mget (mset M 1 c) 44) = some 8 := fun c => z44 hz44 (fr1 c)
  have o44' := fun c => (hx1 c).1
  have hy : ∀ c y, zMdl (mset (mset M 1 c) 44 (oM y)) y A := fun c y => (hx1 c).setX y
  have hzy : ∀ c y, zoc (mget (mset (mset M 1 c) 44 (oM y)) 44) = some 8 := fun c y => by rw [(hy c y).1]; exact coMod
  have hu : ∀ c, mset (mset M 1 c) 44 (oMod 0 (x 1) (x 2) (x 3) (x 4) (x 5) (x 6) (x 7) (x 8) (x 9) (x 10) (x 11) (x 12) (x 13) (x 14) (x 15) (x 16) (x 17)) = mset (mset M 1 c) 44 (oM (upd x 0 0)) := fun c => rfl
  have ho : ∀ y, zoc (some (oM y)) = some 8 := fun y => coMod
  have oY := fun c y => (hy c y).1
  have fin0 := fun (y : Int32) => (zFin (M1 := mset M 1 (oRR 2 10 18 27 31 35 tr y)) h65 (hz44' _) (fr1 _) (zFr.rf.set (a := 44) (c := oM (upd x 0 y)) (by omega) (by omega)) (hC0.setT (tr' := tr) (ft' := y)) ⟨_, _, (hx1 _).setX _, ⟨rfl, x1, x2, x3, x4, x5, x16, x17⟩, hN, hR, hS⟩ hI hJ hK)
  have lost : ∀ M, ev 120 0 [] [] M = some (some (.long (-9223372036854775808)), M) := fun M => by
    simp only [e120_0, e120_3, ↓reduceIte, zth_v, zth_n, zthv_s, zthi_s, zthm_s, true_or, or_true, eq_self, ne_eq, not_false_eq_true, not_true_eq_false, and_self, and_true, true_and, false_and, and_false]
  rcases kr_or k (n := 4) (by omega) with q | ⟨j, hj, rfl⟩
  · have h9 := t_sheetAt_out k0' kS' q
    have h8 := fun M => m_noSheet_out (M := M) q
    refine ⟨-9223372036854775808, _, _, ?_, ?_, fin0 0⟩
    · simp only [e97_0, e97_0n, e97_1, e97_2, e97_5, e97_5n, e97_6, e97_7, e97_10, e97_10n, e97_12, e97_12n, e97_14, e97_14n, e97_17, e97_18, e97_21, e97_24, e97_27, e97_28, e97_28n, e97_29, e97_29n, e97_31, e97_32, e97_35, e97_38, e97_38n, e97_39, e97_42, e97_45, e97_45n, e97_47, e97_48, e97_51, e97_54, e97_54n, e97_55, e97_56, e97_59, e97_59n, e97_60, e97_63, e97_66, e97_66n, e97_68, e97_69, e97_72, e97_73, e97_76, e97_79, ↓reduceIte, zth_v, zth_n, zthv_s, zthi_s, zthm_s, true_or, or_true, eq_self, ne_eq, not_false_eq_true, not_true_eq_false, and_self, and_true, true_and, false_and, and_false, foRR_0, foRR_1, foRR_2, foRR_3, foRR_4, foRR_5, foRR_6, foRR_7, poRR_6, poRR_7, coRR, k0, hz1', h9, Nat.reduceEqDiff]
    · simp only [e175_0, e175_0n, e175_1, e175_2, e175_5, e175_6, e175_9, e175_12, e175_13, e175_14, e175_15, e175_18, e175_21, e175_24, e175_27, e175_28, e175_28n, e175_29, e175_32, e175_33, e175_34, e175_37, e175_37n, e175_38, e175_41, e175_42, e175_43, e175_44, e175_47, e175_47n, e175_48, e175_49, e175_52, e175_53, e175_53n, e175_54, e175_55, e175_56, e175_59, e175_62, e175_62n, e175_63, e175_63n, e175_64, e175_65, e175_66, e175_69, e175_72, e175_75, e175_75n, e175_76, e175_79, e175_81, e175_82, e175_83, e175_84, e175_85, e175_86, e175_87, ↓reduceIte, zth_v, zth_n, zthv_s, zthi_s, zthm_s, true_or, or_true, eq_self, ne_eq, not_false_eq_true, not_true_eq_false, and_self, and_true, true_and, false_and, and_false, foMod_0, foMod_1, foMod_2, foMod_3, foMod_4, foMod_5, foMod_6, foMod_7, foMod_8, foMod_9, foMod_10, foMod_11, foMod_12, foMod_13, foMod_14, foMod_15, foMod_16, foMod_17, foMod_18, foMod_19, foMod_20, foMod_21, foMod_22, foMod_23, foMod_24, foMod_25, foMod_26, foMod_27, foMod_28, foMod_29, foMod_30, foMod_31, foMod_32, foMod_33, foMod_34, foMod_35, foMod_36, foMod_37, foMod_38, poMod_0, poMod_1, poMod_2, poMod_3, poMod_4, poMod_5, poMod_12, poMod_13, poMod_14, poMod_15, poMod_20, poMod_21, poMod_22, poMod_23, poMod_28, poMod_29, poMod_30, poMod_38, coMod, o44', hu, h8, lost, i10, Nat.reduceEqDiff]
  have h9 := t_sheetAt_in k0' kS' hj
  have h8 := fun M => m_noSheet_in (M := M) hj
  by_cases qv : v < 0 ∨ 2 < v
  · refine ⟨-9223372036854775808, _, _, ?_, ?_, fin0 0⟩
    · simp only [e97_0, e97_0n, e97_1, e97_2, e97_5, e97_5n, e97_6, e97_7, e97_10, e97_10n, e97_12, e97_12n, e97_14, e97_14n, e97_17, e97_18, e97_21, e97_24, e97_27, e97_28, e97_28n, e97_29, e97_29n, e97_31, e97_32, e97_35, e97_38, e97_38n, e97_39, e97_42, e97_45, e97_45n, e97_47, e97_48, e97_51, e97_54, e97_54n, e97_55, e97_56, e97_59, e97_59n, e97_60, e97_63, e97_66, e97_66n, e97_68, e97_69, e97_72, e97_73, e97_76, e97_79, ↓reduceIte, zth_v, zth_n, zthv_s, zthi_s, zthm_s, true_or, or_true, eq_self, ne_eq, not_false_eq_true, not_true_eq_false, and_self, and_true, true_and, false_and, and_false, foRR_0, foRR_1, foRR_2, foRR_3, foRR_4, foRR_5, foRR_6, foRR_7, poRR_6, poRR_7, coRR, k0, hz1', h9, t_isLane, qv, Nat.reduceEqDiff]
    · simp only [e175_0, e175_0n, e175_1, e175_2, e175_5, e175_6, e175_9, e175_12, e175_13, e175_14, e175_15, e175_18, e175_21, e175_24, e175_27, e175_28, e175_28n, e175_29, e175_32, e175_33, e175_34, e175_37, e175_37n, e175_38, e175_41, e175_42, e175_43, e175_44, e175_47, e175_47n, e175_48, e175_49, e175_52, e175_53, e175_53n, e175_54, e175_55, e175_56, e175_59, e175_62, e175_62n, e175_63, e175_63n, e175_64, e175_65, e175_66, e175_69, e175_72, e175_75, e175_75n, e175_76, e175_79, e175_81, e175_82, e175_83, e175_84, e175_85, e175_86, e175_87, ↓reduceIte, zth_v, zth_n, zthv_s, zthi_s, zthm_s, true_or, or_true, eq_self, ne_eq, not_false_eq_true, not_true_eq_false, and_self, and_true, true_and, false_and, and_false, foMod_0, foMod_1, foMod_2, foMod_3, foMod_4, foMod_5, foMod_6, foMod_7, foMod_8, foMod_9, foMod_10, foMod_11, foMod_12, foMod_13, foMod_14, foMod_15, foMod_16, foMod_17, foMod_18, foMod_19, foMod_20, foMod_21, foMod_22, foMod_23, foMod_24, foMod_25, foMod_26, foMod_27, foMod_28, foMod_29, foMod_30, foMod_31, foMod_32, foMod_33, foMod_34, foMod_35, foMod_36, foMod_37, foMod_38, poMod_0, poMod_1, poMod_2, poMod_3, poMod_4, poMod_5, poMod_12, poMod_13, poMod_14, poMod_15, poMod_20, poMod_21, poMod_22, poMod_23, poMod_28, poMod_29, poMod_30, poMod_38, coMod, o44', hu, h8, m_in_0_2, qv, lost, Nat.reduceEqDiff]
  have kj := kS'.2 j hj
  have hsn := kj.2.1
  have n3 : 36 + 2 * j ≠ 0 := by omega
  have hzj : zoc (mget (mset M 1 (oRR 2 10 18 27 31 35 tr 0)) (36 + 2 * j)) = some 4 := by rw [kj.2.2.1]; exact coSheet
  have hF := t_rowFault kj (v := v)
  have z62 := zia_in (n := zsz 62) (f := A 62) (j := j) (show j < 4 from hj) (show 4 < 2 ^ 31 by omega)
  rw [hS.1 j hj] at z62
  have z63 := zia_in (n := zsz 63) (f := A 63) (j := j) (show j < 4 from hj) (show 4 < 2 ^ 31 by omega)
  have o62 := fun c y => (hy c y).2 62 (by omega) (by omega)
  have o63 := fun c y => (hy c y).2 63 (by omega) (by omega)
  have o64 := fun c y => (hy c y).2 64 (by omega) (by omega)
  have hc := fun c y => m_noCell (hy c y) hS hj hsn (i := i)
  have fl := fun c y v => m_failedLong (hy c y) (v := v)
  simp only [mset_mset] at fl
  have fl2 : ∀ v, oM (upd (upd x 0 0) 0 v) = oM (upd x 0 v) := fun v => rfl
  have sN : mget (mset M 1 (oRR 2 10 18 27 31 35 tr 0)) 1 = some (oRR 2 10 18 27 31 35 tr 0) := k0'
  by_cases e : ln j = -1
  · simp only [if_pos e] at z62
    have g1 : ¬ (0 : Int32) ≤ -1 := by decide
    have g2 : (-1 : Int32) < 0 := by decide
    refine ⟨-9223372036854775808, mset M 1 (oRR 2 10 18 27 31 35 tr 1), _, ?_, ?_, fin0 1⟩
    · simp only [e97_0, e97_0n, e97_1, e97_2, e97_5, e97_5n, e97_6, e97_7, e97_10, e97_10n, e97_12, e97_12n, e97_14, e97_14n, e97_17, e97_18, e97_21, e97_24, e97_27, e97_28, e97_28n, e97_29, e97_29n, e97_31, e97_32, e97_35, e97_38, e97_38n, e97_39, e97_42, e97_45, e97_45n, e97_47, e97_48, e97_51, e97_54, e97_54n, e97_55, e97_56, e97_59, e97_59n, e97_60, e97_63, e97_66, e97_66n, e97_68, e97_69, e97_72, e97_73, e97_76, e97_79, ↓reduceIte, zth_v, zth_n, zthv_s, zthi_s, zthm_s, true_or, or_true, eq_self, ne_eq, not_false_eq_true, not_true_eq_false, and_self, and_true, true_and, false_and, and_false, foRR_0, foRR_1, foRR_2, foRR_3, foRR_4, foRR_5, foRR_6, foRR_7, poRR_6, poRR_7, coRR, k0, k0', hz1', h9, t_isLane, qv, hF, e, mget_self, mset_mset, i10, Nat.reduceEqDiff]
    · simp only [e175_0, e175_0n, e175_1, e175_2, e175_5, e175_6, e175_9, e175_12, e175_13, e175_14, e175_15, e175_18, e175_21, e175_24, e175_27, e175_28, e175_28n, e175_29, e175_32, e175_33, e175_34, e175_37, e175_37n, e175_38, e175_41, e175_42, e175_43, e175_44, e175_47, e175_47n, e175_48, e175_49, e175_52, e175_53, e175_53n, e175_54, e175_55, e175_56, e175_59, e175_62, e175_62n, e175_63, e175_63n, e175_64, e175_65, e175_66, e175_69, e175_72, e175_75, e175_75n, e175_76, e175_79, e175_81, e175_82, e175_83, e175_84, e175_85, e175_86, e175_87, ↓reduceIte, zth_v, zth_n, zthv_s, zthi_s, zthm_s, true_or, or_true, eq_self, ne_eq, not_false_eq_true, not_true_eq_false, and_self, and_true, true_and, false_and, and_false, foMod_0, foMod_1, foMod_2, foMod_3, foMod_4, foMod_5, foMod_6, foMod_7, foMod_8, foMod_9, foMod_10, foMod_11, foMod_12, foMod_13, foMod_14, foMod_15, foMod_16, foMod_17, foMod_18, foMod_19, foMod_20, foMod_21, foMod_22, foMod_23, foMod_24, foMod_25, foMod_26, foMod_27, foMod_28, foMod_29, foMod_30, foMod_31, foMod_32, foMod_33, foMod_34, foMod_35, foMod_36, foMod_37, foMod_38, poMod_0, poMod_1, poMod_2, poMod_3, poMod_4, poMod_5, poMod_12, poMod_13, poMod_14, poMod_15, poMod_20, poMod_21, poMod_22, poMod_23, poMod_28, poMod_29, poMod_30, poMod_38, coMod, o44', hu, oY, hzy, h8, m_in_0_2, qv, o62, z62, g1, g2, hc, e, fl, fl2, i10, show ((1 : Int32) ≤ 0) = False from by decide, Nat.reduceEqDiff]
  simp only [if_neg e] at z62
  rw [hS.2.1 j hj e] at z63
  have g1 : (0 : Int32) ≤ nI (sn j) := ni_ge (b := 0) (by omega) (by omega)
  have g2 : ¬ nI (sn j) < 0 := nI_pos (by omega)
  by_cases lv : ln j = v
  · have ev1 : ¬ v = -1 := by rw [← lv]; exact e
    rcases kr60 i (n := sn j) (by omega) with q | ⟨i, hi, rfl⟩
    · have h5 := fun (y : Int32) => s_hasCell_out (M := mset M 1 (oRR 2 10 18 27 31 35 tr y)) ((mget_ne (by omega)).trans (kS.2 j hj).2.2.1) ((mget_ne (by omega)).trans (kS.2 j hj).2.2.2) n3 q
      have hzj' : ∀ y : Int32, zoc (mget (mset M 1 (oRR 2 10 18 27 31 35 tr y)) (36 + 2 * j)) = some 4 := fun y => by rw [(mget_ne (by omega)).trans (kS.2 j hj).2.2.1]; exact coSheet
      refine ⟨-9223372036854775808, mset M 1 (oRR 2 10 18 27 31 35 tr 3), _, ?_, ?_, fin0 3⟩
      · simp only [e97_0, e97_0n, e97_1, e97_2, e97_5, e97_5n, e97_6, e97_7, e97_10, e97_10n, e97_12, e97_12n, e97_14, e97_14n, e97_17, e97_18, e97_21, e97_24, e97_27, e97_28, e97_28n, e97_29, e97_29n, e97_31, e97_32, e97_35, e97_38, e97_38n, e97_39, e97_42, e97_45, e97_45n, e97_47, e97_48, e97_51, e97_54, e97_54n, e97_55, e97_56, e97_59, e97_59n, e97_60, e97_63, e97_66, e97_66n, e97_68, e97_69, e97_72, e97_73, e97_76, e97_79, ↓reduceIte, zth_v, zth_n, zthv_s, zthi_s, zthm_s, true_or, or_true, eq_self, ne_eq, not_false_eq_true, not_true_eq_false, and_self, and_true, true_and, false_and, and_false, foRR_0, foRR_1, foRR_2, foRR_3, foRR_4, foRR_5, foRR_6, foRR_7, poRR_6, poRR_7, coRR, k0, k0', hz1', hzj', n3, h9, t_isLane, qv, hF, e, ev1, lv, h5, mget_self, mset_mset, i10, show ((3 : Int32) = 0) = False from by decide, Nat.reduceEqDiff]
      · simp only [e175_0, e175_0n, e175_1, e175_2, e175_5, e175_6, e175_9, e175_12, e175_13, e175_14, e175_15, e175_18, e175_21, e175_24, e175_27, e175_28, e175_28n, e175_29, e175_32, e175_33, e175_34, e175_37, e175_37n, e175_38, e175_41, e175_42, e175_43, e175_44, e175_47, e175_47n, e175_48, e175_49, e175_52, e175_53, e175_53n, e175_54, e175_55, e175_56, e175_59, e175_62, e175_62n, e175_63, e175_63n, e175_64, e175_65, e175_66, e175_69, e175_72, e175_75, e175_75n, e175_76, e175_79, e175_81, e175_82, e175_83, e175_84, e175_85, e175_86, e175_87, ↓reduceIte, zth_v, zth_n, zthv_s, zthi_s, zthm_s, true_or, or_true, eq_self, ne_eq, not_false_eq_true, not_true_eq_false, and_self, and_true, true_and, false_and, and_false, foMod_0, foMod_1, foMod_2, foMod_3, foMod_4, foMod_5, foMod_6, foMod_7, foMod_8, foMod_9, foMod_10, foMod_11, foMod_12, foMod_13, foMod_14, foMod_15, foMod_16, foMod_17, foMod_18, foMod_19, foMod_20, foMod_21, foMod_22, foMod_23, foMod_24, foMod_25, foMod_26, foMod_27, foMod_28, foMod_29, foMod_30, foMod_31, foMod_32, foMod_33, foMod_34, foMod_35, foMod_36, foMod_37, foMod_38, poMod_0, poMod_1, poMod_2, poMod_3, poMod_4, poMod_5, poMod_12, poMod_13, poMod_14, poMod_15, poMod_20, poMod_21, poMod_22, poMod_23, poMod_28, poMod_29, poMod_30, poMod_38, coMod, o44', hu, oY, hzy, h8, m_in_0_2, qv, o62, o63, z62, z63, g1, g2, hc, e, ev1, lv, q, fl, fl2, i10, show ((3 : Int32) ≤ 0) = False from by decide, Nat.reduceEqDiff]
    · have gi : ¬ (nI i < 0 ∨ nI (sn j) ≤ nI i) := by
        rintro (z | z)
        · exact nI_pos (by omega) z
        · exact ni_nle hi (by omega) z
      have h5 := fun (y : Int32) => s_hasCell_in (M := mset M 1 (oRR 2 10 18 27 31 35 tr y)) ((mget_ne (by omega)).trans (kS.2 j hj).2.2.1) ((mget_ne (by omega)).trans (kS.2 j hj).2.2.2) hsn n3 hi
      have h4 := fun (y : Int32) => s_at_in (M := mset M 1 (oRR 2 10 18 27 31 35 tr y)) ((mget_ne (by omega)).trans (kS.2 j hj).2.2.1) ((mget_ne (by omega)).trans (kS.2 j hj).2.2.2) hsn n3 hi
      have hzj' : ∀ y : Int32, zoc (mget (mset M 1 (oRR 2 10 18 27 31 35 tr y)) (36 + 2 * j)) = some 4 := fun y => by rw [(mget_ne (by omega)).trans (kS.2 j hj).2.2.1]; exact coSheet
      have z64 := zia_in (n := zsz 64) (f := A 64) (j := 60 * j + i) (show 60 * j + i < 240 by omega) (show 240 < 2 ^ 31 by omega)
      rw [hS.2.2 j i hj hi] at z64
      refine ⟨(f j i).toInt64, mset M 1 (oRR 2 10 18 27 31 35 tr 0), _, ?_, ?_, fin0 0⟩
      · simp only [e97_0, e97_0n, e97_1, e97_2, e97_5, e97_5n, e97_6, e97_7, e97_10, e97_10n, e97_12, e97_12n, e97_14, e97_14n, e97_17, e97_18, e97_21, e97_24, e97_27, e97_28, e97_28n, e97_29, e97_29n, e97_31, e97_32, e97_35, e97_38, e97_38n, e97_39, e97_42, e97_45, e97_45n, e97_47, e97_48, e97_51, e97_54, e97_54n, e97_55, e97_56, e97_59, e97_59n, e97_60, e97_63, e97_66, e97_66n, e97_68, e97_69, e97_72, e97_73, e97_76, e97_79, ↓reduceIte, zth_v, zth_n, zthv_s, zthi_s, zthm_s, true_or, or_true, eq_self, ne_eq, not_false_eq_true, not_true_eq_false, and_self, and_true, true_and, false_and, and_false, foRR_0, foRR_1, foRR_2, foRR_3, foRR_4, foRR_5, foRR_6, foRR_7, poRR_6, poRR_7, coRR, k0, k0', hz1', hzj', n3, h9, t_isLane, qv, hF, e, ev1, lv, h5, h4, mget_self, mset_mset, i10, Nat.reduceEqDiff]
      · simp only [e175_0, e175_0n, e175_1, e175_2, e175_5, e175_6, e175_9, e175_12, e175_13, e175_14, e175_15, e175_18, e175_21, e175_24, e175_27, e175_28, e175_28n, e175_29, e175_32, e175_33, e175_34, e175_37, e175_37n, e175_38, e175_41, e175_42, e175_43, e175_44, e175_47, e175_47n, e175_48, e175_49, e175_52, e175_53, e175_53n, e175_54, e175_55, e175_56, e175_59, e175_62, e175_62n, e175_63, e175_63n, e175_64, e175_65, e175_66, e175_69, e175_72, e175_75, e175_75n, e175_76, e175_79, e175_81, e175_82, e175_83, e175_84, e175_85, e175_86, e175_87, ↓reduceIte, zth_v, zth_n, zthv_s, zthi_s, zthm_s, true_or, or_true, eq_self, ne_eq, not_false_eq_true, not_true_eq_false, and_self, and_true, true_and, false_and, and_false, foMod_0, foMod_1, foMod_2, foMod_3, foMod_4, foMod_5, foMod_6, foMod_7, foMod_8, foMod_9, foMod_10, foMod_11, foMod_12, foMod_13, foMod_14, foMod_15, foMod_16, foMod_17, foMod_18, foMod_19, foMod_20, foMod_21, foMod_22, foMod_23, foMod_24, foMod_25, foMod_26, foMod_27, foMod_28, foMod_29, foMod_30, foMod_31, foMod_32, foMod_33, foMod_34, foMod_35, foMod_36, foMod_37, foMod_38, poMod_0, poMod_1, poMod_2, poMod_3, poMod_4, poMod_5, poMod_12, poMod_13, poMod_14, poMod_15, poMod_20, poMod_21, poMod_22, poMod_23, poMod_28, poMod_29, poMod_30, poMod_38, coMod, o44', hu, oY, hzy, h8, m_in_0_2, qv, o62, o63, o64, z62, z63, z64, n60, g1, g2, hc, e, ev1, lv, gi, i10, Int32.le_refl, Nat.reduceEqDiff]
  · refine ⟨-9223372036854775808, mset M 1 (oRR 2 10 18 27 31 35 tr 2), _, ?_, ?_, fin0 2⟩
    · simp only [e97_0, e97_0n, e97_1, e97_2, e97_5, e97_5n, e97_6, e97_7, e97_10, e97_10n, e97_12, e97_12n, e97_14, e97_14n, e97_17, e97_18, e97_21, e97_24, e97_27, e97_28, e97_28n, e97_29, e97_29n, e97_31, e97_32, e97_35, e97_38, e97_38n, e97_39, e97_42, e97_45, e97_45n, e97_47, e97_48, e97_51, e97_54, e97_54n, e97_55, e97_56, e97_59, e97_59n, e97_60, e97_63, e97_66, e97_66n, e97_68, e97_69, e97_72, e97_73, e97_76, e97_79, ↓reduceIte, zth_v, zth_n, zthv_s, zthi_s, zthm_s, true_or, or_true, eq_self, ne_eq, not_false_eq_true, not_true_eq_false, and_self, and_true, true_and, false_and, and_false, foRR_0, foRR_1, foRR_2, foRR_3, foRR_4, foRR_5, foRR_6, foRR_7, poRR_6, poRR_7, coRR, k0, k0', hz1', h9, t_isLane, qv, hF, e, lv, mget_self, mset_mset, i10, show ((2 : Int32) = 0) = False from by decide, Nat.reduceEqDiff]
    · simp only [e175_0, e175_0n, e175_1, e175_2, e175_5, e175_6, e175_9, e175_12, e175_13, e175_14, e175_15, e175_18, e175_21, e175_24, e175_27, e175_28, e175_28n, e175_29, e175_32, e175_33, e175_34, e175_37, e175_37n, e175_38, e175_41, e175_42, e175_43, e175_44, e175_47, e175_47n, e175_48, e175_49, e175_52, e175_53, e175_53n, e175_54, e175_55, e175_56, e175_59, e175_62, e175_62n, e175_63, e175_63n, e175_64, e175_65, e175_66, e175_69, e175_72, e175_75, e175_75n, e175_76, e175_79, e175_81, e175_82, e175_83, e175_84, e175_85, e175_86, e175_87, ↓reduceIte, zth_v, zth_n, zthv_s, zthi_s, zthm_s, true_or, or_true, eq_self, ne_eq, not_false_eq_true, not_true_eq_false, and_self, and_true, true_and, false_and, and_false, foMod_0, foMod_1, foMod_2, foMod_3, foMod_4, foMod_5, foMod_6, foMod_7, foMod_8, foMod_9, foMod_10, foMod_11, foMod_12, foMod_13, foMod_14, foMod_15, foMod_16, foMod_17, foMod_18, foMod_19, foMod_20, foMod_21, foMod_22, foMod_23, foMod_24, foMod_25, foMod_26, foMod_27, foMod_28, foMod_29, foMod_30, foMod_31, foMod_32, foMod_33, foMod_34, foMod_35, foMod_36, foMod_37, foMod_38, poMod_0, poMod_1, poMod_2, poMod_3, poMod_4, poMod_5, poMod_12, poMod_13, poMod_14, poMod_15, poMod_20, poMod_21, poMod_22, poMod_23, poMod_28, poMod_29, poMod_30, poMod_38, coMod, o44', hu, oY, hzy, h8, m_in_0_2, qv, o62, o63, z62, z63, g1, g2, lv, fl, fl2, i10, Nat.reduceEqDiff]
end CE
