/-! The law holds -/
theorem law_loop {L : Nat} {xs : Nat → Int32} (hL : L ≤ 384) : ∀ n i M, L ≤ i + 6 * n → i ≤ 390 → zGood M → mget M 0 = some (.inl (L, xs)) → ∃ M' : zMem, ev 186 18 [some (.ref 0), some (.ref 1), some (.ref 44), some (.int (nI i))] [] M = some (some (.int 1), M') ∧ M'.1 ≤ M.1 + n ∧ M'.2.1 ≤ M.2.1 + 4 * n := by
  intro n
  have stop : ∀ i M, L < i + 6 → i ≤ 390 → mget M 0 = some (.inl (L, xs)) → ev 186 18 [some (.ref 0), some (.ref 1), some (.ref 44), some (.int (nI i))] [] M = some (some (.int 1), M) := by
    intro i M h hi h0
    have g1 : nI L - 6 < nI i := by rw [law_gt hL (by omega)]; exact h
    rw [e186_18]
    simp only [e186_19, e186_19n, e186_20, e186_21, e186_23, e186_24, e186_1123, e186_1124, ↓reduceIte, zth_v, zth_n, zthv_s, zthi_s, zthm_s, true_or, or_true, eq_self, ne_eq, not_false_eq_true, not_true_eq_false, and_self, and_true, true_and, false_and, and_false, h0, zal_i, g1]
  induction n with
  | zero =>
    intro i M h hi g h0
    exact ⟨M, stop i M (by omega) hi h0, by omega, by omega⟩
  | succ n ih =>
    intro i M h hi g h0
    by_cases c : i + 6 ≤ L
    · obtain ⟨M2, e1, g2, k1, k2, k3⟩ := w_all g h0 c hL
      obtain ⟨M', a1, a2, a3⟩ := ih (i + 6) M2 (by omega) (by omega) g2 (k1.trans h0)
      exact ⟨M', e1.trans a1, by omega, by omega⟩
    · exact ⟨M, stop i M (by omega) hi h0, by omega, by omega⟩
theorem zTrue_holds : zTrue := by
  intro L xs hL
  obtain ⟨M1, a1, a2, a3, a4, a5⟩ := i_rr (M := mnew (zM0 L xs) 8 (.inr (.inr (7, [.null, .null, .null, .null, .null, .null, .int 0, .int 0])))) rfl (by rw [mget_new]; rfl)
  obtain ⟨M2, A, b1, b2, b3, b4, b5, b6, b7⟩ := i_model (M := mnew M1 39 (.inr (.inr (8, [.int 0, .int 0, .int 0, .int 0, .int 0, .int 0, .null, .null, .null, .null, .null, .null, .int 0, .int 0, .int 0, .int 0, .null, .null, .null, .null, .int 0, .int 0, .int 0, .int 0, .null, .null, .null, .null, .int 0, .int 0, .int 0, .null, .null, .null, .null, .null, .null, .null, .int 0])))) (by rw [mnew_1, a3]) (by rw [mget_new, a3]; rfl)
  have c0 : mget M2 0 = some (.inl (L, xs)) := by
    rw [b7 0 (by omega), mget_new, a3, if_neg (by omega), a5]
    rfl
  have cf : ∀ a, 1 ≤ a → a ≤ 43 → mget M2 a = mget M1 a := fun a h1 h2 => by
    rw [b7 a (by omega), mget_new, a3, if_neg (by omega)]
  have g : zGood M2 := ⟨by omega, _, _, _, _, _, _, _, _, _, _, _, _, _, _, _, a2.fr cf, ⟨_, A, b2, ⟨rfl, rfl, rfl, rfl, rfl, rfl, rfl, rfl⟩, ⟨fun j hj => by omega, fun j hj => by omega⟩, ⟨b4 59 (by omega), b4 60 (by omega), b4 61 (by omega)⟩, ⟨fun k hk => by rw [if_pos rfl]; exact b3 k hk, fun k hk h => absurd rfl h, fun k i hk hi => absurd hi (Nat.not_lt_zero i)⟩⟩, ⟨Or.inl ⟨rfl, rfl, rfl⟩, fun j hj => by omega, fun j hj => by omega⟩, fun i hi => by omega, fun k hk => Or.inl ⟨rfl, rfl⟩⟩
  obtain ⟨M', d1, d2, d3⟩ := law_loop hL 64 0 M2 (by omega) (by omega) g c0
  have e1 : (zM0 L xs).1 = 0 := rfl
  have e2 : (zM0 L xs).2.1 = 0 := rfl
  have e3 : M2.2.1 = M1.2.1 + 39 + 402 := b6
  have e4 : M1.2.1 ≤ 0 + 8 + 1000 := a4
  refine ⟨M', ?_, by omega, by omega⟩
  rw [← d1]
  have e5 : (zM0 L xs).1 + 1 = 1 := rfl
  have e6 : M1.1 + 1 = 44 := by omega
  simp only [e186_0, e186_3, e186_4, e186_7, e186_7n, e186_8, e186_11, e186_12, e186_15, e186_15n, e186_16, e186_17, ↓reduceIte, zth_v, zth_n, zthv_s, zthi_s, zthm_s, true_or, or_true, eq_self, ne_eq, not_false_eq_true, not_true_eq_false, and_self, and_true, true_and, false_and, and_false, e5, a1, e6, b1, nI_0]
