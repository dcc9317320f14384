/-! Call by call, thirteen: odds -/
def nL (n : Nat) : Int64 := Int64.ofNat n
theorem nL_rem : ∀ a, a ≤ 9 → ∀ b, b ≤ 9 → 1 ≤ b → nL a - nL a / nL b * nL b = nL (a % b) := by decide +kernel
theorem nL_ne0 : ∀ b, b ≤ 9 → 1 ≤ b → (nL b = 0) = False := by
  intro b h1 h2
  have z : ∀ b, b ≤ 9 → 1 ≤ b → ¬ nL b = 0 := by decide +kernel
  exact eq_false (z b h1 h2)
theorem nL_1 : ∀ b, b ≤ 9 → nL b + 1 = nL (b + 1) := by decide +kernel
theorem nL_of : ∀ b, b ≤ 9 → (nI b).toInt64 = nL b := by decide +kernel
theorem nL_quo : ∀ a, a ≤ 9 → ∀ g, g ≤ 9 → 1 ≤ g → (zquo (nI a) (nI g)).toInt64 = nL a / nL g := by decide +kernel
theorem nI_rem : ∀ a, a ≤ 9 → ∀ b, b ≤ 9 → 1 ≤ b → nI a % nI b = nI (a % b) := by decide +kernel
def gdn (u t : Nat) : Nat → Nat
  | 0 => 1
  | d + 1 => if d = 0 then 1 else if u % (d + 1) = 0 then (if t % (d + 1) = 0 then d + 1 else gdn u t d) else gdn u t d
theorem gdn_gcd : ∀ u, u ≤ 9 → ∀ t, t ≤ 9 → 1 ≤ t → gdn u t t = Nat.gcd u t := by decide +kernel
theorem gcd_9 {u t : Nat} (h1 : 1 ≤ t) (h2 : t ≤ 9) : 1 ≤ Nat.gcd u t ∧ Nat.gcd u t ≤ 9 := ⟨Nat.gcd_pos_of_pos_right u h1, Nat.le_trans (Nat.gcd_le_right u h1) h2⟩
section OD
variable {M : zMem}
theorem t_gd_loop {u t : Nat} (hu : u ≤ 9) (ht : t ≤ 9) : ∀ d, d ≤ 9 → ev 93 2 [some (.int (nI u)), some (.int (nI t)), some (.int (nI d))] [] M = some (some (.int (nI (gdn u t d))), M) := by
  intro d
  induction d with
  | zero =>
    intro _
    have g1 : nI 0 ≤ 1 := by decide
    simp only [e93_0, e93_1, e93_2, e93_3, e93_4, e93_7, e93_8, e93_9, e93_10, e93_13, e93_14, e93_15, e93_16, e93_19, e93_20, e93_21, e93_24, e93_27, e93_28, ↓reduceIte, zth_v, zth_n, zthv_s, zthi_s, zthm_s, true_or, or_true, eq_self, ne_eq, not_false_eq_true, not_true_eq_false, and_self, and_true, true_and, false_and, and_false, g1, gdn]
    rfl
  | succ d ih =>
    intro hd
    have ih := ih (by omega)
    rw [gdn]
    by_cases c : d = 0
    · subst c
      have g1 : nI (0 + 1) ≤ 1 := by decide
      simp only [e93_0, e93_1, e93_2, e93_3, e93_4, e93_7, e93_8, e93_9, e93_10, e93_13, e93_14, e93_15, e93_16, e93_19, e93_20, e93_21, e93_24, e93_27, e93_28, ↓reduceIte, zth_v, zth_n, zthv_s, zthi_s, zthm_s, true_or, or_true, eq_self, ne_eq, not_false_eq_true, not_true_eq_false, and_self, and_true, true_and, false_and, and_false, g1]
      rfl
    · have g1 : ¬ nI (d + 1) ≤ 1 := ni_nle (b := d + 1) (a := 1) (by omega) (by omega)
      have g2 : ¬ nI (d + 1) = 0 := nI_ne0 (by omega) (by omega)
      have r1 := nI_rem u hu (d + 1) (by omega) (by omega)
      have r2 := nI_rem t ht (d + 1) (by omega) (by omega)
      have l1 := Nat.mod_le u (d + 1)
      have l2 := Nat.mod_le t (d + 1)
      have z1 : (nI (u % (d + 1)) = 0) = (u % (d + 1) = 0) := propext (nI_eq (a := u % (d + 1)) (b := 0) (by omega) (by omega))
      have z2 : (nI (t % (d + 1)) = 0) = (t % (d + 1) = 0) := propext (nI_eq (a := t % (d + 1)) (b := 0) (by omega) (by omega))
      rw [e93_2]
      simp only [e93_0, e93_1, e93_3, e93_4, e93_7, e93_8, e93_9, e93_10, e93_13, e93_14, e93_15, e93_16, e93_19, e93_20, e93_21, e93_24, e93_27, e93_28, ↓reduceIte, zth_v, zth_n, zthv_s, zthi_s, zthm_s, true_or, or_true, eq_self, ne_eq, not_false_eq_true, not_true_eq_false, and_self, and_true, true_and, false_and, and_false, g1, g2, r1, r2, z1, z2, c, nI_p1, ih]
      split
      · split <;> rfl
      · rfl
theorem t_gd {u t : Nat} (hu : u ≤ 9) (h1 : 1 ≤ t) (ht : t ≤ 9) : ev 93 0 [some (.int (nI u)), some (.int (nI t)), none] [] M = some (some (.int (nI (Nat.gcd u t))), M) := by
  have z := t_gd_loop (M := M) hu ht t ht
  rw [gdn_gcd u hu t ht h1] at z
  simp only [e93_0, e93_1, e93_3, e93_4, e93_7, e93_8, e93_9, e93_10, e93_13, e93_14, e93_15, e93_16, e93_19, e93_20, e93_21, e93_24, e93_27, e93_28, ↓reduceIte, zth_v, zth_n, zthv_s, zthi_s, zthm_s, true_or, or_true, eq_self, ne_eq, not_false_eq_true, not_true_eq_false, and_self, and_true, true_and, false_and, and_false]
  exact z
theorem m_share_loop {a b : Option Value} {w : Int32} : ∀ k x y d, y < k → x ≤ 9 → y ≤ 9 → ∃ d', ev 123 6 [a, none, b, none, some (.int w), some (.long (nL x)), none, some (.long (nL y)), none, d, none] [] M = ev 123 31 [a, none, b, none, some (.int w), some (.long (nL (Nat.gcd x y))), none, some (.long (nL 0)), none, d', none] [] M := by
  intro k
  induction k with
  | zero => intro x y d h; omega
  | succ k ih =>
    intro x y d h hx hy
    by_cases c : y = 0
    · subst c
      refine ⟨d, ?_⟩
      have g1 : nL 0 = 0 := by decide
      rw [Nat.gcd_zero_right]
      simp only [e123_0, e123_1, e123_3, e123_4, e123_6, e123_8, e123_9, e123_10, e123_13, e123_15, e123_17, e123_18, e123_20, e123_22, e123_24, e123_26, e123_28, e123_33, e123_36, e123_37, e123_40, e123_41, e123_43, e123_44, ↓reduceIte, zth_v, zth_n, zthv_s, zthi_s, zthm_s, true_or, or_true, eq_self, ne_eq, not_false_eq_true, not_true_eq_false, and_self, and_true, true_and, false_and, and_false, lc_eq, g1]
    · have m1 : x % y < y := Nat.mod_lt _ (by omega)
      obtain ⟨d', i1⟩ := ih y (x % y) (some (.long (nL (x % y)))) (by omega) hy (by omega)
      refine ⟨d', ?_⟩
      rw [show Nat.gcd x y = Nat.gcd y (x % y) from by rw [Nat.gcd_comm x y, Nat.gcd_rec y x, Nat.gcd_comm], ← i1, e123_6]
      simp only [e123_0, e123_1, e123_3, e123_4, e123_8, e123_9, e123_10, e123_13, e123_15, e123_17, e123_18, e123_20, e123_22, e123_24, e123_26, e123_28, e123_33, e123_36, e123_37, e123_40, e123_41, e123_43, e123_44, ↓reduceIte, zth_v, zth_n, zthv_s, zthi_s, zthm_s, true_or, or_true, eq_self, ne_eq, not_false_eq_true, not_true_eq_false, and_self, and_true, true_and, false_and, and_false, lc_eq, nL_ne0 y hy (by omega), nL_rem x hx y hy (by omega)]
theorem m_share {u t : Nat} (hu : u ≤ 9) (h1 : 1 ≤ t) (ht : t ≤ 9) {w : Int32} : ev 123 0 [some (.long (nL u)), none, some (.long (nL t)), none, some (.int w), none, none, none, none, none, none] [] M = some (some (.long (if w = 0 then nL u / nL (Nat.gcd u t) else nL t / nL (Nat.gcd u t))), M) := by
  obtain ⟨d', i1⟩ := m_share_loop (M := M) (a := some (.long (nL u))) (b := some (.long (nL t))) (w := w) 10 u t none (by omega) hu ht
  have st : ev 123 0 [some (.long (nL u)), none, some (.long (nL t)), none, some (.int w), none, none, none, none, none, none] [] M = ev 123 6 [some (.long (nL u)), none, some (.long (nL t)), none, some (.int w), some (.long (nL u)), none, some (.long (nL t)), none, none, none] [] M := by
    simp only [e123_0, e123_1, e123_3, e123_4, e123_8, e123_9, e123_10, e123_13, e123_15, e123_17, e123_18, e123_20, e123_22, e123_24, e123_26, e123_28, e123_31, e123_33, e123_36, e123_37, e123_40, e123_41, e123_43, e123_44, ↓reduceIte, zth_v, zth_n, zthv_s, zthi_s, zthm_s, true_or, or_true, eq_self, ne_eq, not_false_eq_true, not_true_eq_false, and_self, and_true, true_and, false_and, and_false]
  have g := gcd_9 (u := u) h1 ht
  rw [st, i1]
  simp only [e123_0, e123_1, e123_3, e123_4, e123_8, e123_9, e123_10, e123_13, e123_15, e123_17, e123_18, e123_20, e123_22, e123_24, e123_26, e123_28, e123_31, e123_33, e123_36, e123_37, e123_40, e123_41, e123_43, e123_44, ↓reduceIte, zth_v, zth_n, zthv_s, zthi_s, zthm_s, true_or, or_true, eq_self, ne_eq, not_false_eq_true, not_true_eq_false, and_self, and_true, true_and, false_and, and_false, nL_ne0 _ g.2 g.1]
  split <;> rfl
end OD
