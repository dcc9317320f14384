/-! A text that is read -/
def znx (g : Nat → Int32) (n p : Nat) : Int32 := if p < n then g p else -9
def zdig (g : Nat → Int32) (n p : Nat) (lo : Int32) : Option Int32 := if znx g n p < 48 + lo then none else if znx g n p ≤ 57 then some (znx g n p - 48) else none
def zkind (x : Int32) : Int32 := if x = 99 then 0 else if x = 109 then 1 else if x = 117 then 2 else -9
def zpL (g : Nat → Int32) (n p : Nat) : Nat × Option Int32 :=
  if znx g n p = 44 then (match zdig g n (p + 1) 0 with
    | none => (p + 1, none)
    | some x => (match zdig g n (p + 2) (if x = 0 then 1 else 0) with
      | none => (p + 2, none)
      | some y => (p + 3, some (10 * x + y)))) else (p, none)
def zpR (g : Nat → Int32) (n p : Nat) : Nat × Option (Int32 × Int32 × Int32) :=
  if znx g n p = 59 then (if zkind (znx g n (p + 1)) = -9 then (p + 1, none) else (match zdig g n (p + 2) 1 with
    | none => (p + 2, none)
    | some x => (match zdig g n (p + 3) 1 with
      | none => (p + 3, none)
      | some y => (p + 4, some (zkind (znx g n (p + 1)), x, y))))) else (p, none)
theorem zsub48 {x : Int32} (h1 : ¬ x < 48) (h2 : x ≤ 57) : ∃ d, d ≤ 9 ∧ x - 48 = nI d ∧ x = nI (d + 48) := by
  have h3 : x.toInt ≤ 57 := by simpa using Int32.le_iff_toInt_le.mp h2
  have h4 : 48 ≤ x.toInt := by
    have := Int32.le_iff_toInt_le.mp (Int32.not_lt.mp h1)
    simpa using this
  have hx : x = nI x.toInt.toNat := by
    apply Int32.toInt_inj.mp
    rw [nI_toInt (by omega)]
    omega
  refine ⟨x.toInt.toNat - 48, by omega, ?_, ?_⟩
  · rw [show (48 : Int32) = nI 48 from rfl]
    conv => lhs; rw [hx]
    rw [pk_sub (by omega)]
  · rw [show x.toInt.toNat - 48 + 48 = x.toInt.toNat by omega]
    exact hx
theorem zdig_of {g : Nat → Int32} {n p : Nat} {lo : Int32} (hlo : lo = 0 ∨ lo = 1) {v : Int32} (h : zdig g n p lo = some v) : ∃ d, d ≤ 9 ∧ v = nI d ∧ (lo = 1 → 1 ≤ d) ∧ p < n := by
  unfold zdig at h
  split at h
  · cases h
  · rename_i h1
    split at h
    · rename_i h2
      cases h
      have h48 : ¬ znx g n p < 48 := by
        rcases hlo with rfl | rfl
        · exact h1
        · intro z
          apply h1
          have a1 := Int32.lt_iff_toInt_lt.mp z
          apply Int32.lt_iff_toInt_lt.mpr
          have e1 : ((48 : Int32) + 1).toInt = 49 := by decide
          have e2 : (48 : Int32).toInt = 48 := by decide
          omega
      obtain ⟨d, d1, d2, d3⟩ := zsub48 h48 h2
      refine ⟨d, d1, d2, fun e => ?_, ?_⟩
      · subst e
        rw [d3] at h1
        by_cases z : d = 0
        · subst z
          exact absurd (by decide) h1
        · omega
      · by_cases z : p < n
        · exact z
        · unfold znx at h48
          rw [if_neg z] at h48
          exact absurd (by decide) h48
    · cases h
theorem nI_n9 {d : Nat} (h : d ≤ 9) : ¬ nI d = -9 := by
  intro z
  have := congrArg Int32.toInt z
  rw [nI_toInt (by omega)] at this
  have e : (-9 : Int32).toInt = -9 := by decide
  omega
def zTx (M : zMem) (t s i n p : Nat) : Prop := t ≠ 0 ∧ mget M t = some (oText s (nI i) (nI n) (nI p))
def zFx (M M' : zMem) (t B : Nat) : Prop := M'.1 = M.1 ∧ M'.2.1 = M.2.1 ∧ ∀ a, a ≠ t → (a < B ∨ B + 7 < a) → mget M' a = mget M a
theorem zFx.rf {M : zMem} {t B : Nat} : zFx M M t B := ⟨rfl, rfl, fun _ _ _ => rfl⟩
theorem zFx.tr {M M1 M2 : zMem} {t B : Nat} (h : zFx M M1 t B) (h' : zFx M1 M2 t B) : zFx M M2 t B := ⟨h'.1.trans h.1, h'.2.1.trans h.2.1, fun a h1 h2 => (h'.2.2 a h1 h2).trans (h.2.2 a h1 h2)⟩
theorem zFx.ofT {M : zMem} {t B : Nat} {c : zPC} : zFx M (mset M t c) t B := ⟨rfl, rfl, fun a h1 _ => mget_ne h1⟩
theorem zFx.ofB {M M' : zMem} {t B : Nat} (h : zFr M M' B (B + 7)) : zFx M M' t B := ⟨h.1, h.2.1, fun a _ h2 => h.2.2 a h2⟩
section TX
variable {M : zMem} {t s i n p sn : Nat} {ln : Int32} {f : Nat → Int32}
theorem x_next (h : zTx M t s i n p) (hS : zSh M s ln sn f) (hin : i + n ≤ sn) (hp : p ≤ 64) : ev 66 0 [some (.ref t)] [] M = some (some (.int (znx (fun k => f (i + k)) n p)), M) := by
  obtain ⟨ht, h1⟩ := h
  obtain ⟨hs, hn, k1, k2⟩ := hS
  have hz : zoc (mget M s) = some 4 := by rw [k1]; exact coSheet
  by_cases q : p < n
  · have g1 : ¬ nI n ≤ nI p := ni_nle q (by omega)
    have s1 := s_at_in k1 k2 hn hs (j := i + p) (by omega)
    simp only [e66_0, e66_0n, e66_1, e66_4, e66_4n, e66_5, e66_8, e66_11, e66_11n, e66_12, e66_15, e66_15n, e66_16, e66_19, e66_19n, e66_20, e66_23, e66_24, e66_27, e66_30, e66_32, ↓reduceIte, zth_v, zth_n, zthv_s, zthi_s, zthm_s, true_or, or_true, eq_self, ne_eq, not_false_eq_true, not_true_eq_false, and_self, and_true, true_and, false_and, and_false, foText_0, foText_1, foText_2, foText_3, poText_1, poText_2, poText_3, coText, h1, ht, hs, hz, g1, nI_add, s1, znx, q, if_true]
  · have g1 : nI n ≤ nI p := ni_ge (by omega) (by omega)
    simp only [e66_0, e66_0n, e66_1, e66_4, e66_4n, e66_5, e66_8, e66_11, e66_11n, e66_12, e66_15, e66_15n, e66_16, e66_19, e66_19n, e66_20, e66_23, e66_24, e66_27, e66_30, e66_32, ↓reduceIte, zth_v, zth_n, zthv_s, zthi_s, zthm_s, true_or, or_true, eq_self, ne_eq, not_false_eq_true, not_true_eq_false, and_self, and_true, true_and, false_and, and_false, foText_0, foText_1, foText_2, foText_3, poText_1, poText_2, poText_3, coText, h1, ht, g1, znx, q, if_false]
theorem zTx.set (h : zTx M t s i n p) {q : Nat} : zTx (mset M t (oText s (nI i) (nI n) (nI q))) t s i n q := ⟨h.1, mget_self⟩
theorem x_takes (h : zTx M t s i n p) (hS : zSh M s ln sn f) (hin : i + n ≤ sn) (hp : p ≤ 64) {x : Int32} : ev 65 0 [some (.ref t), some (.int x)] [] M = if znx (fun k => f (i + k)) n p = x then some (some (.int 1), mset M t (oText s (nI i) (nI n) (nI (p + 1)))) else some (some (.int 0), M) := by
  have h9 := x_next h hS hin hp
  obtain ⟨ht, h1⟩ := h
  simp only [e65_0, e65_0n, e65_1, e65_4, e65_5, e65_8, e65_9, e65_10, e65_10n, e65_11, e65_12, e65_15, e65_16, e65_17, e65_20, e65_21, ↓reduceIte, zth_v, zth_n, zthv_s, zthi_s, zthm_s, true_or, or_true, eq_self, ne_eq, not_false_eq_true, not_true_eq_false, and_self, and_true, true_and, false_and, and_false, foText_0, foText_1, foText_2, foText_3, poText_1, poText_2, poText_3, coText, h1, ht, h9, nI_1]
theorem x_takesDigit (h : zTx M t s i n p) (hS : zSh M s ln sn f) (hin : i + n ≤ sn) (hp : p ≤ 64) {lo : Int32} : ev 64 0 [some (.ref t), some (.int lo), none] [] M = match zdig (fun k => f (i + k)) n p lo with
    | some v => some (some (.int v), mset M t (oText s (nI i) (nI n) (nI (p + 1))))
    | none => some (some (.int (-9)), M) := by
  have h9 := x_next h hS hin hp
  obtain ⟨ht, h1⟩ := h
  simp only [e64_0, e64_0n, e64_1, e64_4, e64_5, e64_6, e64_8, e64_9, e64_10, e64_13, e64_14, e64_16, e64_19, e64_21, e64_22, e64_22n, e64_23, e64_24, e64_27, e64_28, e64_29, e64_32, e64_33, e64_35, e64_36, ↓reduceIte, zth_v, zth_n, zthv_s, zthi_s, zthm_s, true_or, or_true, eq_self, ne_eq, not_false_eq_true, not_true_eq_false, and_self, and_true, true_and, false_and, and_false, foText_0, foText_1, foText_2, foText_3, poText_1, poText_2, poText_3, coText, h1, ht, h9, nI_1, zdig]
  by_cases q1 : znx (fun k => f (i + k)) n p < 48 + lo
  · rw [if_pos q1, if_pos q1]
  · rw [if_neg q1, if_neg q1]
    by_cases q2 : znx (fun k => f (i + k)) n p ≤ 57
    · rw [if_pos q2, if_pos q2]
    · rw [if_neg q2, if_neg q2]
theorem x_kindBy {x : Int32} : ev 63 0 [some (.int x)] [] M = some (some (.int (zkind x)), M) := by
  simp only [e63_0, e63_1, e63_3, e63_6, e63_7, e63_8, e63_9, e63_11, e63_14, e63_15, e63_16, e63_17, e63_19, e63_22, e63_23, e63_26, e63_28, ↓reduceIte, zth_v, zth_n, zthv_s, zthi_s, zthm_s, true_or, or_true, eq_self, ne_eq, not_false_eq_true, not_true_eq_false, and_self, and_true, true_and, false_and, and_false, zkind]
  split
  · rfl
  · split
    · rfl
    · split <;> rfl
theorem x_takesKind (h : zTx M t s i n p) (hS : zSh M s ln sn f) (hin : i + n ≤ sn) (hp : p ≤ 64) : ev 62 0 [some (.ref t), none] [] M = if zkind (znx (fun k => f (i + k)) n p) = -9 then some (some (.int (-9)), M) else some (some (.int (zkind (znx (fun k => f (i + k)) n p))), mset M t (oText s (nI i) (nI n) (nI (p + 1)))) := by
  have h9 := x_next h hS hin hp
  obtain ⟨ht, h1⟩ := h
  simp only [e62_0, e62_0n, e62_1, e62_4, e62_7, e62_8, e62_9, e62_11, e62_14, e62_14n, e62_15, e62_16, e62_19, e62_20, e62_21, e62_24, e62_25, ↓reduceIte, zth_v, zth_n, zthv_s, zthi_s, zthm_s, true_or, or_true, eq_self, ne_eq, not_false_eq_true, not_true_eq_false, and_self, and_true, true_and, false_and, and_false, foText_0, foText_1, foText_2, foText_3, poText_1, poText_2, poText_3, coText, h1, ht, h9, nI_1, x_kindBy]
  by_cases q1 : zkind (znx (fun k => f (i + k)) n p) = -9
  · rw [if_pos q1, if_pos q1, q1]
  · rw [if_neg q1, if_neg q1]
end TX
section TX2
variable {t s i n sn B nl nr : Nat} {ln : Int32} {f : Nat → Int32} {c m : Int32} {F : Nat → Int32} {r : Nat → zRD}
theorem x_fillsLand {M : zMem} {p : Nat} (h : zTx M t s i n p) (hS : zSh M s ln sn f) (hin : i + n ≤ sn) (hp : p ≤ 60) (hts : t ≠ s ∧ t ≠ s + 1) (hN : zNur M B c nl nr m F r) (hl : nl < 5) (htB : t < B ∨ B + 7 < t) :
    match zpL (fun k => f (i + k)) n p with
    | (p', some x) => ∃ M', ev 60 0 [some (.ref t), some (.ref B), none, none] [] M = some (some (.int 1), M') ∧ zTx M' t s i n p' ∧ zNur M' B c (nl + 1) nr m (upd F nl x) r ∧ zFx M M' t B
    | (p', none) => ∃ M', ev 60 0 [some (.ref t), some (.ref B), none, none] [] M = some (some (.int 0), M') ∧ zTx M' t s i n p' ∧ zNur M' B c nl nr m F r ∧ zFx M M' t B := by
  have ht := h.1
  have hz : zoc (mget M t) = some 6 := by rw [h.2]; exact coText
  have a1 := x_takes h hS hin (by omega) (x := 44)
  have nf : ∀ {M : zMem} {q : Nat}, zNur M B c nl nr m F r → zNur (mset M t (oText s (nI i) (nI n) (nI q))) B c nl nr m F r := fun z => z.fr fun a _ _ => mget_ne (by omega)
  have sf : ∀ {M : zMem} {q : Nat}, zSh M s ln sn f → zSh (mset M t (oText s (nI i) (nI n) (nI q))) s ln sn f := fun z => z.fr (mget_ne (by omega)) (mget_ne (by omega))
  unfold zpL
  by_cases q1 : znx (fun k => f (i + k)) n p = 44
  · rw [if_pos q1]
    rw [if_pos q1] at a1
    have h2 := h.set (q := p + 1)
    have a2 := x_takesDigit h2 (sf hS) hin (by omega) (lo := 0)
    have hz2 : zoc (mget (mset M t (oText s (nI i) (nI n) (nI (p + 1)))) t) = some 6 := by rw [mget_self]; exact coText
    cases d1 : zdig (fun k => f (i + k)) n (p + 1) 0 with
    | none =>
      rw [d1] at a2
      refine ⟨_, ?_, h2, nf hN, zFx.ofT⟩
      simp only [e60_0, e60_0n, e60_1, e60_3, e60_6, e60_9, e60_10, e60_11, e60_11n, e60_12, e60_13, e60_16, e60_17, e60_18, e60_20, e60_23, e60_24, e60_25, e60_25n, e60_26, e60_27, e60_30, e60_31, e60_34, e60_35, e60_38, e60_39, e60_40, e60_42, e60_45, e60_46, e60_47, e60_47n, e60_48, e60_50, e60_51, e60_52, e60_53, e60_54, e60_57, e60_58, ↓reduceIte, zth_v, zth_n, zthv_s, zthi_s, zthm_s, true_or, or_true, eq_self, ne_eq, not_false_eq_true, not_true_eq_false, and_self, and_true, true_and, false_and, and_false, hz, hz2, ht, a1, a2, i10]
    | some x =>
      rw [d1] at a2
      obtain ⟨dx, dx1, rfl, -, -⟩ := zdig_of (Or.inl rfl) d1
      simp only [mset_mset] at a2
      have h3 := h.set (q := p + 2)
      obtain ⟨lo, hld⟩ : ∃ lo : Int32, lo = if nI dx = 0 then 1 else 0 := ⟨_, rfl⟩
      have hlo : lo = 0 ∨ lo = 1 := by rw [hld]; split <;> simp
      have a3 := x_takesDigit h3 (sf hS) hin (by omega) (lo := lo)
      have hz3 : zoc (mget (mset M t (oText s (nI i) (nI n) (nI (p + 2)))) t) = some 6 := by rw [mget_self]; exact coText
      have e0 := nI_n9 dx1
      dsimp only
      rw [← hld]
      cases d2 : zdig (fun k => f (i + k)) n (p + 2) lo with
      | none =>
        rw [d2] at a3
        refine ⟨_, ?_, h3, nf hN, zFx.ofT⟩
        by_cases q0 : nI dx = 0
        · rw [if_pos q0] at hld
          subst hld
          simp only [e60_0, e60_0n, e60_1, e60_3, e60_6, e60_9, e60_10, e60_11, e60_11n, e60_12, e60_13, e60_16, e60_17, e60_18, e60_20, e60_23, e60_24, e60_25, e60_25n, e60_26, e60_27, e60_30, e60_31, e60_34, e60_35, e60_38, e60_39, e60_40, e60_42, e60_45, e60_46, e60_47, e60_47n, e60_48, e60_50, e60_51, e60_52, e60_53, e60_54, e60_57, e60_58, ↓reduceIte, zth_v, zth_n, zthv_s, zthi_s, zthm_s, true_or, or_true, eq_self, ne_eq, not_false_eq_true, not_true_eq_false, and_self, and_true, true_and, false_and, and_false, hz, hz2, hz3, ht, a1, a2, i10, e0, q0, i00, show ((0 : Int32) = -9) = False from by decide, a3]
        · rw [if_neg q0] at hld
          subst hld
          simp only [e60_0, e60_0n, e60_1, e60_3, e60_6, e60_9, e60_10, e60_11, e60_11n, e60_12, e60_13, e60_16, e60_17, e60_18, e60_20, e60_23, e60_24, e60_25, e60_25n, e60_26, e60_27, e60_30, e60_31, e60_34, e60_35, e60_38, e60_39, e60_40, e60_42, e60_45, e60_46, e60_47, e60_47n, e60_48, e60_50, e60_51, e60_52, e60_53, e60_54, e60_57, e60_58, ↓reduceIte, zth_v, zth_n, zthv_s, zthi_s, zthm_s, true_or, or_true, eq_self, ne_eq, not_false_eq_true, not_true_eq_false, and_self, and_true, true_and, false_and, and_false, hz, hz2, hz3, ht, a1, a2, i10, e0, q0, a3]
      | some y =>
        rw [d2] at a3
        obtain ⟨dy, dy1, rfl, -, -⟩ := zdig_of hlo d2
        simp only [mset_mset] at a3
        have h4 := h.set (q := p + 3)
        have e1 := nI_n9 dy1
        obtain ⟨M', b1, b2, b3⟩ := n_addLand (nf (q := p + 3) hN) hl (x := 10 * nI dx + nI dy)
        have hz4 : zoc (mget (mset M t (oText s (nI i) (nI n) (nI (p + 3)))) B) = some 1 := by rw [mget_ne (by omega), hN.2.2.2.1]; exact coNur
        refine ⟨M', ?_, ⟨ht, (b3.2.2 t (by omega)).trans mget_self⟩, b2, zFx.tr zFx.ofT (zFx.ofB b3)⟩
        by_cases q0 : nI dx = 0
        · rw [if_pos q0] at hld
          subst hld
          rw [q0] at b1
          simp only [e60_0, e60_0n, e60_1, e60_3, e60_6, e60_9, e60_10, e60_11, e60_11n, e60_12, e60_13, e60_16, e60_17, e60_18, e60_20, e60_23, e60_24, e60_25, e60_25n, e60_26, e60_27, e60_30, e60_31, e60_34, e60_35, e60_38, e60_39, e60_40, e60_42, e60_45, e60_46, e60_47, e60_47n, e60_48, e60_50, e60_51, e60_52, e60_53, e60_54, e60_57, e60_58, ↓reduceIte, zth_v, zth_n, zthv_s, zthi_s, zthm_s, true_or, or_true, eq_self, ne_eq, not_false_eq_true, not_true_eq_false, and_self, and_true, true_and, false_and, and_false, hz, hz2, hz3, hz4, hN.1, ht, a1, a2, i10, e0, e1, q0, i00, show ((0 : Int32) = -9) = False from by decide, a3, b1]
        · rw [if_neg q0] at hld
          subst hld
          simp only [e60_0, e60_0n, e60_1, e60_3, e60_6, e60_9, e60_10, e60_11, e60_11n, e60_12, e60_13, e60_16, e60_17, e60_18, e60_20, e60_23, e60_24, e60_25, e60_25n, e60_26, e60_27, e60_30, e60_31, e60_34, e60_35, e60_38, e60_39, e60_40, e60_42, e60_45, e60_46, e60_47, e60_47n, e60_48, e60_50, e60_51, e60_52, e60_53, e60_54, e60_57, e60_58, ↓reduceIte, zth_v, zth_n, zthv_s, zthi_s, zthm_s, true_or, or_true, eq_self, ne_eq, not_false_eq_true, not_true_eq_false, and_self, and_true, true_and, false_and, and_false, hz, hz2, hz3, hz4, hN.1, ht, a1, a2, i10, e0, e1, q0, a3, b1]
  · rw [if_neg q1]
    rw [if_neg q1] at a1
    refine ⟨M, ?_, h, hN, zFx.rf⟩
    simp only [e60_0, e60_0n, e60_1, e60_3, e60_6, e60_9, e60_10, e60_11, e60_11n, e60_12, e60_13, e60_16, e60_17, e60_18, e60_20, e60_23, e60_24, e60_25, e60_25n, e60_26, e60_27, e60_30, e60_31, e60_34, e60_35, e60_38, e60_39, e60_40, e60_42, e60_45, e60_46, e60_47, e60_47n, e60_48, e60_50, e60_51, e60_52, e60_53, e60_54, e60_57, e60_58, ↓reduceIte, zth_v, zth_n, zthv_s, zthi_s, zthm_s, true_or, or_true, eq_self, ne_eq, not_false_eq_true, not_true_eq_false, and_self, and_true, true_and, false_and, and_false, hz, ht, a1]
theorem zkind_ok (x : Int32) : zkind x = -9 ∨ zkind x = 0 ∨ zkind x = 1 ∨ zkind x = 2 := by
  unfold zkind
  split
  · exact Or.inr (Or.inl rfl)
  · split
    · exact Or.inr (Or.inr (Or.inl rfl))
    · split
      · exact Or.inr (Or.inr (Or.inr rfl))
      · exact Or.inl rfl
theorem x_fillsRider {M : zMem} {p : Nat} (h : zTx M t s i n p) (hS : zSh M s ln sn f) (hin : i + n ≤ sn) (hp : p ≤ 60) (hts : t ≠ s ∧ t ≠ s + 1) (hN : zNur M B c nl nr m F r) (hl : nr < 5) (htB : t < B ∨ B + 7 < t) :
    match zpR (fun k => f (i + k)) n p with
    | (p', some (k, l, y)) => ∃ M', ev 61 0 [some (.ref t), some (.ref B), none, none, none] [] M = some (some (.int 1), M') ∧ zTx M' t s i n p' ∧ zNur M' B c nl (nr + 1) m F (va_up r nr (k, l, y, 0, 0, 0)) ∧ zFx M M' t B
    | (p', none) => ∃ M', ev 61 0 [some (.ref t), some (.ref B), none, none, none] [] M = some (some (.int 0), M') ∧ zTx M' t s i n p' ∧ zNur M' B c nl nr m F r ∧ zFx M M' t B := by
  have ht := h.1
  have hz : zoc (mget M t) = some 6 := by rw [h.2]; exact coText
  have a1 := x_takes h hS hin (by omega) (x := 59)
  have nf : ∀ {M : zMem} {q : Nat}, zNur M B c nl nr m F r → zNur (mset M t (oText s (nI i) (nI n) (nI q))) B c nl nr m F r := fun z => z.fr fun a _ _ => mget_ne (by omega)
  have sf : ∀ {M : zMem} {q : Nat}, zSh M s ln sn f → zSh (mset M t (oText s (nI i) (nI n) (nI q))) s ln sn f := fun z => z.fr (mget_ne (by omega)) (mget_ne (by omega))
  have zt : ∀ {q : Nat}, zoc (mget (mset M t (oText s (nI i) (nI n) (nI q))) t) = some 6 := by intro q; rw [mget_self]; exact coText
  unfold zpR
  by_cases q1 : znx (fun k => f (i + k)) n p = 59
  · rw [if_pos q1]
    rw [if_pos q1] at a1
    have h2 := h.set (q := p + 1)
    have a2 := x_takesKind h2 (sf hS) hin (by omega)
    by_cases q2 : zkind (znx (fun k => f (i + k)) n (p + 1)) = -9
    · rw [if_pos q2]
      rw [if_pos q2] at a2
      refine ⟨_, ?_, h2, nf hN, zFx.ofT⟩
      simp only [e61_0, e61_0n, e61_1, e61_3, e61_6, e61_9, e61_10, e61_11, e61_11n, e61_12, e61_15, e61_16, e61_17, e61_19, e61_22, e61_23, e61_24, e61_24n, e61_25, e61_26, e61_29, e61_30, e61_31, e61_33, e61_36, e61_37, e61_38, e61_38n, e61_39, e61_40, e61_43, e61_45, e61_47, e61_49, e61_52, e61_53, e61_54, e61_54n, e61_55, e61_56, e61_57, e61_59, e61_62, e61_63, ↓reduceIte, zth_v, zth_n, zthv_s, zthi_s, zthm_s, true_or, or_true, eq_self, ne_eq, not_false_eq_true, not_true_eq_false, and_self, and_true, true_and, false_and, and_false, hz, zt, ht, a1, a2, i10]
    · rw [if_neg q2]
      rw [if_neg q2] at a2
      simp only [mset_mset] at a2
      have h3 := h.set (q := p + 2)
      have a3 := x_takesDigit h3 (sf hS) hin (by omega) (lo := 1)
      cases d1 : zdig (fun k => f (i + k)) n (p + 2) 1 with
      | none =>
        rw [d1] at a3
        refine ⟨_, ?_, h3, nf hN, zFx.ofT⟩
        simp only [e61_0, e61_0n, e61_1, e61_3, e61_6, e61_9, e61_10, e61_11, e61_11n, e61_12, e61_15, e61_16, e61_17, e61_19, e61_22, e61_23, e61_24, e61_24n, e61_25, e61_26, e61_29, e61_30, e61_31, e61_33, e61_36, e61_37, e61_38, e61_38n, e61_39, e61_40, e61_43, e61_45, e61_47, e61_49, e61_52, e61_53, e61_54, e61_54n, e61_55, e61_56, e61_57, e61_59, e61_62, e61_63, ↓reduceIte, zth_v, zth_n, zthv_s, zthi_s, zthm_s, true_or, or_true, eq_self, ne_eq, not_false_eq_true, not_true_eq_false, and_self, and_true, true_and, false_and, and_false, hz, zt, ht, a1, a2, a3, i10, q2]
      | some x =>
        rw [d1] at a3
        obtain ⟨dx, dx1, rfl, -, -⟩ := zdig_of (Or.inr rfl) d1
        have e0 := nI_n9 dx1
        simp only [mset_mset] at a3
        have h4 := h.set (q := p + 3)
        have a4 := x_takesDigit h4 (sf hS) hin (by omega) (lo := 1)
        dsimp only
        cases d2 : zdig (fun k => f (i + k)) n (p + 3) 1 with
        | none =>
          rw [d2] at a4
          refine ⟨_, ?_, h4, nf hN, zFx.ofT⟩
          simp only [e61_0, e61_0n, e61_1, e61_3, e61_6, e61_9, e61_10, e61_11, e61_11n, e61_12, e61_15, e61_16, e61_17, e61_19, e61_22, e61_23, e61_24, e61_24n, e61_25, e61_26, e61_29, e61_30, e61_31, e61_33, e61_36, e61_37, e61_38, e61_38n, e61_39, e61_40, e61_43, e61_45, e61_47, e61_49, e61_52, e61_53, e61_54, e61_54n, e61_55, e61_56, e61_57, e61_59, e61_62, e61_63, ↓reduceIte, zth_v, zth_n, zthv_s, zthi_s, zthm_s, true_or, or_true, eq_self, ne_eq, not_false_eq_true, not_true_eq_false, and_self, and_true, true_and, false_and, and_false, hz, zt, ht, a1, a2, a3, a4, i10, q2, e0]
        | some y =>
          rw [d2] at a4
          obtain ⟨dy, dy1, rfl, -, -⟩ := zdig_of (Or.inr rfl) d2
          have e1 := nI_n9 dy1
          simp only [mset_mset] at a4
          obtain ⟨M', b1, b2, b3⟩ := n_addRider (nf (q := p + 4) hN) hl (k := zkind (znx (fun k => f (i + k)) n (p + 1))) (l := nI dx) (t := nI dy)
          have hz4 : zoc (mget (mset M t (oText s (nI i) (nI n) (nI (p + 4)))) B) = some 1 := by rw [mget_ne (by omega), hN.2.2.2.1]; exact coNur
          refine ⟨M', ?_, ⟨ht, (b3.2.2 t (by omega)).trans mget_self⟩, b2, zFx.tr zFx.ofT (zFx.ofB b3)⟩
          simp only [e61_0, e61_0n, e61_1, e61_3, e61_6, e61_9, e61_10, e61_11, e61_11n, e61_12, e61_15, e61_16, e61_17, e61_19, e61_22, e61_23, e61_24, e61_24n, e61_25, e61_26, e61_29, e61_30, e61_31, e61_33, e61_36, e61_37, e61_38, e61_38n, e61_39, e61_40, e61_43, e61_45, e61_47, e61_49, e61_52, e61_53, e61_54, e61_54n, e61_55, e61_56, e61_57, e61_59, e61_62, e61_63, ↓reduceIte, zth_v, zth_n, zthv_s, zthi_s, zthm_s, true_or, or_true, eq_self, ne_eq, not_false_eq_true, not_true_eq_false, and_self, and_true, true_and, false_and, and_false, hz, zt, hz4, hN.1, ht, a1, a2, a3, a4, i10, q2, e0, e1, b1]
  · rw [if_neg q1]
    rw [if_neg q1] at a1
    refine ⟨M, ?_, h, hN, zFx.rf⟩
    simp only [e61_0, e61_0n, e61_1, e61_3, e61_6, e61_9, e61_10, e61_11, e61_11n, e61_12, e61_15, e61_16, e61_17, e61_19, e61_22, e61_23, e61_24, e61_24n, e61_25, e61_26, e61_29, e61_30, e61_31, e61_33, e61_36, e61_37, e61_38, e61_38n, e61_39, e61_40, e61_43, e61_45, e61_47, e61_49, e61_52, e61_53, e61_54, e61_54n, e61_55, e61_56, e61_57, e61_59, e61_62, e61_63, ↓reduceIte, zth_v, zth_n, zthv_s, zthi_s, zthm_s, true_or, or_true, eq_self, ne_eq, not_false_eq_true, not_true_eq_false, and_self, and_true, true_and, false_and, and_false, hz, ht, a1]
end TX2
