/-! Guiding: the table is the first best row -/
def eW (w : Nat) : Int32 := if w = 0 then -1 else nI (w - 1)
def eC (v : Nat) : Int32 := if v = 0 then -9 else nI v
theorem eW_toInt {w : Nat} (h : w ≤ 1000) : (eW w).toInt = (w : Int) - 1 := by
  unfold eW
  by_cases e : w = 0
  · rw [if_pos e]; subst e; decide
  · rw [if_neg e, nI_toInt (by omega)]; omega
theorem eW_le {a b : Nat} (ha : a ≤ 1000) (hb : b ≤ 1000) : (eW a ≤ eW b) = (a ≤ b) := by
  apply propext
  rw [Int32.le_iff_toInt_le, eW_toInt ha, eW_toInt hb]
  omega
theorem nbW_le {c : Nat → Nat → Nat} {N : Nat → Nat} {k t l : Nat} : nbW c N k t l ≤ N (t ||| 2 ^ l) + 100 := by
  unfold nbW
  split <;> omega
theorem nb_le {c : Nat → Nat → Nat} : ∀ n k t, nb c n k t ≤ 1 + 100 * n := by
  intro n
  induction n with
  | zero => intro k t; rw [nb]; omega
  | succ n ih =>
    intro k t
    rw [nb]
    split
    · rcases fmx_ok (nbW c (nb c n (k + 1)) k t) 5 with ⟨h1, h2⟩ | ⟨h1, h2, h3, h4, h5⟩
      · omega
      · have := nbW_le (c := c) (N := nb c n (k + 1)) (k := k) (t := t) (l := (fmx (nbW c (nb c n (k + 1)) k t) 5).1)
        have := ih (k + 1) (t ||| 2 ^ (fmx (nbW c (nb c n (k + 1)) k t) 5).1)
        omega
    · have := ih (k + 1) t; omega
section G4
variable {c : Nat → Nat → Nat} {nl nr : Nat} {cm bs : Nat → Int32}
theorem gW_e {n k t l : Nat} (h9 : c k l ≤ 9) (hl : l < 5) (ht : t < 32) (hn : n ≤ 5) (hcm : cm (k * 5 + l) = eC (c k l)) (hbs : ∀ t, t < 32 → bs ((k + 1) * 32 + t) = eW (nb c n (k + 1) t)) : gW cm bs k t l = eW (nbW c (nb c n (k + 1)) k t l) := by
  unfold gW nbW
  rw [hcm]
  unfold eC
  by_cases e : c k l = 0
  · rw [if_pos e, if_pos rfl, if_pos (Or.inl e)]; rfl
  · rw [if_neg e, if_neg (nI_n9 h9)]
    by_cases e2 : t.testBit l = true
    · rw [if_pos e2, if_pos (Or.inr e2)]; rfl
    · rw [if_neg e2, if_neg (by rintro (z | z); exact e z; exact e2 z), hbs _ (bt_lt t ht l hl)]
      have hp := nb_pos (c := c) n (k + 1) (t ||| 2 ^ l)
      unfold eW
      rw [if_neg (by omega), if_neg (by omega), show (100 : Int32) = nI 100 from rfl, pk_sub (by omega), nI_add]
      congr 1
      omega
theorem gM_e {n k t : Nat} (hk : k < 5) (h9 : ∀ k l, c k l ≤ 9) (ht : t < 32) (hn : n ≤ 5) (hcm : ∀ l, l < 5 → cm (k * 5 + l) = eC (c k l)) (hbs : ∀ t, t < 32 → bs ((k + 1) * 32 + t) = eW (nb c n (k + 1) t)) : ∀ j, j ≤ 5 → gM cm bs k t j = (if (fmx (nbW c (nb c n (k + 1)) k t) j).2 = 0 then 9 else nI (fmx (nbW c (nb c n (k + 1)) k t) j).1, eW (fmx (nbW c (nb c n (k + 1)) k t) j).2) := by
  have bd : ∀ l, nbW c (nb c n (k + 1)) k t l ≤ 1000 := fun l => by
    have := nbW_le (c := c) (N := nb c n (k + 1)) (k := k) (t := t) (l := l)
    have := nb_le (c := c) n (k + 1) (t ||| 2 ^ l)
    omega
  intro j
  induction j with
  | zero => intro _; rfl
  | succ j ih =>
    intro hj
    have ih := ih (by omega)
    have w := gW_e (h9 k j) (show j < 5 by omega) ht hn (hcm j (by omega)) hbs
    have fb : (fmx (nbW c (nb c n (k + 1)) k t) j).2 ≤ 1000 := by
      rcases fmx_ok (nbW c (nb c n (k + 1)) k t) j with ⟨h1, h2⟩ | ⟨h1, h2, h3, h4, h5⟩
      · omega
      · have := bd (fmx (nbW c (nb c n (k + 1)) k t) j).1; omega
    rw [gM, ih, w, fmx]
    simp only [eW_le (bd j) fb]
    by_cases q : nbW c (nb c n (k + 1)) k t j ≤ (fmx (nbW c (nb c n (k + 1)) k t) j).2
    · rw [if_pos q, if_pos q]
    · rw [if_neg q, if_neg q]
      dsimp only
      rw [if_neg (by omega)]
theorem gCh_e {n k t : Nat} (hk : k < 5) (h9 : ∀ k l, c k l ≤ 9) (hc : ∀ k l, nl ≤ l → c k l = 0) (hl : nl ≤ 5) (ht : t < 32) (hn : n ≤ 5) (hcm : ∀ l, l < 5 → cm (k * 5 + l) = eC (c k l)) (hbs : ∀ t, t < 32 → bs ((k + 1) * 32 + t) = eW (nb c n (k + 1) t)) : gCh cm bs k t = if dch c nl n k t = nl then 9 else nI (dch c nl n k t) := by
  have hm := gM_e hk h9 ht hn hcm hbs 5 (Nat.le_refl _)
  have hp := nb_pos (c := c) n (k + 1) t
  have hb := nb_le (c := c) n (k + 1) t
  have fb : (fmx (nbW c (nb c n (k + 1)) k t) 5).2 ≤ 1000 := by
    rcases fmx_ok (nbW c (nb c n (k + 1)) k t) 5 with ⟨h1, h2⟩ | ⟨h1, h2, h3, h4, h5⟩
    · omega
    · have := nbW_le (c := c) (N := nb c n (k + 1)) (k := k) (t := t) (l := (fmx (nbW c (nb c n (k + 1)) k t) 5).1)
      have := nb_le (c := c) n (k + 1) (t ||| 2 ^ (fmx (nbW c (nb c n (k + 1)) k t) 5).1)
      omega
  have ok := dch_ok (c := c) hc hl n k t
  have ed : dch c nl n k t = if nb c n (k + 1) t ≤ (fmx (nbW c (nb c n (k + 1)) k t) 5).2 then (fmx (nbW c (nb c n (k + 1)) k t) 5).1 else nl := rfl
  have en : nb c (n + 1) k t = if nb c n (k + 1) t ≤ (fmx (nbW c (nb c n (k + 1)) k t) 5).2 then (fmx (nbW c (nb c n (k + 1)) k t) 5).2 else nb c n (k + 1) t := rfl
  unfold gCh gN
  rw [hbs t ht, hm]
  simp only [eW_le (show nb c n (k + 1) t ≤ 1000 by omega) fb]
  by_cases q : nb c n (k + 1) t ≤ (fmx (nbW c (nb c n (k + 1)) k t) 5).2
  · rw [if_pos q, if_neg (by omega)]
    rw [if_pos q] at ed en
    have hne : ¬ dch c nl n k t = nl := fun z => by
      rcases ok with ⟨h1, h2, h3⟩ | ⟨h1, -⟩
      · rcases fmx_ok (nbW c (nb c n (k + 1)) k t) 5 with ⟨f1, f2⟩ | ⟨f1, f2, f3, f4, f5⟩
        · omega
        · rw [← ed, z, nbW_0 hc (Nat.le_refl nl)] at f3
          omega
      · omega
    rw [if_neg hne, ed]
  · rw [if_neg q]
    rw [if_neg q] at ed
    rw [if_pos ed]
theorem gV_e {n k t : Nat} (hk : k < 5) (h9 : ∀ k l, c k l ≤ 9) (hc : ∀ k l, nl ≤ l → c k l = 0) (hl : nl ≤ 5) (ht : t < 32) (hn : n ≤ 5) (hcm : ∀ l, l < 5 → cm (k * 5 + l) = eC (c k l)) (hbs : ∀ t, t < 32 → bs ((k + 1) * 32 + t) = eW (nb c n (k + 1) t)) : gV cm bs k t = eW (nb c (n + 1) k t) := by
  have h := gCh_e hk h9 hc hl ht hn hcm hbs
  unfold gV
  rw [h]
  rcases dch_ok (c := c) hc hl n k t with ⟨h1, h2, h3⟩ | ⟨h1, h2, h3⟩
  · rw [if_pos h1, if_pos rfl, h2]
    exact hbs t ht
  · have hne : ¬ dch c nl n k t = nl := by omega
    rw [if_neg hne, if_neg (n9l (by omega)), nI_clamp (by omega), h2]
    exact gW_e (h9 _ _) (by omega) ht hn (hcm _ (by omega)) hbs
theorem nb_dead (hc : ∀ k l, nl ≤ l → c k l = 0) (hl : nl ≤ 5) {n k t : Nat} (hd : ∀ l, c k l = 0) : nb c (n + 1) k t = nb c n (k + 1) t ∧ dch c nl n k t = nl := by
  rcases dch_ok (c := c) hc hl n k t with ⟨h1, h2, h3⟩ | ⟨h1, h2, h3⟩
  · exact ⟨h2, h1⟩
  · have hp := nb_pos (c := c) (n + 1) k t
    unfold nbW at h2
    rw [if_pos (Or.inl (hd _))] at h2
    omega
theorem bs_e (h9 : ∀ k l, c k l ≤ 9) (hc : ∀ k l, nl ≤ l → c k l = 0) (hcr : ∀ k l, nr ≤ k → c k l = 0) (hl : nl ≤ 5) (hr : nr ≤ 5) (hcm : ∀ k l, k < 5 → l < 5 → cm (k * 5 + l) = eC (c k l)) (h0 : ∀ i, i < 32 → bs (160 + i) = 0) (hv : ∀ k t, k < 5 → t < 32 → bs (k * 32 + t) = gV cm bs k t) : ∀ n k, k + n = 5 → ∀ t, t < 32 → bs (k * 32 + t) = eW (nb c (nr - k) k t) := by
  intro n
  induction n with
  | zero =>
    intro k hk t ht
    obtain rfl : k = 5 := by omega
    rw [show nr - 5 = 0 from by omega]
    exact h0 t ht
  | succ n ih =>
    intro k hk t ht
    have i1 := ih (k + 1) (by omega)
    have g := gV_e (t := t) (by omega) h9 hc hl ht (by omega) (fun l hl => hcm k l (by omega) hl) i1
    rw [hv k t (by omega) ht, g]
    by_cases q : k < nr
    · rw [show nr - (k + 1) + 1 = nr - k from by omega]
    · rw [(nb_dead hc hl (hcr k · (by omega))).1, show nr - (k + 1) = 0 from by omega, show nr - k = 0 from by omega]
      rfl
theorem gPath (h9 : ∀ k l, c k l ≤ 9) (hc : ∀ k l, nl ≤ l → c k l = 0) (hl : nl ≤ 5) (hr : nr ≤ 5) (hcm : ∀ k l, k < 5 → l < 5 → cm (k * 5 + l) = eC (c k l)) (hbs : ∀ k t, k ≤ 5 → t < 32 → bs (k * 32 + t) = eW (nb c (nr - k) k t)) : ∀ k, k ≤ nr → (∃ a, sIx c nl nr 0 0 = a * (nl + 1) ^ (nr - k) + sIx c nl (nr - k) k (gSt cm bs k).1) ∧ (gSt cm bs k).2.1 + nI (rgm c nl (nr - k) k (sIx c nl nr 0 0)).1 = nI (rgm c nl nr 0 (sIx c nl nr 0 0)).1 ∧ (gSt cm bs k).2.2 + nI (rgm c nl (nr - k) k (sIx c nl nr 0 0)).2 = nI (rgm c nl nr 0 (sIx c nl nr 0 0)).2 ∧ ∀ i, i < k → gGv cm bs i = if dg (nl + 1) (nr - 1 - i) (sIx c nl nr 0 0) = nl then -9 else nI (dg (nl + 1) (nr - 1 - i) (sIx c nl nr 0 0)) := by
  intro k
  induction k with
  | zero =>
    intro _
    refine ⟨⟨0, by rw [Nat.zero_mul, Nat.zero_add]; rfl⟩, ?_, ?_, fun i hi => by omega⟩
    · show 0 + _ = _
      rw [Int32.zero_add]; rfl
    · show 0 + _ = _
      rw [Int32.zero_add]; rfl
  | succ k ih =>
    intro hk
    obtain ⟨⟨a, h1⟩, h2, h3, h4⟩ := ih (by omega)
    have ht := gSt_lt cm bs k
    generalize hS : sIx c nl nr 0 0 = S at *
    have en : nr - k = (nr - (k + 1)) + 1 := by omega
    rw [en] at h1 h2 h3
    have ch := gCh_e (t := (gSt cm bs k).1) (by omega) h9 hc hl ht (by omega) (fun l hl => hcm k l (by omega) hl) (fun t ht => hbs (k + 1) t (by omega) ht)
    generalize hn : nr - (k + 1) = n at *
    have hd := dch_le (c := c) hc hl n k (gSt cm bs k).1
    have hs2 := (dp_PBs (c := c) hc hl n (k + 1) (if dch c nl n k (gSt cm bs k).1 = nl then (gSt cm bs k).1 else (gSt cm bs k).1 ||| 2 ^ dch c nl n k (gSt cm bs k).1)).1
    rw [sIx] at h1
    have hdg : dg (nl + 1) n S = dch c nl n k (gSt cm bs k).1 := by
      rw [h1, dg_low _ _ _ _ (by omega), dg_top _ _ _ _ (by omega) hs2]
    rw [rgm, hdg] at h2 h3
    have eg : gGv cm bs k = if dch c nl n k (gSt cm bs k).1 = nl then -9 else nI (dch c nl n k (gSt cm bs k).1) := by
      unfold gGv
      rw [ch]
      by_cases e : dch c nl n k (gSt cm bs k).1 = nl
      · rw [if_pos e, if_pos e, if_pos rfl]
      · rw [if_neg e, if_neg e, if_neg (n9l (by omega))]
    have eS : a * (nl + 1) ^ (n + 1) + (dch c nl n k (gSt cm bs k).1 * (nl + 1) ^ n + sIx c nl n (k + 1) (if dch c nl n k (gSt cm bs k).1 = nl then (gSt cm bs k).1 else (gSt cm bs k).1 ||| 2 ^ dch c nl n k (gSt cm bs k).1)) = (a * (nl + 1) + dch c nl n k (gSt cm bs k).1) * (nl + 1) ^ n + sIx c nl n (k + 1) (if dch c nl n k (gSt cm bs k).1 = nl then (gSt cm bs k).1 else (gSt cm bs k).1 ||| 2 ^ dch c nl n k (gSt cm bs k).1) := by
      rw [Nat.pow_succ, Nat.mul_comm ((nl + 1) ^ n) (nl + 1), ← Nat.mul_assoc, ← Nat.add_assoc, ← Nat.add_mul]
    rw [eS] at h1
    have hi : ∀ i, i < k + 1 → gGv cm bs i = if dg (nl + 1) (nr - 1 - i) S = nl then -9 else nI (dg (nl + 1) (nr - 1 - i) S) := fun i hi => by
      by_cases e : i = k
      · subst e
        rw [show nr - 1 - i = n from by omega, hdg]
        exact eg
      · exact h4 i (by omega)
    rw [gSt, ch]
    by_cases e : dch c nl n k (gSt cm bs k).1 = nl
    · rw [if_pos e] at h1 h2 h3
      rw [if_pos e, if_pos rfl]
      exact ⟨⟨_, h1⟩, h2, h3, hi⟩
    · rw [if_neg e] at h1 h2 h3
      rw [if_neg e, if_neg (n9l (by omega)), nI_clamp (by omega)]
      have hcz : ¬ c k (dch c nl n k (gSt cm bs k).1) = 0 := fun z => by
        rcases dch_ok (c := c) hc hl n k (gSt cm bs k).1 with ⟨d1, -⟩ | ⟨d1, d2, -⟩
        · exact e d1
        · have hp := nb_pos (c := c) (n + 1) k (gSt cm bs k).1
          unfold nbW at d2
          rw [if_pos (Or.inl z)] at d2
          omega
      refine ⟨⟨_, h1⟩, ?_, ?_, hi⟩
      · dsimp only at h2 ⊢
        rw [← h2, ← nI_1, Int32.add_assoc, Int32.add_comm 1]
      · dsimp only at h3 ⊢
        rw [hcm k _ (by omega) (by omega)]
        unfold eC
        rw [if_neg hcz, ← h3, ← nI_add, Int32.add_assoc, Int32.add_comm (nI (c k _))]
theorem gTail (h9 : ∀ k l, c k l ≤ 9) (hc : ∀ k l, nl ≤ l → c k l = 0) (hcr : ∀ k l, nr ≤ k → c k l = 0) (hl : nl ≤ 5) (hr : nr ≤ 5) (hcm : ∀ k l, k < 5 → l < 5 → cm (k * 5 + l) = eC (c k l)) (hbs : ∀ k t, k ≤ 5 → t < 32 → bs (k * 32 + t) = eW (nb c (nr - k) k t)) : ∀ e, nr + e ≤ 5 → gSt cm bs (nr + e) = gSt cm bs nr ∧ ∀ i, nr ≤ i → i < nr + e → gGv cm bs i = -9 := by
  intro e
  induction e with
  | zero => intro _; exact ⟨rfl, fun i h1 h2 => by omega⟩
  | succ e ih =>
    intro he
    obtain ⟨h1, h2⟩ := ih (by omega)
    have ht := gSt_lt cm bs (nr + e)
    have ch := gCh_e (nl := nl) (t := (gSt cm bs (nr + e)).1) (k := nr + e) (by omega) h9 hc hl ht (n := nr - (nr + e + 1)) (by omega) (fun l hl => hcm _ l (by omega) hl) (fun t ht => hbs (nr + e + 1) t (by omega) ht)
    rw [(nb_dead hc hl (hcr (nr + e) · (by omega))).2, if_pos rfl] at ch
    refine ⟨?_, fun i i1 i2 => ?_⟩
    · show gSt cm bs (nr + e + 1) = _
      rw [gSt, ch, if_pos rfl]; exact h1
    · by_cases z : i = nr + e
      · subst z
        unfold gGv
        rw [ch, if_pos rfl]
      · exact h2 i i1 (by omega)
theorem guides_e (h9 : ∀ k l, c k l ≤ 9) (hc : ∀ k l, nl ≤ l → c k l = 0) (hcr : ∀ k l, nr ≤ k → c k l = 0) (hl : nl ≤ 5) (hr : nr ≤ 5) (hcm : ∀ k l, k < 5 → l < 5 → cm (k * 5 + l) = eC (c k l)) (h0 : ∀ i, i < 32 → bs (160 + i) = 0) (hv : ∀ k t, k < 5 → t < 32 → bs (k * 32 + t) = gV cm bs k t) : (gSt cm bs 5).2.1 = nI (rgm c nl nr 0 (sIx c nl nr 0 0)).1 ∧ (gSt cm bs 5).2.2 = nI (rgm c nl nr 0 (sIx c nl nr 0 0)).2 ∧ ∀ i, i < 5 → gGv cm bs i = if i < nr then (if dg (nl + 1) (nr - 1 - i) (sIx c nl nr 0 0) = nl then -9 else nI (dg (nl + 1) (nr - 1 - i) (sIx c nl nr 0 0))) else -9 := by
  have hbs : ∀ k t, k ≤ 5 → t < 32 → bs (k * 32 + t) = eW (nb c (nr - k) k t) := fun k t hk ht => bs_e h9 hc hcr hl hr hcm h0 hv (5 - k) k (by omega) t ht
  obtain ⟨-, h2, h3, h4⟩ := gPath h9 hc hl hr hcm hbs nr (Nat.le_refl _)
  obtain ⟨t1, t2⟩ := gTail h9 hc hcr hl hr hcm hbs (5 - nr) (by omega)
  rw [show nr + (5 - nr) = 5 from by omega] at t1 t2
  rw [Nat.sub_self] at h2 h3
  have z1 : (rgm c nl 0 nr (sIx c nl nr 0 0)) = (0, 0) := rfl
  rw [z1] at h2 h3
  dsimp only at h2 h3
  rw [nI_0, Int32.add_zero] at h2 h3
  refine ⟨by rw [t1]; exact h2, by rw [t1]; exact h3, fun i hi => ?_⟩
  by_cases q : i < nr
  · rw [if_pos q]; exact h4 i q
  · rw [if_neg q]; exact t2 i (by omega) hi
end G4
