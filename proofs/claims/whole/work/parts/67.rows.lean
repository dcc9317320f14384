/-! Rows of lands: which is the first best -/
def dg (B n S : Nat) : Nat := S / B ^ n % B
def rwv (c : Nat → Nat → Nat) (nl : Nat) : Nat → Nat → Nat → Nat → Nat
  | 0, _, _, _ => 1
  | n + 1, k, t, S => if dg (nl + 1) n S = nl then rwv c nl n (k + 1) t S else if c k (dg (nl + 1) n S) = 0 ∨ t.testBit (dg (nl + 1) n S) = true then 0 else if rwv c nl n (k + 1) (t ||| 2 ^ dg (nl + 1) n S) S = 0 then 0 else rwv c nl n (k + 1) (t ||| 2 ^ dg (nl + 1) n S) S + (100 - c k (dg (nl + 1) n S))
def rgm (c : Nat → Nat → Nat) (nl : Nat) : Nat → Nat → Nat → Nat × Nat
  | 0, _, _ => (0, 0)
  | n + 1, k, S => if dg (nl + 1) n S = nl then rgm c nl n (k + 1) S else ((rgm c nl n (k + 1) S).1 + 1, (rgm c nl n (k + 1) S).2 + c k (dg (nl + 1) n S))
def fmx (W : Nat → Nat) : Nat → Nat × Nat
  | 0 => (9, 0)
  | l + 1 => if W l ≤ (fmx W l).2 then fmx W l else (l, W l)
def nbW (c : Nat → Nat → Nat) (N : Nat → Nat) (k t l : Nat) : Nat := if c k l = 0 ∨ t.testBit l = true then 0 else N (t ||| 2 ^ l) + (100 - c k l)
def nb (c : Nat → Nat → Nat) : Nat → Nat → Nat → Nat
  | 0, _, _ => 1
  | n + 1, k, t => if nb c n (k + 1) t ≤ (fmx (nbW c (nb c n (k + 1)) k t) 5).2 then (fmx (nbW c (nb c n (k + 1)) k t) 5).2 else nb c n (k + 1) t
def dch (c : Nat → Nat → Nat) (nl n k t : Nat) : Nat := if nb c n (k + 1) t ≤ (fmx (nbW c (nb c n (k + 1)) k t) 5).2 then (fmx (nbW c (nb c n (k + 1)) k t) 5).1 else nl
def sIx (c : Nat → Nat → Nat) (nl : Nat) : Nat → Nat → Nat → Nat
  | 0, _, _ => 0
  | n + 1, k, t => dch c nl n k t * (nl + 1) ^ n + sIx c nl n (k + 1) (if dch c nl n k t = nl then t else t ||| 2 ^ dch c nl n k t)
def PBs (f : Nat → Nat) (m v i : Nat) : Prop := i < m ∧ f i = v ∧ (∀ j, j < m → f j ≤ v) ∧ ∀ j, j < i → f j < v
theorem PBs_uniq {f : Nat → Nat} {m v i v' i' : Nat} (h : PBs f m v i) (h' : PBs f m v' i') : i = i' := by
  obtain ⟨a1, a2, a3, a4⟩ := h
  obtain ⟨b1, b2, b3, b4⟩ := h'
  have e1 := a3 i' b1
  have e2 := b3 i a1
  rcases Nat.lt_trichotomy i i' with z | z | z
  · have := b4 i z; omega
  · exact z
  · have := a4 i' z; omega
theorem dg_low (B n a s : Nat) (hB : 0 < B) : dg B n (a * B ^ (n + 1) + s) = dg B n s := by
  unfold dg
  have hp : 0 < B ^ n := Nat.pow_pos hB
  have e : a * B ^ (n + 1) + s = s + (a * B) * B ^ n := by
    rw [Nat.pow_succ, Nat.add_comm, Nat.mul_comm (B ^ n) B, Nat.mul_assoc]
  rw [e, Nat.add_mul_div_right _ _ hp, Nat.add_mul_mod_self_right]
theorem dg_top (B n d s : Nat) (hd : d < B) (hs : s < B ^ n) : dg B n (d * B ^ n + s) = d := by
  unfold dg
  have hp : 0 < B ^ n := by omega
  rw [Nat.add_comm, Nat.add_mul_div_right _ _ hp, Nat.div_eq_of_lt hs, Nat.zero_add, Nat.mod_eq_of_lt hd]
section RW
variable {c : Nat → Nat → Nat} {nl : Nat}
theorem rwv_low : ∀ n k t a s, rwv c nl n k t (a * (nl + 1) ^ n + s) = rwv c nl n k t s := by
  intro n
  induction n with
  | zero => intro k t a s; rfl
  | succ n ih =>
    intro k t a s
    have e : a * (nl + 1) ^ (n + 1) + s = (a * (nl + 1)) * (nl + 1) ^ n + s := by
      rw [Nat.pow_succ, Nat.mul_comm ((nl + 1) ^ n) (nl + 1), Nat.mul_assoc]
    have e1 := fun k t => ih k t (a * (nl + 1)) s
    rw [← e] at e1
    rw [rwv, rwv, dg_low _ _ _ _ (by omega), e1, e1]
theorem rgm_low : ∀ n k a s, rgm c nl n k (a * (nl + 1) ^ n + s) = rgm c nl n k s := by
  intro n
  induction n with
  | zero => intro k a s; rfl
  | succ n ih =>
    intro k a s
    have e : a * (nl + 1) ^ (n + 1) + s = (a * (nl + 1)) * (nl + 1) ^ n + s := by
      rw [Nat.pow_succ, Nat.mul_comm ((nl + 1) ^ n) (nl + 1), Nat.mul_assoc]
    have e1 := fun k => ih k (a * (nl + 1)) s
    rw [← e] at e1
    rw [rgm, rgm, dg_low _ _ _ _ (by omega), e1]
theorem rwv_top {n k t d s : Nat} (hd : d ≤ nl) (hs : s < (nl + 1) ^ n) : rwv c nl (n + 1) k t (d * (nl + 1) ^ n + s) = if d = nl then rwv c nl n (k + 1) t s else if c k d = 0 ∨ t.testBit d = true then 0 else if rwv c nl n (k + 1) (t ||| 2 ^ d) s = 0 then 0 else rwv c nl n (k + 1) (t ||| 2 ^ d) s + (100 - c k d) := by
  rw [rwv, dg_top _ _ _ _ (by omega) hs, rwv_low, rwv_low]
theorem fmx_ok (W : Nat → Nat) : ∀ m, (fmx W m).2 = 0 ∧ (∀ l, l < m → W l = 0) ∨ 1 ≤ (fmx W m).2 ∧ (fmx W m).1 < m ∧ W (fmx W m).1 = (fmx W m).2 ∧ (∀ l, l < m → W l ≤ (fmx W m).2) ∧ ∀ l, l < (fmx W m).1 → W l < (fmx W m).2 := by
  intro m
  induction m with
  | zero => left; exact ⟨rfl, fun l hl => by omega⟩
  | succ m ih =>
    rw [fmx]
    by_cases q : W m ≤ (fmx W m).2
    · rw [if_pos q]
      rcases ih with ⟨h1, h2⟩ | ⟨h1, h2, h3, h4, h5⟩
      · left
        refine ⟨h1, fun l hl => ?_⟩
        by_cases e : l = m
        · subst e; omega
        · exact h2 l (by omega)
      · right
        refine ⟨h1, by omega, h3, fun l hl => ?_, h5⟩
        by_cases e : l = m
        · subst e; exact q
        · exact h4 l (by omega)
    · rw [if_neg q]
      right
      refine ⟨by show 1 ≤ W m; omega, by show m < m + 1; omega, rfl, fun l hl => ?_, fun l hl => ?_⟩
      · show W l ≤ W m
        by_cases e : l = m
        · subst e; omega
        · rcases ih with ⟨h1, h2⟩ | ⟨h1, h2, h3, h4, h5⟩
          · have := h2 l (by omega); omega
          · have := h4 l (by omega); omega
      · show W l < W m
        have hl : l < m := hl
        rcases ih with ⟨h1, h2⟩ | ⟨h1, h2, h3, h4, h5⟩
        · have := h2 l hl; omega
        · have := h4 l hl; omega
theorem nb_pos : ∀ n k t, 1 ≤ nb c n k t := by
  intro n
  induction n with
  | zero => intro k t; exact Nat.le_refl 1
  | succ n ih =>
    intro k t
    rw [nb]
    have := ih (k + 1) t
    split <;> omega
theorem nbW_0 {N : Nat → Nat} {k t l : Nat} (hc : ∀ k l, nl ≤ l → c k l = 0) (h : nl ≤ l) : nbW c N k t l = 0 := by
  unfold nbW
  rw [if_pos (Or.inl (hc k l h))]
/-- the choice: a land, or none -/
theorem dch_ok (hc : ∀ k l, nl ≤ l → c k l = 0) (hl : nl ≤ 5) (n k t : Nat) : dch c nl n k t = nl ∧ nb c (n + 1) k t = nb c n (k + 1) t ∧ (∀ l, l < nl → nbW c (nb c n (k + 1)) k t l < nb c n (k + 1) t) ∨ dch c nl n k t < nl ∧ nb c (n + 1) k t = nbW c (nb c n (k + 1)) k t (dch c nl n k t) ∧ nb c n (k + 1) t ≤ nb c (n + 1) k t ∧ (∀ l, l < nl → nbW c (nb c n (k + 1)) k t l ≤ nb c (n + 1) k t) ∧ ∀ l, l < dch c nl n k t → nbW c (nb c n (k + 1)) k t l < nb c (n + 1) k t := by
  have hp := nb_pos (c := c) n (k + 1) t
  unfold dch
  rw [nb]
  by_cases q : nb c n (k + 1) t ≤ (fmx (nbW c (nb c n (k + 1)) k t) 5).2
  · rw [if_pos q, if_pos q]
    rcases fmx_ok (nbW c (nb c n (k + 1)) k t) 5 with ⟨h1, h2⟩ | ⟨h1, h2, h3, h4, h5⟩
    · omega
    · right
      refine ⟨?_, h3.symm, q, fun l hl => h4 l (by omega), h5⟩
      by_cases z : (fmx (nbW c (nb c n (k + 1)) k t) 5).1 < nl
      · exact z
      · exfalso
        have := nbW_0 (t := t) (k := k) (N := nb c n (k + 1)) hc (Nat.le_of_not_lt z)
        omega
  · rw [if_neg q, if_neg q]
    left
    refine ⟨rfl, rfl, fun l hl => ?_⟩
    rcases fmx_ok (nbW c (nb c n (k + 1)) k t) 5 with ⟨h1, h2⟩ | ⟨h1, h2, h3, h4, h5⟩
    · have := h2 l (by omega); omega
    · have := h4 l (by omega); omega
theorem dch_le (hc : ∀ k l, nl ≤ l → c k l = 0) (hl : nl ≤ 5) (n k t : Nat) : dch c nl n k t ≤ nl := by
  rcases dch_ok hc hl n k t with ⟨h1, -⟩ | ⟨h1, -⟩ <;> omega
theorem dp_PBs (hc : ∀ k l, nl ≤ l → c k l = 0) (hl : nl ≤ 5) : ∀ n k t, PBs (rwv c nl n k t) ((nl + 1) ^ n) (nb c n k t) (sIx c nl n k t) := by
  intro n
  induction n with
  | zero =>
    intro k t
    refine ⟨by rw [Nat.pow_zero]; exact Nat.one_pos, rfl, fun j _ => Nat.le_refl _, fun j hj => by rw [sIx] at hj; omega⟩
  | succ n ih =>
    intro k t
    have hp : 0 < (nl + 1) ^ n := Nat.pow_pos (by omega)
    have split : ∀ s, s < (nl + 1) ^ (n + 1) → ∃ d s', d ≤ nl ∧ s' < (nl + 1) ^ n ∧ s = d * (nl + 1) ^ n + s' := fun s hs => by
      refine ⟨s / (nl + 1) ^ n, s % (nl + 1) ^ n, ?_, Nat.mod_lt _ hp, ?_⟩
      · have : s / (nl + 1) ^ n < nl + 1 := by
          rw [Nat.div_lt_iff_lt_mul hp, Nat.mul_comm, ← Nat.pow_succ]; exact hs
        omega
      · rw [Nat.mul_comm]; exact (Nat.div_add_mod s _).symm
    -- the best of a block
    have bm : ∀ d s', d ≤ nl → s' < (nl + 1) ^ n → rwv c nl (n + 1) k t (d * (nl + 1) ^ n + s') ≤ if d = nl then nb c n (k + 1) t else nbW c (nb c n (k + 1)) k t d := fun d s' hd hs => by
      rw [rwv_top hd hs]
      by_cases e : d = nl
      · rw [if_pos e, if_pos e]; exact (ih (k + 1) t).2.2.1 s' hs
      · rw [if_neg e, if_neg e]
        unfold nbW
        by_cases e2 : c k d = 0 ∨ t.testBit d = true
        · rw [if_pos e2, if_pos e2]; exact Nat.le_refl 0
        · rw [if_neg e2, if_neg e2]
          have := (ih (k + 1) (t ||| 2 ^ d)).2.2.1 s' hs
          split <;> omega
    have lt_of : ∀ d s' d2 s2, s' < (nl + 1) ^ n → s2 < (nl + 1) ^ n → d * (nl + 1) ^ n + s' < d2 * (nl + 1) ^ n + s2 → d < d2 ∨ d = d2 ∧ s' < s2 := fun d s' d2 s2 h1 h2 h => by
      rcases Nat.lt_trichotomy d d2 with z | z | z
      · exact Or.inl z
      · subst z; right; exact ⟨rfl, by omega⟩
      · exfalso
        have : (d2 + 1) * (nl + 1) ^ n ≤ d * (nl + 1) ^ n := Nat.mul_le_mul_right _ z
        rw [Nat.add_mul] at this
        omega
    have size : ∀ d s', d ≤ nl → s' < (nl + 1) ^ n → d * (nl + 1) ^ n + s' < (nl + 1) ^ (n + 1) := fun d s' hd hs => by
      have : (d + 1) * (nl + 1) ^ n ≤ (nl + 1) * (nl + 1) ^ n := Nat.mul_le_mul_right _ (by omega)
      rw [Nat.pow_succ, Nat.mul_comm ((nl + 1) ^ n)]
      rw [Nat.add_mul] at this
      omega
    rw [sIx]
    rcases dch_ok hc hl n k t with ⟨h1, h2, h3⟩ | ⟨h1, h2, h3, h4, h5⟩
    · rw [h1, if_pos rfl, h2]
      obtain ⟨i1, i2, i3, i4⟩ := ih (k + 1) t
      refine ⟨size _ _ (Nat.le_refl _) i1, ?_, fun s hs => ?_, fun s hs => ?_⟩
      · rw [rwv_top (Nat.le_refl _) i1, if_pos rfl]; exact i2
      · obtain ⟨d, s', d1, d2, rfl⟩ := split s hs
        have := bm d s' d1 d2
        by_cases e : d = nl
        · rw [if_pos e] at this; exact this
        · rw [if_neg e] at this; have := h3 d (by omega); omega
      · obtain ⟨d, s', d1, d2, rfl⟩ := split s (Nat.lt_trans hs (size _ _ (Nat.le_refl _) i1))
        rcases lt_of _ _ _ _ d2 i1 hs with z | ⟨z, z2⟩
        · have := bm d s' d1 d2
          rw [if_neg (by omega)] at this
          have := h3 d (by omega)
          omega
        · subst z
          rw [rwv_top (Nat.le_refl _) d2, if_pos rfl]
          exact i4 s' z2
    · have hne : ¬ dch c nl n k t = nl := by omega
      rw [if_neg hne]
      obtain ⟨i1, i2, i3, i4⟩ := ih (k + 1) (t ||| 2 ^ dch c nl n k t)
      have hp2 := nb_pos (c := c) n (k + 1) t
      have hq : ¬ (c k (dch c nl n k t) = 0 ∨ t.testBit (dch c nl n k t) = true) := fun z => by
        unfold nbW at h2
        rw [if_pos z] at h2
        omega
      have hv : nb c (n + 1) k t = nb c n (k + 1) (t ||| 2 ^ dch c nl n k t) + (100 - c k (dch c nl n k t)) := by
        rw [h2]; unfold nbW; rw [if_neg hq]
      have hp3 := nb_pos (c := c) n (k + 1) (t ||| 2 ^ dch c nl n k t)
      refine ⟨size _ _ (by omega) i1, ?_, fun s hs => ?_, fun s hs => ?_⟩
      · rw [rwv_top (by omega) i1, if_neg hne, if_neg hq, i2, if_neg (by omega), hv]
      · obtain ⟨d, s', d1, d2, rfl⟩ := split s hs
        have := bm d s' d1 d2
        by_cases e : d = nl
        · rw [if_pos e] at this; omega
        · rw [if_neg e] at this; have := h4 d (by omega); omega
      · obtain ⟨d, s', d1, d2, rfl⟩ := split s (Nat.lt_trans hs (size _ _ (by omega) i1))
        rcases lt_of _ _ _ _ d2 i1 hs with z | ⟨z, z2⟩
        · have := bm d s' d1 d2
          rw [if_neg (by omega)] at this
          have := h5 d z
          omega
        · subst z
          rw [rwv_top d1 d2, if_neg hne, if_neg hq, hv]
          have := i4 s' z2
          split <;> omega
theorem rgm_ok (h9 : ∀ k l, c k l ≤ 9) : ∀ n k S, (rgm c nl n k S).2 ≤ 9 * (rgm c nl n k S).1 ∧ (rgm c nl n k S).1 ≤ n := by
  intro n
  induction n with
  | zero => intro k S; exact ⟨Nat.le_refl _, Nat.le_refl _⟩
  | succ n ih =>
    intro k S
    have := ih (k + 1) S
    rw [rgm]
    split
    · omega
    · have := h9 k (dg (nl + 1) n S)
      dsimp only
      omega
theorem rwv_val (h9 : ∀ k l, c k l ≤ 9) : ∀ n k t S, rwv c nl n k t S = 0 ∨ rwv c nl n k t S + (rgm c nl n k S).2 = 1 + 100 * (rgm c nl n k S).1 := by
  intro n
  induction n with
  | zero => intro k t S; right; rfl
  | succ n ih =>
    intro k t S
    rw [rwv, rgm]
    by_cases e : dg (nl + 1) n S = nl
    · rw [if_pos e, if_pos e]; exact ih (k + 1) t S
    · rw [if_neg e, if_neg e]
      by_cases e2 : c k (dg (nl + 1) n S) = 0 ∨ t.testBit (dg (nl + 1) n S) = true
      · rw [if_pos e2]; exact Or.inl rfl
      · rw [if_neg e2]
        by_cases e3 : rwv c nl n (k + 1) (t ||| 2 ^ dg (nl + 1) n S) S = 0
        · rw [if_pos e3]; exact Or.inl rfl
        · rw [if_neg e3]
          have := (ih (k + 1) (t ||| 2 ^ dg (nl + 1) n S) S).resolve_left e3
          have := h9 k (dg (nl + 1) n S)
          right
          dsimp only
          omega
end RW
