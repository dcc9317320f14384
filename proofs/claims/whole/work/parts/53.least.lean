/-! The least set, found upwards and downwards -/
def cS (P : Nat → Bool) : Nat → Nat → Nat → Nat
  | 0, _, b => b
  | k + 1, s, b => cS P k (s + 1) (if pcn s < pcn b then (if P s = true then s else b) else b)
def mS (P : Nat → Bool) : Nat → Nat → Nat
  | 0, b => b
  | s + 1, b => mS P s (if P s = true then (if pcn s ≤ pcn b then s else b) else b)
def sLe (b s : Nat) : Prop := pcn b < pcn s ∨ pcn b = pcn s ∧ b ≤ s
theorem cS_ok {P : Nat → Bool} {all : Nat} (hp : ∀ s, s < all → pcn s < pcn all) : ∀ k s b, s + k = all → P b = true → (b = all ∨ b < s) → (∀ t, (t < s ∨ t = all) → P t = true → sLe b t) → P (cS P k s b) = true ∧ cS P k s b ≤ all ∧ ∀ t, t ≤ all → P t = true → sLe (cS P k s b) t := by
  intro k
  induction k with
  | zero =>
    intro s b hs hb hb2 h
    obtain rfl : s = all := by omega
    exact ⟨hb, by show b ≤ s; omega, fun t ht hP => h t (by omega) hP⟩
  | succ k ih =>
    intro s b hs hb hb2 h
    rw [cS]
    apply ih (s + 1) _ (by omega)
    · split
      · split
        · assumption
        · exact hb
      · exact hb
    · split
      · split <;> omega
      · omega
    · intro t ht hP
      unfold sLe at h ⊢
      split
      · rename_i c
        split
        · rename_i c2
          by_cases e : t = s
          · subst e; exact Or.inr ⟨rfl, Nat.le_refl _⟩
          · rcases h t (by omega) hP with w | ⟨w, _⟩ <;> omega
        · rename_i c2
          by_cases e : t = s
          · subst e; exact absurd hP c2
          · exact h t (by omega) hP
      · rename_i c
        by_cases e : t = s
        · subst e
          rcases hb2 with w | w
          · subst w; have := hp t (by omega); omega
          · omega
        · exact h t (by omega) hP
theorem mS_ok {P : Nat → Bool} {all : Nat} : ∀ s b, s ≤ all + 1 → P b = true → b ≤ all → (s ≤ b ∨ s = all + 1 ∧ b = all) → (∀ t, s ≤ t → t ≤ all → P t = true → sLe b t) → P (mS P s b) = true ∧ mS P s b ≤ all ∧ ∀ t, t ≤ all → P t = true → sLe (mS P s b) t := by
  intro s
  induction s with
  | zero =>
    intro b hs hb hb2 hb3 h
    exact ⟨hb, hb2, fun t ht hP => h t (by omega) ht hP⟩
  | succ s ih =>
    intro b hs hb hb2 hb3 h
    rw [mS]
    apply ih _ (by omega)
    · split
      · split
        · assumption
        · exact hb
      · exact hb
    · split
      · split <;> omega
      · omega
    · split
      · split <;> omega
      · omega
    · intro t h1 h2 hP
      unfold sLe at h ⊢
      split
      · split
        · rename_i c c2
          by_cases e : t = s
          · subst e; exact Or.inr ⟨rfl, Nat.le_refl _⟩
          · rcases h t (by omega) h2 hP with w | ⟨w, _⟩ <;> omega
        · rename_i c c2
          by_cases e : t = s
          · subst e; omega
          · exact h t (by omega) h2 hP
      · rename_i c
        by_cases e : t = s
        · subst e; exact absurd hP c
        · exact h t (by omega) h2 hP
theorem sLe_anti {a b : Nat} (h1 : sLe a b) (h2 : sLe b a) : a = b := by
  unfold sLe at h1 h2
  omega
