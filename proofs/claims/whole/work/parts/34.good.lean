/-! What stands between two calls -/
def zRid (q : zRD) : Prop := (q.1 = 0 ∨ q.1 = 1 ∨ q.1 = 2) ∧ (∃ l, 1 ≤ l ∧ l ≤ 9 ∧ q.2.1 = nI l) ∧ (∃ t u, 1 ≤ t ∧ t ≤ 9 ∧ u ≤ t ∧ q.2.2.1 = nI t ∧ q.2.2.2.2.1 = nI u ∧ (q.2.2.2.2.2 = 0 → u = 0))
def zInN (c : Int32) (nl nr : Nat) (F : Nat → Int32) (r : Nat → zRD) : Prop := (c = 0 ∧ nl = 0 ∧ nr = 0 ∨ (∃ q, 1 ≤ q ∧ q ≤ 9 ∧ c = nI q) ∧ 1 ≤ nl ∧ 1 ≤ nr) ∧ (∀ j, j < nl → ∃ d, 1 ≤ d ∧ d ≤ 99 ∧ F j = nI d) ∧ ∀ j, j < nr → zRid (r j)
def zInR (nr n : Nat) (o : Nat → Int32) : Prop := ∀ i, i < n → ∃ j, j < nr ∧ o i = nI j
def zInS (ln : Nat → Int32) (sn : Nat → Nat) : Prop := ∀ k, k < 4 → ln k = -1 ∧ sn k = 0 ∨ ln k = 0 ∨ ln k = 1 ∨ ln k = 2
def oM (x : Nat → Int32) : zPC := oMod (x 0) (x 1) (x 2) (x 3) (x 4) (x 5) (x 6) (x 7) (x 8) (x 9) (x 10) (x 11) (x 12) (x 13) (x 14) (x 15) (x 16) (x 17)
def zRlN (A : Nat → Nat → Int32) (nl nr : Nat) (F : Nat → Int32) (r : Nat → zRD) : Prop := (∀ j, j < nl → A 45 j = F j) ∧ ∀ j, j < nr → A 46 j = (r j).1 ∧ A 47 j = (r j).2.1 ∧ A 48 j = (r j).2.2.1 ∧ A 49 j = (r j).2.2.2.1 ∧ A 50 j = (r j).2.2.2.2.1
def zRlS (A : Nat → Nat → Int32) (ln : Nat → Int32) (sn : Nat → Nat) (f : Nat → Nat → Int32) : Prop := (∀ k, k < 4 → A 62 k = if ln k = -1 then -1 else nI (sn k)) ∧ (∀ k, k < 4 → ln k ≠ -1 → A 63 k = ln k) ∧ ∀ k i, k < 4 → i < sn k → A 64 (60 * k + i) = f k i
def zRlX (x : Nat → Int32) (c : Int32) (nl nr : Nat) (m : Int32) (r : Nat → zRD) (n : Nat) (tr ft : Int32) : Prop := x 0 = ft ∧ x 1 = nI nl ∧ x 2 = nI nr ∧ x 3 = c ∧ x 4 = m ∧ x 5 = zshut r nr ∧ x 16 = nI n ∧ x 17 = tr
def zRlR (A : Nat → Nat → Int32) (o mm w : Nat → Int32) : Prop := A 59 = o ∧ A 60 = mm ∧ A 61 = w
def zMd (M : zMem) (c : Int32) (nl nr : Nat) (m : Int32) (F : Nat → Int32) (r : Nat → zRD) (n : Nat) (o mm w : Nat → Int32) (ln : Nat → Int32) (sn : Nat → Nat) (f : Nat → Nat → Int32) (tr ft : Int32) : Prop := ∃ x A, zMdl M x A ∧ zRlX x c nl nr m r n tr ft ∧ zRlN A nl nr F r ∧ zRlR A o mm w ∧ zRlS A ln sn f
def zGood (M : zMem) : Prop := 65 ≤ M.1 ∧ ∃ c nl nr m F r n o mm w ln sn f tr ft, zCl M c nl nr m F r n o mm w ln sn f tr ft ∧ zMd M c nl nr m F r n o mm w ln sn f tr ft ∧ zInN c nl nr F r ∧ zInR nr n o ∧ zInS ln sn
def zKeep (M M' : zMem) : Prop := mget M' 0 = mget M 0 ∧ M'.1 ≤ M.1 + 1 ∧ M'.2.1 ≤ M.2.1 + 4
def zPI (mi mj : Nat) (as bs : List (Option Value)) (M : zMem) : Prop := ∃ (v : Int32) (M1 M2 : zMem), ev mi 0 (some (.ref 1) :: as) [] M = some (some (.int v), M1) ∧ ev mj 0 (some (.ref 44) :: bs) [] M1 = some (some (.int v), M2) ∧ zoc (mget M1 44) = some 8 ∧ mget M1 0 = mget M 0 ∧ zGood M2 ∧ zKeep M M2
def zPL (mi mj : Nat) (as bs : List (Option Value)) (M : zMem) : Prop := ∃ (v : Int64) (M1 M2 : zMem), ev mi 0 (some (.ref 1) :: as) [] M = some (some (.long v), M1) ∧ ev mj 0 (some (.ref 44) :: bs) [] M1 = some (some (.long v), M2) ∧ zoc (mget M1 44) = some 8 ∧ mget M1 0 = mget M 0 ∧ zGood M2 ∧ zKeep M M2
theorem zSpare.fr {M M' : zMem} (h : zSpare M) (hf : ∀ a, 1 ≤ a → a ≤ 43 → mget M' a = mget M a) : zSpare M' := by
  obtain ⟨⟨_, _, _, _, _, _, h1⟩, ⟨_, _, _, _, _, h2, h3, _, h4⟩, _, _, _, _, _, h5, h6⟩ := h
  exact ⟨⟨_, _, _, _, _, _, h1.fr fun a g1 g2 => hf a (by omega) (by omega)⟩, ⟨_, _, _, _, _, h2, (hf _ (by omega) (by omega)).trans h3, _, h4.fr fun a g1 g2 => hf a (by omega) (by omega)⟩, _, _, _, _, _, h5.fr fun a g1 g2 => hf a (by omega) (by omega), h6⟩
theorem zShs.fr {M M' : zMem} {ln : Nat → Int32} {sn : Nat → Nat} {f : Nat → Nat → Int32} (h : zShs M ln sn f) (hf : ∀ a, 35 ≤ a → a ≤ 43 → mget M' a = mget M a) : zShs M' ln sn f := by
  obtain ⟨⟨g, h1, h2⟩, h3⟩ := h
  exact ⟨⟨g, (hf _ (by omega) (by omega)).trans h1, h2⟩, fun k hk => (h3 k hk).fr (hf _ (by omega) (by omega)) (hf _ (by omega) (by omega))⟩
section GD
variable {M M1 M2 : zMem} {c : Int32} {nl nr : Nat} {m : Int32} {F : Nat → Int32} {r : Nat → zRD} {n : Nat} {o mm w : Nat → Int32} {ln : Nat → Int32} {sn : Nat → Nat} {f : Nat → Nat → Int32} {tr ft : Int32}
theorem zCl.fr (h : zCl M c nl nr m F r n o mm w ln sn f tr ft) (hf : ∀ a, 1 ≤ a → a ≤ 43 → mget M1 a = mget M a) : zCl M1 c nl nr m F r n o mm w ln sn f tr ft := by
  obtain ⟨h1, h2, h3, h4, h5⟩ := h
  exact ⟨(hf _ (by omega) (by omega)).trans h1, h2.fr fun a g1 g2 => hf a (by omega) (by omega), h3.fr fun a g1 g2 => hf a (by omega) (by omega), h4.fr fun a g1 g2 => hf a (by omega) (by omega), h5.fr hf⟩
theorem zCl.setT (h : zCl M c nl nr m F r n o mm w ln sn f tr ft) {tr' ft' : Int32} : zCl (mset M 1 (oRR 2 10 18 27 31 35 tr' ft')) c nl nr m F r n o mm w ln sn f tr' ft' := by
  obtain ⟨h1, h2, h3, h4, h5⟩ := h
  refine ⟨mget_self, h2.fr fun a g1 g2 => mget_ne (by omega), h3.fr fun a g1 g2 => mget_ne (by omega), h4.fr fun a g1 g2 => mget_ne (by omega), ?_⟩
  obtain ⟨⟨_, _, _, _, _, _, h1⟩, ⟨_, _, _, _, _, h2, h3, _, h4⟩, _, _, _, _, _, h5, h6⟩ := h5
  exact ⟨⟨_, _, _, _, _, _, h1.fr fun a g1 g2 => mget_ne (by omega)⟩, ⟨_, _, _, _, _, h2, (mget_ne (by omega)).trans h3, _, h4.fr fun a g1 g2 => mget_ne (by omega)⟩, _, _, _, _, _, h5.fr fun a g1 g2 => mget_ne (by omega), h6⟩
theorem zMd.fr (h : zMd M c nl nr m F r n o mm w ln sn f tr ft) (hf : ∀ a, 44 ≤ a → a ≤ 65 → mget M1 a = mget M a) : zMd M1 c nl nr m F r n o mm w ln sn f tr ft := by
  obtain ⟨x, A, h1, h2⟩ := h
  exact ⟨x, A, h1.fr hf, h2⟩
theorem zMdl.setX {x : Nat → Int32} {A : Nat → Nat → Int32} (h : zMdl M x A) (y : Nat → Int32) : zMdl (mset M 44 (oM y)) y A := ⟨mget_self, fun a h1 h2 => (mget_ne (by omega)).trans (h.2 a h1 h2)⟩
theorem zMdl.setA {x : Nat → Int32} {A : Nat → Nat → Int32} (h : zMdl M x A) (a : Nat) (h1 : 45 ≤ a) (h2 : a ≤ 65) (g : Nat → Int32) : zMdl (mset M a (.inl (zsz a, g))) x (va_up A a g) := ⟨(mget_ne (by omega)).trans h.1, fun b g1 g2 => by
  by_cases e : b = a
  · subst e; rw [mget_self, va_up_self]
  · rw [mget_ne e, va_up_ne _ _ e]; exact h.2 b g1 g2⟩
theorem zFin (h65 : 65 ≤ M.1) (h44 : zoc (mget M1 44) = some 8) (f1 : zFr M M1 1 43) (f2 : zFr M1 M2 44 65) (hC : zCl M1 c nl nr m F r n o mm w ln sn f tr ft) (hM : zMd M2 c nl nr m F r n o mm w ln sn f tr ft) (hI : zInN c nl nr F r) (hJ : zInR nr n o) (hK : zInS ln sn) : zoc (mget M1 44) = some 8 ∧ mget M1 0 = mget M 0 ∧ zGood M2 ∧ zKeep M M2 := by
  exact ⟨h44, f1.2.2 _ (by omega), ⟨by rw [f2.1, f1.1]; exact h65, _, _, _, _, _, _, _, _, _, _, _, _, _, _, _, hC.fr fun a g1 g2 => f2.2.2 a (by omega), hM, hI, hJ, hK⟩, by rw [f2.2.2 _ (by omega), f1.2.2 _ (by omega)], by rw [f2.1, f1.1]; omega, by rw [f2.2.1, f1.2.1]; omega⟩
end GD
theorem pk19 (v : Int32) : (v < 1 ∨ 9 < v) ∨ ∃ q, 1 ≤ q ∧ q ≤ 9 ∧ v = nI q := by
  rcases pk_ix v (n := 10) (by omega) with h | h | ⟨j, hj, rfl⟩
  · exact Or.inl (Or.inl (by rw [Int32.lt_iff_toInt_lt] at *; have e1 : (0 : Int32).toInt = 0 := by decide
                             have e2 : (1 : Int32).toInt = 1 := by decide
                             omega))
  · exact Or.inl (Or.inr (by rw [Int32.le_iff_toInt_le] at h; rw [Int32.lt_iff_toInt_lt]; have e1 : (nI 10).toInt = 10 := by decide
                             have e2 : (9 : Int32).toInt = 9 := by decide
                             omega))
  · by_cases z : j = 0
    · subst z; exact Or.inl (Or.inl (by decide))
    · exact Or.inr ⟨j, by omega, by omega, rfl⟩
