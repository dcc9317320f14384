/-! The steps that read and write cells -/
theorem zmap_get {b S0 : Nat} {vs : List Value} {j : Nat} {v : Value} (h : vs[j]? = some v) : (vs.map (ztr b S0))[j]? = some (ztr b S0 v) := by
  rw [List.getElem?_map, h]; rfl
theorem zfd_inv {c : Option zPC} {ci j : Nat} {v : Value} (h : zfd c ci j = some v) : ∃ vs, c = some (.inr (.inr (ci, vs))) ∧ vs[j]? = some v := by
  unfold zfd at h
  split at h
  · split at h
    · rename_i e
      subst e
      exact ⟨_, rfl, h⟩
    · cases h
  · cases h
theorem zpf_inv {c : Option zPC} {ci j : Nat} {v : Value} {d : zPC} (h : zpf c ci j v = some d) : ∃ vs, c = some (.inr (.inr (ci, vs))) ∧ j < vs.length ∧ zfit ci j v = true ∧ d = .inr (.inr (ci, vs.set j v)) := by
  unfold zpf at h
  split at h
  · split at h
    · rename_i e
      obtain ⟨rfl, h1, h2⟩ := e
      cases h
      exact ⟨_, rfl, h1, h2, rfl⟩
    · cases h
  · cases h
theorem zia_inv {c : Option zPC} {i x : Int32} (h : zia c i = some x) : ∃ n f, c = some (.inl (n, f)) ∧ vp_in i n ∧ x = f i.toNatClampNeg := by
  unfold zia at h
  split at h
  · split at h
    · cases h
    · rename_i e
      cases h
      exact ⟨_, _, rfl, e, rfl⟩
  · cases h
theorem zis_inv {c : Option zPC} {i x : Int32} {d : zPC} (h : zis c i x = some d) : ∃ n f, c = some (.inl (n, f)) ∧ vp_in i n ∧ d = .inl (n, upd f i.toNatClampNeg x) := by
  unfold zis at h
  split at h
  · split at h
    · cases h
    · rename_i e
      cases h
      exact ⟨_, _, rfl, e, rfl⟩
  · cases h
theorem zaa_inv {c : Option zPC} {i : Int32} {v : Value} (h : zaa c i = some v) : ∃ k n f, c = some (.inr (.inl (k, n, f))) ∧ vp_in i n ∧ v = va_rf (f i.toNatClampNeg) := by
  unfold zaa at h
  split at h
  · split at h
    · cases h
    · rename_i e
      cases h
      exact ⟨_, _, _, rfl, e, rfl⟩
  · cases h
theorem zoc_inv {c : Option zPC} {k : Nat} (h : zoc c = some k) : ∃ vs, c = some (.inr (.inr (k, vs))) := by
  unfold zoc at h
  split at h
  · cases h
    exact ⟨_, rfl⟩
  · cases h
theorem zas_inv {c d0 : Option zPC} {i : Int32} {v : Nat} {d : zPC} (h : zas c i v d0 = some d) : ∃ k n f vs, c = some (.inr (.inl (k, n, f))) ∧ vp_in i n ∧ d0 = some (.inr (.inr (k, vs))) ∧ (k = 3 ∨ k = 4) ∧ d = .inr (.inl (k, n, va_up f i.toNatClampNeg (some v))) := by
  unfold zas at h
  split at h
  · split at h
    · cases h
    · rename_i e
      split at h
      · rename_i e2
        obtain ⟨vs, hv⟩ := zoc_inv e2.1
        cases h
        exact ⟨_, _, _, vs, rfl, e, hv, e2.2, rfl⟩
      · cases h
  · cases h
theorem zcp_inv {c d0 : Option zPC} {sp dp n : Int32} {d : zPC} (h : zcp c d0 sp dp n = some d) : ∃ n0 f n1 g, c = some (.inl (n0, f)) ∧ d0 = some (.inl (n1, g)) ∧ ¬ sp < 0 ∧ ¬ dp < 0 ∧ ¬ n < 0 ∧ sp.toNatClampNeg + n.toNatClampNeg ≤ n0 ∧ dp.toNatClampNeg + n.toNatClampNeg ≤ n1 ∧ d = .inl (n1, va_cpy f g sp.toNatClampNeg dp.toNatClampNeg n.toNatClampNeg) := by
  unfold zcp at h
  split at h
  · split at h
    · cases h
    · rename_i e
      simp only [not_or, Nat.not_lt] at e
      cases h
      exact ⟨_, _, _, _, rfl, rfl, e.1, e.2.1, e.2.2.1, e.2.2.2.1, e.2.2.2.2, rfl⟩
  · cases h
theorem ztr_rf (b S0 : Nat) (r : Option Nat) : ztr b S0 (va_rf r) = va_rf (r.map (zph b S0)) := by cases r <;> rfl
theorem zup_map (b S0 : Nat) (f : Nat → Option Nat) (k v : Nat) : va_up (fun j => (f j).map (zph b S0)) k (some (zph b S0 v)) = fun j => (va_up f k (some v) j).map (zph b S0) := by
  funext j
  unfold va_up
  split <;> rfl
theorem zin_0 {M M0 : zMem} {a : Nat} {c : zPC} (ha : a ≠ 0) (h : mget M 0 = mget M0 0) : mget (mset M a c) 0 = mget M0 0 := by
  rw [mget_set, if_neg (fun z => ha z.symm)]; exact h
section ZS2
variable {l : Launch} {b S0 : Nat} {D : va_G} {cI c3 c4 : ClassId} {mi : Nat} {p : Program} {e : Env} {R : Room} {s : State} {m : MethodId} {args : Array Value} {below : List Frame} {meth : Method} {c : Code} {M0 : zMem} {Q : State → Prop} {pc pc' len : Nat} {ls ls' : zLS} {st st' : List Value} {M M' : zMem}
set_option maxHeartbeats 4000000 in
theorem zstep_getfield (hC : zCx b S0 D cI c3 c4 mi p R s m args meth c) {k : Nat} (hd : decode (zbyt mi) pc = .ok (.getfield k, len)) (hlen : len = 3) {mi' : Nat} (hs : sti (.getfield k) mi pc ls st M = some (.inr (.inl (mi', pc', ls', st', M'))))
    (hG : zGo l b S0 D cI c3 c4 mi p e R s m args below meth c M0 Q pc' ls' st' M') : mi' = mi ∧ zGo l b S0 D cI c3 c4 mi p e R s m args below meth c M0 Q pc ls st M := by
  obtain ⟨hx, hb, hml, hown, hts, hK, hbS, hS0, hfr, hlo, hin⟩ := hC
  subst hlen
  simp only [sti] at hs
  split at hs
  · rename_i ci j a r hf
    split at hs
    · cases hs
    · rename_i ha
      split at hs
      · rename_i v hv
        obtain ⟨rfl, rfl, rfl, rfl, rfl⟩ := zJ_inj hs
        obtain ⟨vs, hc, hj⟩ := zfd_inv hv
        obtain ⟨h1, h2, h3⟩ := zfl_of hf
        refine ⟨rfl, fun H locs lsA a1 a2 a3 a4 a5 a6 a7 => ?_⟩
        exact va_get hx hb hts (zin_good h2) hown hK.1 a3 (a - 1) (zW_get a2 hc ha) (zvw ci h2) j h1 (hts _ h3) (fun _ h9 => h9) (zmap_get hj) hd (hG H locs lsA a1 a2 a3 a4 a5 a6 a7)
      · cases hs
  · cases hs
set_option maxHeartbeats 4000000 in
theorem zstep_putfield (hC : zCx b S0 D cI c3 c4 mi p R s m args meth c) {k : Nat} (hd : decode (zbyt mi) pc = .ok (.putfield k, len)) (hlen : len = 3) {mi' : Nat} (hs : sti (.putfield k) mi pc ls st M = some (.inr (.inl (mi', pc', ls', st', M'))))
    (hG : zGo l b S0 D cI c3 c4 mi p e R s m args below meth c M0 Q pc' ls' st' M') : mi' = mi ∧ zGo l b S0 D cI c3 c4 mi p e R s m args below meth c M0 Q pc ls st M := by
  obtain ⟨hx, hb, hml, hown, hts, hK, hbS, hS0, hfr, hlo, hin⟩ := hC
  subst hlen
  simp only [sti] at hs
  split at hs
  · rename_i ci j v a r hf
    split at hs
    · cases hs
    · rename_i ha
      split at hs
      · cases hs
      · rename_i hfin
        split at hs
        · rename_i d hv
          obtain ⟨rfl, rfl, rfl, rfl, rfl⟩ := zJ_inj hs
          obtain ⟨vs, hc, hj, hfit, rfl⟩ := zpf_inv hv
          obtain ⟨h1, h2, h3⟩ := zfl_of hf
          obtain ⟨g1, g2⟩ := zfit_ok hfit (zty_ok ci h2 j h1) b S0
          refine ⟨rfl, fun H locs lsA a1 a2 a3 a4 a5 a6 a7 => ?_⟩
          have kk : ∀ (H1 : Heap) (locs1 : List Loc), va_P D vwCl ((zW b S0 cI c3 c4 M).set (a - 1) (zph b S0 a, .inr (ci, (vs.map (ztr b S0)).set j (ztr b S0 v)))) H1 → va_D (fun q : Nat => S0 ≤ q) ((zW b S0 cI c3 c4 M).set (a - 1) (zph b S0 a, .inr (ci, (vs.map (ztr b S0)).set j (ztr b S0 v)))) → va_S (fun q : Nat => S0 ≤ q) s.heap H1 locs1 → W p l e R s m args below meth c H1 locs1 (M.1 - M0.1) (M.2.1 - M0.2.1) Q (F0 m (pc + 3) lsA (List.map (ztr b S0) st')) := by
            intro H1 locs1 b1 b2 b3
            have e1 : (zW b S0 cI c3 c4 M).set (a - 1) (zph b S0 a, .inr (ci, (vs.map (ztr b S0)).set j (ztr b S0 v))) = zW b S0 cI c3 c4 (mset M a (.inr (.inr (ci, vs.set j v)))) := by
              rw [← zW_set _ ha, List.map_set.symm]; rfl
            rw [e1] at b1
            exact hG H1 locs1 lsA a1 (zwf_set a2 hc) b1 b3 a5 a6 (zin_0 ha a7)
          by_cases hff : ((zT ci) j).2.2.2 = true
          · simp only [hff, true_and, not_or, Bool.not_eq_false, ne_eq, Classical.not_not] at hfin
            exact va_putF hx hb hts (zin_good h2) (zty ci) (zty_ok ci h2) (znm ci h2) hown hK.1 a3 zW_D a4 (a - 1) (zW_get a2 hc ha) (zvw ci h2) j h1 (hts _ h3) (fun _ h9 => h9) hff (hin hfin.1) hfin.2 (zty_ok ci h2 j h1) g1 g2 (by rw [List.length_map]; exact hj) hd kk
          · exact va_put hx hb hts (zin_good h2) (zty ci) (zty_ok ci h2) (znm ci h2) hown hK.1 a3 zW_D a4 (a - 1) (zW_get a2 hc ha) (zvw ci h2) j h1 (hts _ h3) (fun _ h9 => h9) (by simpa using hff) (zty_ok ci h2 j h1) g1 g2 (by rw [List.length_map]; exact hj) hd kk
        · cases hs
  · cases hs
set_option maxHeartbeats 4000000 in
theorem zstep_iaload (hC : zCx b S0 D cI c3 c4 mi p R s m args meth c) (hX : ∃ (L : Nat) (xs : Nat → Int32), mget M0 0 = some (.inl (L, xs)) ∧ va_X b L xs s s.heap) (hd : decode (zbyt mi) pc = .ok (.iaload, len)) (hlen : len = 1) {mi' : Nat} (hs : sti .iaload mi pc ls st M = some (.inr (.inl (mi', pc', ls', st', M'))))
    (hG : zGo l b S0 D cI c3 c4 mi p e R s m args below meth c M0 Q pc' ls' st' M') : mi' = mi ∧ zGo l b S0 D cI c3 c4 mi p e R s m args below meth c M0 Q pc ls st M := by
  obtain ⟨hx, hb, hml, hown, hts, hK, hbS, hS0, hfr, hlo, hin⟩ := hC
  subst hlen
  simp only [sti] at hs
  split at hs
  · rename_i i a r
    split at hs
    · rename_i x hv
      obtain ⟨rfl, rfl, rfl, rfl, rfl⟩ := zJ_inj hs
      obtain ⟨n, f, hc, hvi, rfl⟩ := zia_inv hv
      refine ⟨rfl, fun H locs lsA a1 a2 a3 a4 a5 a6 a7 => ?_⟩
      have k := hG H locs lsA a1 a2 a3 a4 a5 a6 a7
      by_cases ha : a = 0
      · subst ha
        obtain ⟨L, xs, h1, h2⟩ := hX
        rw [← a7, hc] at h1
        cases h1
        exact va_sld hx hb h2 (by omega) (by show ¬ S0 ≤ b; omega) a4 hvi hd k
      · exact va_iald hx hb hK.1 a3 (a - 1) 0 (zW_get a2 hc ha) rfl hvi hd k
    · cases hs
  · cases hs
set_option maxHeartbeats 4000000 in
theorem zstep_arraylength (hC : zCx b S0 D cI c3 c4 mi p R s m args meth c) (hX : ∃ (L : Nat) (xs : Nat → Int32), mget M0 0 = some (.inl (L, xs)) ∧ va_X b L xs s s.heap) (hd : decode (zbyt mi) pc = .ok (.arraylength, len)) (hlen : len = 1) {mi' : Nat} (hs : sti .arraylength mi pc ls st M = some (.inr (.inl (mi', pc', ls', st', M'))))
    (hG : zGo l b S0 D cI c3 c4 mi p e R s m args below meth c M0 Q pc' ls' st' M') : mi' = mi ∧ zGo l b S0 D cI c3 c4 mi p e R s m args below meth c M0 Q pc ls st M := by
  obtain ⟨hx, hb, hml, hown, hts, hK, hbS, hS0, hfr, hlo, hin⟩ := hC
  subst hlen
  simp only [sti] at hs
  split at hs
  · rename_i a r
    split at hs
    · rename_i x hv
      obtain ⟨rfl, rfl, rfl, rfl, rfl⟩ := zJ_inj hs
      refine ⟨rfl, fun H locs lsA a1 a2 a3 a4 a5 a6 a7 => ?_⟩
      have k := hG H locs lsA a1 a2 a3 a4 a5 a6 a7
      obtain ⟨L, xs, h1, h2⟩ := hX
      unfold zal at hv
      split at hv
      · rename_i n f hc
        cases hv
        by_cases ha : a = 0
        · subst ha
          rw [← a7, hc] at h1
          cases h1
          exact va_slen (b := b) hx hb h2 (by omega) (by show ¬ S0 ≤ b; omega) a4 hd k
        · exact va_alen hx hb hK.1 a3 (a - 1) 0 (zW_get a2 hc ha) rfl rfl hd k
      · rename_i kd n f hc
        cases hv
        by_cases ha : a = 0
        · subst ha
          rw [← a7, hc] at h1
          cases h1
        · by_cases h3 : kd = 3
          · subst h3
            exact va_alen hx hb hK.1 a3 (a - 1) 1 (zW_get a2 hc ha) rfl rfl hd k
          · have hg := zW_get (b := b) (S0 := S0) (cI := cI) (c3 := c3) (c4 := c4) a2 hc ha
            simp only [zcv, if_neg h3] at hg
            exact va_alen hx hb hK.1 a3 (a - 1) 2 hg rfl rfl hd k
      · cases hv
    · cases hs
  · cases hs
set_option maxHeartbeats 4000000 in
theorem zstep_iastore (hC : zCx b S0 D cI c3 c4 mi p R s m args meth c) (hd : decode (zbyt mi) pc = .ok (.iastore, len)) (hlen : len = 1) {mi' : Nat} (hs : sti .iastore mi pc ls st M = some (.inr (.inl (mi', pc', ls', st', M'))))
    (hG : zGo l b S0 D cI c3 c4 mi p e R s m args below meth c M0 Q pc' ls' st' M') : mi' = mi ∧ zGo l b S0 D cI c3 c4 mi p e R s m args below meth c M0 Q pc ls st M := by
  obtain ⟨hx, hb, hml, hown, hts, hK, hbS, hS0, hfr, hlo, hin⟩ := hC
  subst hlen
  simp only [sti] at hs
  split at hs
  · rename_i x i a r
    split at hs
    · cases hs
    · rename_i ha
      split at hs
      · rename_i d hv
        obtain ⟨rfl, rfl, rfl, rfl, rfl⟩ := zJ_inj hs
        obtain ⟨n, f, hc, hvi, rfl⟩ := zis_inv hv
        refine ⟨rfl, fun H locs lsA a1 a2 a3 a4 a5 a6 a7 => ?_⟩
        refine va_iast hx hb hK.1 a3 zW_D a4 (a - 1) 0 (zW_get a2 hc ha) rfl hvi hd (fun H1 locs1 b1 b2 b3 => ?_)
        have e1 := zW_set (b := b) (S0 := S0) (cI := cI) (c3 := c3) (c4 := c4) (M := M) (.inl (n, upd f i.toNatClampNeg x)) ha
        change (zW b S0 cI c3 c4 M).set (a - 1) (zph b S0 a, .inl (cI, n, .inl (upd f i.toNatClampNeg x))) = _ at e1
        rw [e1] at b1
        exact hG H1 locs1 lsA a1 (zwf_set a2 hc) b1 b3 a5 a6 (zin_0 ha a7)
      · cases hs
  · cases hs
set_option maxHeartbeats 4000000 in
theorem zstep_aaload (hC : zCx b S0 D cI c3 c4 mi p R s m args meth c) (hd : decode (zbyt mi) pc = .ok (.aaload, len)) (hlen : len = 1) {mi' : Nat} (hs : sti .aaload mi pc ls st M = some (.inr (.inl (mi', pc', ls', st', M'))))
    (hG : zGo l b S0 D cI c3 c4 mi p e R s m args below meth c M0 Q pc' ls' st' M') : mi' = mi ∧ zGo l b S0 D cI c3 c4 mi p e R s m args below meth c M0 Q pc ls st M := by
  obtain ⟨hx, hb, hml, hown, hts, hK, hbS, hS0, hfr, hlo, hin⟩ := hC
  subst hlen
  simp only [sti] at hs
  split at hs
  · rename_i i a r
    split at hs
    · cases hs
    · rename_i ha
      split at hs
      · rename_i v hv
        obtain ⟨rfl, rfl, rfl, rfl, rfl⟩ := zJ_inj hs
        obtain ⟨kd, n, f, hc, hvi, rfl⟩ := zaa_inv hv
        refine ⟨rfl, fun H locs lsA a1 a2 a3 a4 a5 a6 a7 => ?_⟩
        have k := hG H locs lsA a1 a2 a3 a4 a5 a6 a7
        rw [List.map_cons, ztr_rf] at k
        by_cases h3 : kd = 3
        · subst h3
          exact va_aldq hx hb hK.1 a3 (a - 1) 1 (zW_get a2 hc ha) rfl hvi hd k
        · have hg := zW_get (b := b) (S0 := S0) (cI := cI) (c3 := c3) (c4 := c4) a2 hc ha
          simp only [zcv, if_neg h3] at hg
          exact va_aldq hx hb hK.1 a3 (a - 1) 2 hg rfl hvi hd k
      · cases hs
  · cases hs
set_option maxHeartbeats 4000000 in
theorem zstep_aastore (hC : zCx b S0 D cI c3 c4 mi p R s m args meth c) (hd : decode (zbyt mi) pc = .ok (.aastore, len)) (hlen : len = 1) {mi' : Nat} (hs : sti .aastore mi pc ls st M = some (.inr (.inl (mi', pc', ls', st', M'))))
    (hG : zGo l b S0 D cI c3 c4 mi p e R s m args below meth c M0 Q pc' ls' st' M') : mi' = mi ∧ zGo l b S0 D cI c3 c4 mi p e R s m args below meth c M0 Q pc ls st M := by
  obtain ⟨hx, hb, hml, hown, hts, hK, hbS, hS0, hfr, hlo, hin⟩ := hC
  subst hlen
  simp only [sti] at hs
  split at hs
  · rename_i v i a r
    split at hs
    · cases hs
    · rename_i ha
      split at hs
      · rename_i d hv
        obtain ⟨rfl, rfl, rfl, rfl, rfl⟩ := zJ_inj hs
        have hv0 : v ≠ 0 := fun z => ha (Or.inr z)
        have ha : a ≠ 0 := fun z => ha (Or.inl z)
        obtain ⟨kd, n, f, vs, hc, hvi, hcv, hk, rfl⟩ := zas_inv hv
        refine ⟨rfl, fun H locs lsA a1 a2 a3 a4 a5 a6 a7 => ?_⟩
        have e1 := zW_set (b := b) (S0 := S0) (cI := cI) (c3 := c3) (c4 := c4) (M := M) (.inr (.inl (kd, n, va_up f i.toNatClampNeg (some v)))) ha
        have g1 := zW_get (b := b) (S0 := S0) (cI := cI) (c3 := c3) (c4 := c4) a2 hc ha
        have g2 := zW_get (b := b) (S0 := S0) (cI := cI) (c3 := c3) (c4 := c4) a2 hcv hv0
        simp only [zcv, ← zup_map] at e1 g1 g2
        rcases hk with rfl | rfl
        · refine va_astq hx hb hK.1 a3 zW_D a4 (a - 1) 1 (v - 1) 3 g1 rfl g2 (zvw 3 (by decide)) hvi hd (fun H1 locs1 b1 b2 b3 => ?_)
          rw [if_pos rfl] at b1 e1
          rw [e1] at b1
          exact hG H1 locs1 lsA a1 (zwf_set a2 hc) b1 b3 a5 a6 (zin_0 ha a7)
        · refine va_astq hx hb hK.1 a3 zW_D a4 (a - 1) 2 (v - 1) 4 g1 rfl g2 (zvw 4 (by decide)) hvi hd (fun H1 locs1 b1 b2 b3 => ?_)
          rw [if_neg (by decide)] at b1 e1
          rw [e1] at b1
          exact hG H1 locs1 lsA a1 (zwf_set a2 hc) b1 b3 a5 a6 (zin_0 ha a7)
      · cases hs
  · cases hs
end ZS2
