/-! New cells, calls, and the soundness of a run -/
theorem z_q {b S0 : Nat} {D : va_G} {cI c3 c4 : ClassId} {M : zMem} {q : Nat} {x : va_E} {H1 : Heap} (hP : va_P D vwCl (zW b S0 cI c3 c4 M ++ [(q, x)]) H1) (hD : va_D (fun q : Nat => S0 ≤ q) (zW b S0 cI c3 c4 M ++ [(q, x)])) (hs : H1.size ≤ S0 + M.1 + 1) : q = S0 + M.1 := by
  have hl : (zW b S0 cI c3 c4 M ++ [(q, x)])[M.1]? = some (q, x) := by
    rw [List.getElem?_append_right (by rw [zW_len]; exact Nat.le_refl _), zW_len, Nat.sub_self]; rfl
  have h1 : q < H1.size := (hP M.1 _ hl).lt
  have h2 : S0 ≤ q := hD.2 M.1 _ hl
  by_cases h3 : q < S0 + M.1
  · have hi : (zW b S0 cI c3 c4 M ++ [(q, x)])[q - S0]? = some (S0 + (q - S0), zcv b S0 cI c3 c4 (mget M (q - S0 + 1))) := by
      rw [List.getElem?_append_left (by rw [zW_len]; omega)]
      unfold zW
      rw [List.getElem?_map, List.getElem?_range (by omega)]; rfl
    have := hD.1 _ _ _ _ hi hl (by show S0 + (q - S0) = q; omega)
    omega
  · omega
theorem znat_ok : zw 702 = some (.native arraycopyName) := by decide +kernel
def znr : Value → Bool
  | .ref _ => false
  | _ => true
theorem zdf_ok : ∀ ci, ci < 9 → (zdf ci).all znr = true ∧ ∀ j, j < zN ci → vp_V (zdf ci) j = defaultValue (zty ci j) := by decide +kernel
theorem zdf_tr {ci : Nat} (h : ci < 9) (b S0 : Nat) : (zdf ci).map (ztr b S0) = zdf ci := by
  have h1 := (zdf_ok ci h).1
  rw [List.all_eq_true] at h1
  have : (zdf ci).map (ztr b S0) = (zdf ci).map id := by
    apply List.map_congr_left
    intro v hv
    have := h1 v hv
    cases v <;> first | rfl | cases this
  rw [this, List.map_id]
theorem zin_new {M M0 : zMem} {z : Nat} {c : zPC} (h : mget M 0 = mget M0 0) : mget (mnew M z c) 0 = mget M0 0 := by
  rw [mget_new, if_neg (by omega)]; exact h
section ZS3
variable {l : Launch} {b S0 : Nat} {D : va_G} {cI c3 c4 : ClassId} {mi : Nat} {p : Program} {e : Env} {R : Room} {s : State} {m : MethodId} {args : Array Value} {below : List Frame} {meth : Method} {c : Code} {M0 : zMem} {Q : State → Prop} {pc pc' len : Nat} {ls ls' : zLS} {st st' : List Value} {M M' : zMem}
set_option maxHeartbeats 4000000 in
theorem zstep_newarray (hC : zCx b S0 D cI c3 c4 mi p R s m args meth c) (hsz : s.heap.size ≤ S0 + M0.1) {at_ : ArrayType} (hd : decode (zbyt mi) pc = .ok (.newarray at_, len)) (hlen : len = 2) {mi' : Nat} (hs : sti (.newarray at_) mi pc ls st M = some (.inr (.inl (mi', pc', ls', st', M')))) (hr1 : M'.1 ≤ M0.1 + R.cells) (hr2 : M'.2.1 ≤ M0.2.1 + R.slots)
    (hG : zGo l b S0 D cI c3 c4 mi p e R s m args below meth c M0 Q pc' ls' st' M') : mi' = mi ∧ zGo l b S0 D cI c3 c4 mi p e R s m args below meth c M0 Q pc ls st M := by
  obtain ⟨hx, hb, hml, hown, hts, hK, hbS, hS0, hfr, hlo, hin⟩ := hC
  subst hlen
  have hat : at_ = .int := by
    cases at_ <;> first | rfl | (simp only [sti] at hs; split at hs <;> cases hs)
  subst hat
  match st, hs with
  | .int n :: r, hs =>
    by_cases hn : n < 0 ∨ 1000 < n.toNatClampNeg
    · simp only [sti, if_pos hn] at hs
      cases hs
    · simp only [sti, if_neg hn] at hs
      obtain ⟨rfl, rfl, rfl, rfl, rfl⟩ := zJ_inj hs
      rw [mnew_1] at hr1
      rw [mnew_2] at hr2
      refine ⟨rfl, fun H locs lsA a1 a2 a3 a4 a5 a6 a7 => ?_⟩
      refine va_newa hx hb (hts _ (zTB_in (zw_mem zarr_ok) rfl)) (ty := .int) rfl hK.1 a3 zW_D a4 (fun q h => Nat.le_trans hS0 h) (a0 := (n.toNatClampNeg, .inl (fun _ => 0))) (fun cA => rfl) (fun z => hn (Or.inl z)) rfl (by have : ¬ 1000 < n.toNatClampNeg := fun z => hn (Or.inr z); show n.toNatClampNeg * 4 ≤ 536870912; omega) (by omega) (by omega) hd (fun q cA H1 k1 k2 k3 k4 => ?_)
      refine z_sz fun hz => ?_
      have hcA : cA = cI := by
        have h1 := (hK.1.2 0 (cI, .int) rfl).2
        have h2 := (k1.2 3 (cA, .int) rfl).2
        exact Option.some.inj (Eq.trans (Eq.symm h2) h1)
      subst hcA
      have hq := z_q k2 k3 (by omega)
      subst hq
      have e1 := zW_new (b := b) (S0 := S0) (cI := cA) (c3 := c3) (c4 := c4) (M := M) n.toNatClampNeg (.inl (n.toNatClampNeg, fun _ => 0))
      change zW b S0 cA c3 c4 M ++ [(S0 + M.1, .inl (cA, n.toNatClampNeg, .inl (fun _ => 0)))] = _ at e1
      rw [e1] at k2
      have k := hG H1 locs lsA a1 (zwf_new a2) k2 k4 (by rw [mnew_1]; omega) (by rw [mnew_2]; omega) (zin_new a7)
      rw [mnew_1, mnew_2] at k
      refine W.cs (by omega) (by omega) ?_ (cells' := M.1 + 1 - M0.1) (slots' := M.2.1 + n.toNatClampNeg - M0.2.1)
      have e2 : ztr b S0 (.ref (M.1 + 1)) = .ref (S0 + M.1) := by
        show Value.ref (zph b S0 (M.1 + 1)) = _
        rw [zph, if_neg (by omega)]; rfl
      rw [List.map_cons, e2] at k
      exact k
  | [], hs => cases hs
  | .long _ :: _, hs => cases hs
  | .float _ :: _, hs => cases hs
  | .double _ :: _, hs => cases hs
  | .null :: _, hs => cases hs
  | .ref _ :: _, hs => cases hs
  | .retAddr _ :: _, hs => cases hs
set_option maxHeartbeats 4000000 in
theorem zstep_new (hC : zCx b S0 D cI c3 c4 mi p R s m args meth c) (hsz : s.heap.size ≤ S0 + M0.1) {k : Nat} (hd : decode (zbyt mi) pc = .ok (.new k, len)) (hlen : len = 3) {mi' : Nat} (hs : sti (.new k) mi pc ls st M = some (.inr (.inl (mi', pc', ls', st', M')))) (hr1 : M'.1 ≤ M0.1 + R.cells) (hr2 : M'.2.1 ≤ M0.2.1 + R.slots)
    (hG : zGo l b S0 D cI c3 c4 mi p e R s m args below meth c M0 Q pc' ls' st' M') : mi' = mi ∧ zGo l b S0 D cI c3 c4 mi p e R s m args below meth c M0 Q pc ls st M := by
  obtain ⟨hx, hb, hml, hown, hts, hK, hbS, hS0, hfr, hlo, hin⟩ := hC
  subst hlen
  simp only [sti] at hs
  split at hs
  · rename_i ci hci
    obtain ⟨rfl, rfl, rfl, rfl, rfl⟩ := zJ_inj hs
    obtain ⟨h9, hlink⟩ := znc_of hci
    rw [mnew_1] at hr1
    rw [mnew_2] at hr2
    refine ⟨rfl, fun H locs lsA a1 a2 a3 a4 a5 a6 a7 => ?_⟩
    refine va_new hx hb hts (zin_good h9) (zty ci) (zty_ok ci h9) hown (hts _ hlink) (hts _ (zTB_in (zw_mem (zins_ok ci h9)) rfl)) (hts _ (zTB_in (zw_mem (znt_ok ci h9)) rfl)) hK.1 a3 zW_D a4 (fun q h => Nat.le_trans hS0 h) (zvw ci h9) (fs := (zdf ci).map (ztr b S0)) (fun j hj => by rw [zdf_tr h9, (zdf_ok ci h9).2 j hj]) (by omega) (by omega) hd (fun q H1 k2 k3 k4 => ?_)
    refine z_sz fun hz => ?_
    have hq := z_q k2 k3 (by omega)
    subst hq
    have e1 := zW_new (b := b) (S0 := S0) (cI := cI) (c3 := c3) (c4 := c4) (M := M) (zN ci) (.inr (.inr (ci, zdf ci)))
    change zW b S0 cI c3 c4 M ++ [(S0 + M.1, .inr (ci, (zdf ci).map (ztr b S0)))] = _ at e1
    rw [e1] at k2
    have k := hG H1 locs lsA a1 (zwf_new a2) k2 k4 (by rw [mnew_1]; omega) (by rw [mnew_2]; omega) (zin_new a7)
    rw [mnew_1, mnew_2] at k
    refine W.cs (by omega) (by omega) ?_ (cells' := M.1 + 1 - M0.1) (slots' := M.2.1 + zN ci - M0.2.1)
    have e2 : ztr b S0 (.ref (M.1 + 1)) = .ref (S0 + M.1) := by
      show Value.ref (zph b S0 (M.1 + 1)) = _
      rw [zph, if_neg (by omega)]; rfl
    rw [List.map_cons, e2] at k
    exact k
  · cases hs
set_option maxHeartbeats 4000000 in
theorem zstep_anewarray (hC : zCx b S0 D cI c3 c4 mi p R s m args meth c) (hsz : s.heap.size ≤ S0 + M0.1) {k : Nat} (hd : decode (zbyt mi) pc = .ok (.anewarray k, len)) (hlen : len = 3) {mi' : Nat} (hs : sti (.anewarray k) mi pc ls st M = some (.inr (.inl (mi', pc', ls', st', M')))) (hr1 : M'.1 ≤ M0.1 + R.cells) (hr2 : M'.2.1 ≤ M0.2.1 + R.slots)
    (hG : zGo l b S0 D cI c3 c4 mi p e R s m args below meth c M0 Q pc' ls' st' M') : mi' = mi ∧ zGo l b S0 D cI c3 c4 mi p e R s m args below meth c M0 Q pc ls st M := by
  obtain ⟨hx, hb, hml, hown, hts, hK, hbS, hS0, hfr, hlo, hin⟩ := hC
  subst hlen
  simp only [sti] at hs
  split at hs
  · rename_i ci n r hci
    split at hs
    · cases hs
    · rename_i hn
      simp only [not_or, Classical.not_not] at hn
      obtain ⟨hn0, hn1, hk35⟩ := hn
      have hk34 : ci = 3 ∨ ci = 4 := by
        by_cases q3 : ci = 3
        · exact Or.inl q3
        · by_cases q4 : ci = 4
          · exact Or.inr q4
          · exact (hk35 ⟨q3, q4⟩).elim
      obtain ⟨rfl, rfl, rfl, rfl, rfl⟩ := zJ_inj hs
      obtain ⟨h9, hlink⟩ := znc_of hci
      rw [mnew_1] at hr1
      rw [mnew_2] at hr2
      refine ⟨rfl, fun H locs lsA a1 a2 a3 a4 a5 a6 a7 => ?_⟩
      have hAO : va_AO (zcn ci) s := by
        rcases hk34 with rfl | rfl
        · exact hK.2.1
        · exact hK.2.2.1
      refine va_newq hx hb hown (hts _ hlink) hAO hK.1 a3 zW_D a4 (fun q h => Nat.le_trans hS0 h) hn0 rfl (by omega) (by omega) (by omega) hd (fun q cA H1 k1 k2 k3 k4 => ?_)
      refine z_sz fun hz => ?_
      have hcA : cA = if ci = 3 then c3 else c4 := by
        obtain ⟨_, _, -, -, -, h2⟩ := (k1.2 3 (cA, .object (zcn ci)) rfl).2
        rcases hk34 with rfl | rfl
        · obtain ⟨_, _, -, -, -, h1⟩ := (hK.1.2 1 (c3, .object RX3) rfl).2
          exact Option.some.inj (Eq.trans (Eq.symm h2) h1)
        · obtain ⟨_, _, -, -, -, h1⟩ := (hK.1.2 2 (c4, .object RX4) rfl).2
          exact Option.some.inj (Eq.trans (Eq.symm h2) h1)
      have hq := z_q k2 k3 (by omega)
      subst hq
      have e1 := zW_new (b := b) (S0 := S0) (cI := cI) (c3 := c3) (c4 := c4) (M := M) n.toNatClampNeg (.inr (.inl (ci, n.toNatClampNeg, fun _ => none)))
      change zW b S0 cI c3 c4 M ++ [(S0 + M.1, .inl (if ci = 3 then c3 else c4, n.toNatClampNeg, .inr (.inr (.inr (.inr (fun _ => none))))))] = _ at e1
      rw [← hcA] at e1
      rw [e1] at k2
      have k := hG H1 locs lsA a1 (zwf_new a2) k2 k4 (by rw [mnew_1]; omega) (by rw [mnew_2]; omega) (zin_new a7)
      rw [mnew_1, mnew_2] at k
      refine W.cs (by omega) (by omega) ?_ (cells' := M.1 + 1 - M0.1) (slots' := M.2.1 + n.toNatClampNeg - M0.2.1)
      have e2 : ztr b S0 (.ref (M.1 + 1)) = .ref (S0 + M.1) := by
        show Value.ref (zph b S0 (M.1 + 1)) = _
        rw [zph, if_neg (by omega)]; rfl
      rw [List.map_cons, e2] at k
      exact k
  · cases hs
-- static and special calls that are no calls in the picture
set_option maxHeartbeats 4000000 in
theorem zstep_static (hC : zCx b S0 D cI c3 c4 mi p R s m args meth c) {k : Nat} (hd : decode (zbyt mi) pc = .ok (.invokestatic k, len)) (hlen : len = 3) {mi' : Nat} (hs : sti (.invokestatic k) mi pc ls st M = some (.inr (.inl (mi', pc', ls', st', M')))) (hr1 : M'.1 ≤ M0.1 + R.cells) (hr2 : M'.2.1 ≤ M0.2.1 + R.slots)
    (hG : zGo l b S0 D cI c3 c4 mi p e R s m args below meth c M0 Q pc' ls' st' M') : mi' = mi ∧ zGo l b S0 D cI c3 c4 mi p e R s m args below meth c M0 Q pc ls st M := by
  obtain ⟨hx, hb, hml, hown, hts, hK, hbS, hS0, hfr, hlo, hin⟩ := hC
  subst hlen
  simp only [sti, zins] at hs
  split at hs
  · rename_i hac
    obtain ⟨w1, w2, w3⟩ := zac_of hac
    split at hs
    · rename_i n dp a sp a0 r
      split at hs
      · cases hs
      · rename_i hcond
        simp only [not_or, Nat.not_lt] at hcond
        obtain ⟨ha0, ha, hcat, hl60, hf1⟩ := hcond
        split at hs
        · rename_i d hv
          obtain ⟨rfl, rfl, rfl, rfl, rfl⟩ := zJ_inj hs
          obtain ⟨n0, f, n1, g, hc0, hc1, g1, g2, g3, g4, g5, rfl⟩ := zcp_inv hv
          refine ⟨rfl, fun H locs lsA a1 a2 a3 a4 a5 a6 a7 => ?_⟩
          refine va_copyi hx hb (hml.trans a1.2.1.1.symm) hown (hts _ w1) (hts _ (zTB_in (zw_mem znat_ok) rfl)) (hts _ w2) (hts _ w3) hK.1 a3 zW_D a4 (a0 - 1) (a - 1) 0 0 (zW_get a2 hc0 ha0) (zW_get a2 hc1 ha) rfl rfl rfl g1 g2 g3 g4 g5 (fun _ _ => rfl) (by omega) (by rw [zcat_tr]; show _ + (7 + 11) ≤ _; omega) hd (fun H1 locs1 b1 b2 b3 => ?_)
          have e1 := zW_set (b := b) (S0 := S0) (cI := cI) (c3 := c3) (c4 := c4) (M := M) (.inl (n1, va_cpy f g sp.toNatClampNeg dp.toNatClampNeg n.toNatClampNeg)) ha
          change (zW b S0 cI c3 c4 M).set (a - 1) (zph b S0 a, .inl (cI, n1, .inl (va_cpy f g sp.toNatClampNeg dp.toNatClampNeg n.toNatClampNeg))) = _ at e1
          rw [e1] at b1
          exact hG H1 locs1 lsA a1 (zwf_set a2 hc1) b1 b3 a5 a6 (zin_0 ha a7)
        · cases hs
    · cases hs
  · split at hs
    · rename_i w hw
      obtain ⟨w1, w2, w3, w4⟩ := zmm_of hw
      split at hs
      · rename_i y x r
        split at hs
        · cases hs
        · rename_i hcond
          simp only [not_or, Nat.not_lt] at hcond
          obtain ⟨hcat, hl60, hf1⟩ := hcond
          obtain ⟨rfl, rfl, rfl, rfl, rfl⟩ := zJ_inj hs
          refine ⟨rfl, fun H locs lsA a1 a2 a3 a4 a5 a6 a7 => ?_⟩
          have kk := hG H locs lsA a1 a2 a3 a4 a5 a6 a7
          by_cases h0 : w = 0
          · subst h0
            exact va_mmax hx hb (hml.trans a1.2.1.1.symm) hown (hts _ (w1 rfl).1) (hts _ (w1 rfl).2) (hts _ w3) (hts _ (zTB_in zmmax_ok rfl)) (by omega) (by rw [zcat_tr]; omega) (by omega) (by omega) hd kk
          · have h1 : w = 1 := by omega
            subst h1
            exact va_mmin hx hb (hml.trans a1.2.1.1.symm) hown (hts _ (w2 rfl).1) (hts _ (w2 rfl).2) (hts _ w3) (hts _ (zTB_in zmmin_ok rfl)) (by omega) (by rw [zcat_tr]; omega) (by omega) (by omega) hd kk
      · cases hs
    · split at hs
      · split at hs
        · split at hs
          · unfold zcall at hs
            split at hs <;> cases hs
          · cases hs
        · cases hs
      · cases hs
set_option maxHeartbeats 4000000 in
theorem zstep_special (hC : zCx b S0 D cI c3 c4 mi p R s m args meth c) {k : Nat} (hd : decode (zbyt mi) pc = .ok (.invokespecial k, len)) (hlen : len = 3) {mi' : Nat} (hs : sti (.invokespecial k) mi pc ls st M = some (.inr (.inl (mi', pc', ls', st', M'))))
    (hG : zGo l b S0 D cI c3 c4 mi p e R s m args below meth c M0 Q pc' ls' st' M') : mi' = mi ∧ zGo l b S0 D cI c3 c4 mi p e R s m args below meth c M0 Q pc ls st M := by
  obtain ⟨hx, hb, hml, hown, hts, hK, hbS, hS0, hfr, hlo, hin⟩ := hC
  subst hlen
  simp only [sti, zinp] at hs
  split at hs
  · rename_i hoi
    split at hs
    · rename_i a r
      split at hs
      · cases hs
      · rename_i hcond
        simp only [not_or, Nat.not_lt] at hcond
        obtain ⟨hcat, hl60, hf1⟩ := hcond
        obtain ⟨rfl, rfl, rfl, rfl, rfl⟩ := zJ_inj hs
        refine ⟨rfl, fun H locs lsA a1 a2 a3 a4 a5 a6 a7 => ?_⟩
        have kk := hG H locs lsA a1 a2 a3 a4 a5 a6 a7
        exact W.objInit hx hb hown (hts _ (zoi_of hoi)) (hts _ (zTB_in (zw_mem zobj_ok.1) rfl)) (hts _ (zTB_in (zw_mem zobj_ok.2) rfl)) rfl (a1.2.1.1.trans hml.symm) rfl hd (by omega) (by show 2 * 0 + _ + 12 ≤ _; rw [zcat_tr]; omega) kk
    · cases hs
  · split at hs
    · split at hs
      · split at hs
        · split at hs
          · unfold zcall at hs
            split at hs <;> cases hs
          · cases hs
        · cases hs
      · cases hs
    · cases hs
theorem zstep_virtual {k : Nat} {mi' : Nat} (hs : sti (.invokevirtual k) mi pc ls st M = some (.inr (.inl (mi', pc', ls', st', M')))) : False := by
  simp only [sti, zinv] at hs
  split at hs
  · split at hs
    · split at hs
      · split at hs
        · unfold zcall at hs
          split at hs <;> cases hs
        · cases hs
      · cases hs
    · cases hs
  · cases hs
set_option maxHeartbeats 4000000 in
/-- any step but a call or a return -/
theorem zstep (hC : zCx b S0 D cI c3 c4 mi p R s m args meth c) (hX : ∃ (L : Nat) (xs : Nat → Int32), mget M0 0 = some (.inl (L, xs)) ∧ va_X b L xs s s.heap) (hsz : s.heap.size ≤ S0 + M0.1) {i : Instr} (hd : decode (zbyt mi) pc = .ok (i, len)) (hlen : zlen i = len ∨ zlen i = 0) {mi' : Nat} (hs : sti i mi pc ls st M = some (.inr (.inl (mi', pc', ls', st', M')))) (hr1 : M'.1 ≤ M0.1 + R.cells) (hr2 : M'.2.1 ≤ M0.2.1 + R.slots)
    (hG : zGo l b S0 D cI c3 c4 mi p e R s m args below meth c M0 Q pc' ls' st' M') : mi' = mi ∧ zGo l b S0 D cI c3 c4 mi p e R s m args below meth c M0 Q pc ls st M := by
  by_cases hp : zpure i = true
  · exact zstepA hC hd hlen hs hp hG
  · cases i with
    | getfield k => exact zstep_getfield hC hd (zlen_of (n := 3) hlen rfl (by decide)) hs hG
    | putfield k => exact zstep_putfield hC hd (zlen_of (n := 3) hlen rfl (by decide)) hs hG
    | iaload => exact zstep_iaload hC hX hd (zlen_of (n := 1) hlen rfl (by decide)) hs hG
    | iastore => exact zstep_iastore hC hd (zlen_of (n := 1) hlen rfl (by decide)) hs hG
    | arraylength => exact zstep_arraylength hC hX hd (zlen_of (n := 1) hlen rfl (by decide)) hs hG
    | aaload => exact zstep_aaload hC hd (zlen_of (n := 1) hlen rfl (by decide)) hs hG
    | aastore => exact zstep_aastore hC hd (zlen_of (n := 1) hlen rfl (by decide)) hs hG
    | newarray a => exact zstep_newarray hC hsz hd (zlen_of (n := 2) hlen rfl (by decide)) hs hr1 hr2 hG
    | anewarray k => exact zstep_anewarray hC hsz hd (zlen_of (n := 3) hlen rfl (by decide)) hs hr1 hr2 hG
    | new k => exact zstep_new hC hsz hd (zlen_of (n := 3) hlen rfl (by decide)) hs hr1 hr2 hG
    | invokevirtual k => exact (zstep_virtual hs).elim
    | invokestatic k => exact zstep_static hC hd (zlen_of (n := 3) hlen rfl (by decide)) hs hr1 hr2 hG
    | invokespecial k => exact zstep_special hC hd (zlen_of (n := 3) hlen rfl (by decide)) hs hG
    | _ => exact absurd rfl hp
end ZS3
