/-! What goes on behind a call, a read, a write: words without a bound name, for the rewriting -/
noncomputable def zth (x : Option zR) (mi pc : Nat) (ls : zLS) (rest : List Value) : Option zR := x.bind fun r => ev mi pc ls (r.1.toList ++ rest) r.2
noncomputable def zthv (x : Option Value) (mi pc : Nat) (ls : zLS) (st : List Value) (M : zMem) : Option zR := x.bind fun v => ev mi pc ls (v :: st) M
noncomputable def zthi (x : Option Int32) (mi pc : Nat) (ls : zLS) (st : List Value) (M : zMem) : Option zR := x.bind fun v => ev mi pc ls (.int v :: st) M
noncomputable def zthm (x : Option zPC) (a mi pc : Nat) (ls : zLS) (st : List Value) (M : zMem) : Option zR := x.bind fun c => ev mi pc ls st (mset M a c)
theorem zth_v {v : Value} {M : zMem} {mi pc : Nat} {ls : zLS} {rest : List Value} : zth (some (some v, M)) mi pc ls rest = ev mi pc ls (v :: rest) M := rfl
theorem zth_n {M : zMem} {mi pc : Nat} {ls : zLS} {rest : List Value} : zth (some (none, M)) mi pc ls rest = ev mi pc ls rest M := rfl
theorem zthv_s {v : Value} {mi pc : Nat} {ls : zLS} {st : List Value} {M : zMem} : zthv (some v) mi pc ls st M = ev mi pc ls (v :: st) M := rfl
theorem zthi_s {x : Int32} {mi pc : Nat} {ls : zLS} {st : List Value} {M : zMem} : zthi (some x) mi pc ls st M = ev mi pc ls (.int x :: st) M := rfl
theorem zthm_s {c : zPC} {a mi pc : Nat} {ls : zLS} {st : List Value} {M : zMem} : zthm (some c) a mi pc ls st M = ev mi pc ls st (mset M a c) := rfl
theorem zth_ite {c : Prop} {d : Decidable c} {x y : Option zR} {mi pc : Nat} {ls : zLS} {rest : List Value} : zth (@ite _ c d x y) mi pc ls rest = @ite _ c d (zth x mi pc ls rest) (zth y mi pc ls rest) := by
  by_cases h : c
  · rw [if_pos h, if_pos h]
  · rw [if_neg h, if_neg h]
-- the objects, by their fields
abbrev zRD : Type := Int32 × Int32 × Int32 × Int32 × Int32 × Int32
def oGuid (a b c : Nat) (n t : Int32) : zPC := .inr (.inr (0, [.ref a, .ref b, .ref c, .int n, .int t]))
def oNur (f r : Nat) (c l n m : Int32) : zPC := .inr (.inr (1, [.ref f, .ref r, .int c, .int l, .int n, .int m]))
def oRead (a b c : Nat) (n : Int32) : zPC := .inr (.inr (2, [.ref a, .ref b, .ref c, .int n]))
def oRid (q : zRD) : zPC := .inr (.inr (3, [.int q.1, .int q.2.1, .int q.2.2.1, .int q.2.2.2.1, .int q.2.2.2.2.1, .int q.2.2.2.2.2]))
def oSheet (a : Nat) (l n : Int32) : zPC := .inr (.inr (4, [.ref a, .int l, .int n]))
def oTale (n : Nat) (k s : Int32) : zPC := .inr (.inr (5, [.ref n, .int k, .int s]))
def oText (s : Nat) (f n k : Int32) : zPC := .inr (.inr (6, [.ref s, .int f, .int n, .int k]))
def oRR (a b c d e f : Nat) (t l : Int32) : zPC := .inr (.inr (7, [.ref a, .ref b, .ref c, .ref d, .ref e, .ref f, .int t, .int l]))
theorem foGuid_0 {a : Nat} {b : Nat} {c : Nat} {n : Int32} {t : Int32} : zfd (some (oGuid a b c n t)) 0 0 = some (.ref a) := rfl
theorem foGuid_1 {a : Nat} {b : Nat} {c : Nat} {n : Int32} {t : Int32} : zfd (some (oGuid a b c n t)) 0 1 = some (.ref b) := rfl
theorem foGuid_2 {a : Nat} {b : Nat} {c : Nat} {n : Int32} {t : Int32} : zfd (some (oGuid a b c n t)) 0 2 = some (.ref c) := rfl
theorem foGuid_3 {a : Nat} {b : Nat} {c : Nat} {n : Int32} {t : Int32} : zfd (some (oGuid a b c n t)) 0 3 = some (.int n) := rfl
theorem foGuid_4 {a : Nat} {b : Nat} {c : Nat} {n : Int32} {t : Int32} : zfd (some (oGuid a b c n t)) 0 4 = some (.int t) := rfl
theorem coGuid {a : Nat} {b : Nat} {c : Nat} {n : Int32} {t : Int32} : zoc (some (oGuid a b c n t)) = some 0 := rfl
theorem poGuid_3 {a : Nat} {b : Nat} {c : Nat} {n : Int32} {t : Int32} {x : Int32} : zpf (some (oGuid a b c n t)) 0 3 (.int x) = some (oGuid a b c x t) := rfl
theorem poGuid_4 {a : Nat} {b : Nat} {c : Nat} {n : Int32} {t : Int32} {x : Int32} : zpf (some (oGuid a b c n t)) 0 4 (.int x) = some (oGuid a b c n x) := rfl
theorem foNur_0 {f : Nat} {r : Nat} {c : Int32} {l : Int32} {n : Int32} {m : Int32} : zfd (some (oNur f r c l n m)) 1 0 = some (.ref f) := rfl
theorem foNur_1 {f : Nat} {r : Nat} {c : Int32} {l : Int32} {n : Int32} {m : Int32} : zfd (some (oNur f r c l n m)) 1 1 = some (.ref r) := rfl
theorem foNur_2 {f : Nat} {r : Nat} {c : Int32} {l : Int32} {n : Int32} {m : Int32} : zfd (some (oNur f r c l n m)) 1 2 = some (.int c) := rfl
theorem foNur_3 {f : Nat} {r : Nat} {c : Int32} {l : Int32} {n : Int32} {m : Int32} : zfd (some (oNur f r c l n m)) 1 3 = some (.int l) := rfl
theorem foNur_4 {f : Nat} {r : Nat} {c : Int32} {l : Int32} {n : Int32} {m : Int32} : zfd (some (oNur f r c l n m)) 1 4 = some (.int n) := rfl
theorem foNur_5 {f : Nat} {r : Nat} {c : Int32} {l : Int32} {n : Int32} {m : Int32} : zfd (some (oNur f r c l n m)) 1 5 = some (.int m) := rfl
theorem coNur {f : Nat} {r : Nat} {c : Int32} {l : Int32} {n : Int32} {m : Int32} : zoc (some (oNur f r c l n m)) = some 1 := rfl
theorem poNur_2 {f : Nat} {r : Nat} {c : Int32} {l : Int32} {n : Int32} {m : Int32} {x : Int32} : zpf (some (oNur f r c l n m)) 1 2 (.int x) = some (oNur f r x l n m) := rfl
theorem poNur_3 {f : Nat} {r : Nat} {c : Int32} {l : Int32} {n : Int32} {m : Int32} {x : Int32} : zpf (some (oNur f r c l n m)) 1 3 (.int x) = some (oNur f r c x n m) := rfl
theorem poNur_4 {f : Nat} {r : Nat} {c : Int32} {l : Int32} {n : Int32} {m : Int32} {x : Int32} : zpf (some (oNur f r c l n m)) 1 4 (.int x) = some (oNur f r c l x m) := rfl
theorem poNur_5 {f : Nat} {r : Nat} {c : Int32} {l : Int32} {n : Int32} {m : Int32} {x : Int32} : zpf (some (oNur f r c l n m)) 1 5 (.int x) = some (oNur f r c l n x) := rfl
theorem foRead_0 {a : Nat} {b : Nat} {c : Nat} {n : Int32} : zfd (some (oRead a b c n)) 2 0 = some (.ref a) := rfl
theorem foRead_1 {a : Nat} {b : Nat} {c : Nat} {n : Int32} : zfd (some (oRead a b c n)) 2 1 = some (.ref b) := rfl
theorem foRead_2 {a : Nat} {b : Nat} {c : Nat} {n : Int32} : zfd (some (oRead a b c n)) 2 2 = some (.ref c) := rfl
theorem foRead_3 {a : Nat} {b : Nat} {c : Nat} {n : Int32} : zfd (some (oRead a b c n)) 2 3 = some (.int n) := rfl
theorem coRead {a : Nat} {b : Nat} {c : Nat} {n : Int32} : zoc (some (oRead a b c n)) = some 2 := rfl
theorem poRead_3 {a : Nat} {b : Nat} {c : Nat} {n : Int32} {x : Int32} : zpf (some (oRead a b c n)) 2 3 (.int x) = some (oRead a b c x) := rfl
theorem foSheet_0 {a : Nat} {l : Int32} {n : Int32} : zfd (some (oSheet a l n)) 4 0 = some (.ref a) := rfl
theorem foSheet_1 {a : Nat} {l : Int32} {n : Int32} : zfd (some (oSheet a l n)) 4 1 = some (.int l) := rfl
theorem foSheet_2 {a : Nat} {l : Int32} {n : Int32} : zfd (some (oSheet a l n)) 4 2 = some (.int n) := rfl
theorem coSheet {a : Nat} {l : Int32} {n : Int32} : zoc (some (oSheet a l n)) = some 4 := rfl
theorem poSheet_1 {a : Nat} {l : Int32} {n : Int32} {x : Int32} : zpf (some (oSheet a l n)) 4 1 (.int x) = some (oSheet a x n) := rfl
theorem poSheet_2 {a : Nat} {l : Int32} {n : Int32} {x : Int32} : zpf (some (oSheet a l n)) 4 2 (.int x) = some (oSheet a l x) := rfl
theorem foTale_0 {n : Nat} {k : Int32} {s : Int32} : zfd (some (oTale n k s)) 5 0 = some (.ref n) := rfl
theorem foTale_1 {n : Nat} {k : Int32} {s : Int32} : zfd (some (oTale n k s)) 5 1 = some (.int k) := rfl
theorem foTale_2 {n : Nat} {k : Int32} {s : Int32} : zfd (some (oTale n k s)) 5 2 = some (.int s) := rfl
theorem coTale {n : Nat} {k : Int32} {s : Int32} : zoc (some (oTale n k s)) = some 5 := rfl
theorem poTale_1 {n : Nat} {k : Int32} {s : Int32} {x : Int32} : zpf (some (oTale n k s)) 5 1 (.int x) = some (oTale n x s) := rfl
theorem poTale_2 {n : Nat} {k : Int32} {s : Int32} {x : Int32} : zpf (some (oTale n k s)) 5 2 (.int x) = some (oTale n k x) := rfl
theorem foText_0 {s : Nat} {f : Int32} {n : Int32} {k : Int32} : zfd (some (oText s f n k)) 6 0 = some (.ref s) := rfl
theorem foText_1 {s : Nat} {f : Int32} {n : Int32} {k : Int32} : zfd (some (oText s f n k)) 6 1 = some (.int f) := rfl
theorem foText_2 {s : Nat} {f : Int32} {n : Int32} {k : Int32} : zfd (some (oText s f n k)) 6 2 = some (.int n) := rfl
theorem foText_3 {s : Nat} {f : Int32} {n : Int32} {k : Int32} : zfd (some (oText s f n k)) 6 3 = some (.int k) := rfl
theorem coText {s : Nat} {f : Int32} {n : Int32} {k : Int32} : zoc (some (oText s f n k)) = some 6 := rfl
theorem poText_1 {s : Nat} {f : Int32} {n : Int32} {k : Int32} {x : Int32} : zpf (some (oText s f n k)) 6 1 (.int x) = some (oText s x n k) := rfl
theorem poText_2 {s : Nat} {f : Int32} {n : Int32} {k : Int32} {x : Int32} : zpf (some (oText s f n k)) 6 2 (.int x) = some (oText s f x k) := rfl
theorem poText_3 {s : Nat} {f : Int32} {n : Int32} {k : Int32} {x : Int32} : zpf (some (oText s f n k)) 6 3 (.int x) = some (oText s f n x) := rfl
theorem foRR_0 {a : Nat} {b : Nat} {c : Nat} {d : Nat} {e : Nat} {f : Nat} {t : Int32} {l : Int32} : zfd (some (oRR a b c d e f t l)) 7 0 = some (.ref a) := rfl
theorem foRR_1 {a : Nat} {b : Nat} {c : Nat} {d : Nat} {e : Nat} {f : Nat} {t : Int32} {l : Int32} : zfd (some (oRR a b c d e f t l)) 7 1 = some (.ref b) := rfl
theorem foRR_2 {a : Nat} {b : Nat} {c : Nat} {d : Nat} {e : Nat} {f : Nat} {t : Int32} {l : Int32} : zfd (some (oRR a b c d e f t l)) 7 2 = some (.ref c) := rfl
theorem foRR_3 {a : Nat} {b : Nat} {c : Nat} {d : Nat} {e : Nat} {f : Nat} {t : Int32} {l : Int32} : zfd (some (oRR a b c d e f t l)) 7 3 = some (.ref d) := rfl
theorem foRR_4 {a : Nat} {b : Nat} {c : Nat} {d : Nat} {e : Nat} {f : Nat} {t : Int32} {l : Int32} : zfd (some (oRR a b c d e f t l)) 7 4 = some (.ref e) := rfl
theorem foRR_5 {a : Nat} {b : Nat} {c : Nat} {d : Nat} {e : Nat} {f : Nat} {t : Int32} {l : Int32} : zfd (some (oRR a b c d e f t l)) 7 5 = some (.ref f) := rfl
theorem foRR_6 {a : Nat} {b : Nat} {c : Nat} {d : Nat} {e : Nat} {f : Nat} {t : Int32} {l : Int32} : zfd (some (oRR a b c d e f t l)) 7 6 = some (.int t) := rfl
theorem foRR_7 {a : Nat} {b : Nat} {c : Nat} {d : Nat} {e : Nat} {f : Nat} {t : Int32} {l : Int32} : zfd (some (oRR a b c d e f t l)) 7 7 = some (.int l) := rfl
theorem coRR {a : Nat} {b : Nat} {c : Nat} {d : Nat} {e : Nat} {f : Nat} {t : Int32} {l : Int32} : zoc (some (oRR a b c d e f t l)) = some 7 := rfl
theorem poRR_6 {a : Nat} {b : Nat} {c : Nat} {d : Nat} {e : Nat} {f : Nat} {t : Int32} {l : Int32} {x : Int32} : zpf (some (oRR a b c d e f t l)) 7 6 (.int x) = some (oRR a b c d e f x l) := rfl
theorem poRR_7 {a : Nat} {b : Nat} {c : Nat} {d : Nat} {e : Nat} {f : Nat} {t : Int32} {l : Int32} {x : Int32} : zpf (some (oRR a b c d e f t l)) 7 7 (.int x) = some (oRR a b c d e f t x) := rfl
theorem foRid_0 {q : zRD} : zfd (some (oRid q)) 3 0 = some (.int q.1) := rfl
theorem poRid_0 {q : zRD} {x : Int32} : zpf (some (oRid q)) 3 0 (.int x) = some (oRid (x, q.2.1, q.2.2.1, q.2.2.2.1, q.2.2.2.2.1, q.2.2.2.2.2)) := rfl
theorem foRid_1 {q : zRD} : zfd (some (oRid q)) 3 1 = some (.int q.2.1) := rfl
theorem poRid_1 {q : zRD} {x : Int32} : zpf (some (oRid q)) 3 1 (.int x) = some (oRid (q.1, x, q.2.2.1, q.2.2.2.1, q.2.2.2.2.1, q.2.2.2.2.2)) := rfl
theorem foRid_2 {q : zRD} : zfd (some (oRid q)) 3 2 = some (.int q.2.2.1) := rfl
theorem poRid_2 {q : zRD} {x : Int32} : zpf (some (oRid q)) 3 2 (.int x) = some (oRid (q.1, q.2.1, x, q.2.2.2.1, q.2.2.2.2.1, q.2.2.2.2.2)) := rfl
theorem foRid_3 {q : zRD} : zfd (some (oRid q)) 3 3 = some (.int q.2.2.2.1) := rfl
theorem poRid_3 {q : zRD} {x : Int32} : zpf (some (oRid q)) 3 3 (.int x) = some (oRid (q.1, q.2.1, q.2.2.1, x, q.2.2.2.2.1, q.2.2.2.2.2)) := rfl
theorem foRid_4 {q : zRD} : zfd (some (oRid q)) 3 4 = some (.int q.2.2.2.2.1) := rfl
theorem poRid_4 {q : zRD} {x : Int32} : zpf (some (oRid q)) 3 4 (.int x) = some (oRid (q.1, q.2.1, q.2.2.1, q.2.2.2.1, x, q.2.2.2.2.2)) := rfl
theorem foRid_5 {q : zRD} : zfd (some (oRid q)) 3 5 = some (.int q.2.2.2.2.2) := rfl
theorem poRid_5a {q : zRD} : zpf (some (oRid q)) 3 5 (.int 0) = some (oRid (q.1, q.2.1, q.2.2.1, q.2.2.2.1, q.2.2.2.2.1, 0)) := rfl
theorem poRid_5b {q : zRD} : zpf (some (oRid q)) 3 5 (.int 1) = some (oRid (q.1, q.2.1, q.2.2.1, q.2.2.2.1, q.2.2.2.2.1, 1)) := rfl
theorem poRid_5 {q : zRD} {x : Int32} (hx : x = 0 ∨ x = 1) : zpf (some (oRid q)) 3 5 (.int x) = some (oRid (q.1, q.2.1, q.2.2.1, q.2.2.2.1, q.2.2.2.2.1, x)) := by rcases hx with rfl | rfl <;> rfl
theorem coRid {q : zRD} : zoc (some (oRid q)) = some 3 := rfl
/-- the reference object; its ints: i0 fault, i1 lands, i2 riders, i3 creaksNow, i4 minuteNow, i5 shutNow, i6 readAt, i7 readCreaks, i8 readLands, i9 readRiders, i10 looks, i11 landsSeen, i12 minuteKept, i13 shutKept, i14 mostLands, i15 leastMinutes, i16 readings, i17 traceNow -/
def oMod (i0 i1 i2 i3 i4 i5 i6 i7 i8 i9 i10 i11 i12 i13 i14 i15 i16 i17 : Int32) : zPC := .inr (.inr (8, [.int i0, .int i1, .int i2, .int i3, .int i4, .int i5, .ref 45, .ref 46, .ref 47, .ref 48, .ref 49, .ref 50, .int i6, .int i7, .int i8, .int i9, .ref 51, .ref 52, .ref 53, .ref 54, .int i10, .int i11, .int i12, .int i13, .ref 55, .ref 56, .ref 57, .ref 58, .int i14, .int i15, .int i16, .ref 59, .ref 60, .ref 61, .ref 62, .ref 63, .ref 64, .ref 65, .int i17]))
theorem foMod_0 {i0 i1 i2 i3 i4 i5 i6 i7 i8 i9 i10 i11 i12 i13 i14 i15 i16 i17 : Int32} : zfd (some (oMod i0 i1 i2 i3 i4 i5 i6 i7 i8 i9 i10 i11 i12 i13 i14 i15 i16 i17)) 8 0 = some (.int i0) := rfl
theorem foMod_1 {i0 i1 i2 i3 i4 i5 i6 i7 i8 i9 i10 i11 i12 i13 i14 i15 i16 i17 : Int32} : zfd (some (oMod i0 i1 i2 i3 i4 i5 i6 i7 i8 i9 i10 i11 i12 i13 i14 i15 i16 i17)) 8 1 = some (.int i1) := rfl
theorem foMod_2 {i0 i1 i2 i3 i4 i5 i6 i7 i8 i9 i10 i11 i12 i13 i14 i15 i16 i17 : Int32} : zfd (some (oMod i0 i1 i2 i3 i4 i5 i6 i7 i8 i9 i10 i11 i12 i13 i14 i15 i16 i17)) 8 2 = some (.int i2) := rfl
theorem foMod_3 {i0 i1 i2 i3 i4 i5 i6 i7 i8 i9 i10 i11 i12 i13 i14 i15 i16 i17 : Int32} : zfd (some (oMod i0 i1 i2 i3 i4 i5 i6 i7 i8 i9 i10 i11 i12 i13 i14 i15 i16 i17)) 8 3 = some (.int i3) := rfl
theorem foMod_4 {i0 i1 i2 i3 i4 i5 i6 i7 i8 i9 i10 i11 i12 i13 i14 i15 i16 i17 : Int32} : zfd (some (oMod i0 i1 i2 i3 i4 i5 i6 i7 i8 i9 i10 i11 i12 i13 i14 i15 i16 i17)) 8 4 = some (.int i4) := rfl
theorem foMod_5 {i0 i1 i2 i3 i4 i5 i6 i7 i8 i9 i10 i11 i12 i13 i14 i15 i16 i17 : Int32} : zfd (some (oMod i0 i1 i2 i3 i4 i5 i6 i7 i8 i9 i10 i11 i12 i13 i14 i15 i16 i17)) 8 5 = some (.int i5) := rfl
theorem foMod_6 {i0 i1 i2 i3 i4 i5 i6 i7 i8 i9 i10 i11 i12 i13 i14 i15 i16 i17 : Int32} : zfd (some (oMod i0 i1 i2 i3 i4 i5 i6 i7 i8 i9 i10 i11 i12 i13 i14 i15 i16 i17)) 8 6 = some (.ref 45) := rfl
theorem foMod_7 {i0 i1 i2 i3 i4 i5 i6 i7 i8 i9 i10 i11 i12 i13 i14 i15 i16 i17 : Int32} : zfd (some (oMod i0 i1 i2 i3 i4 i5 i6 i7 i8 i9 i10 i11 i12 i13 i14 i15 i16 i17)) 8 7 = some (.ref 46) := rfl
theorem foMod_8 {i0 i1 i2 i3 i4 i5 i6 i7 i8 i9 i10 i11 i12 i13 i14 i15 i16 i17 : Int32} : zfd (some (oMod i0 i1 i2 i3 i4 i5 i6 i7 i8 i9 i10 i11 i12 i13 i14 i15 i16 i17)) 8 8 = some (.ref 47) := rfl
theorem foMod_9 {i0 i1 i2 i3 i4 i5 i6 i7 i8 i9 i10 i11 i12 i13 i14 i15 i16 i17 : Int32} : zfd (some (oMod i0 i1 i2 i3 i4 i5 i6 i7 i8 i9 i10 i11 i12 i13 i14 i15 i16 i17)) 8 9 = some (.ref 48) := rfl
theorem foMod_10 {i0 i1 i2 i3 i4 i5 i6 i7 i8 i9 i10 i11 i12 i13 i14 i15 i16 i17 : Int32} : zfd (some (oMod i0 i1 i2 i3 i4 i5 i6 i7 i8 i9 i10 i11 i12 i13 i14 i15 i16 i17)) 8 10 = some (.ref 49) := rfl
theorem foMod_11 {i0 i1 i2 i3 i4 i5 i6 i7 i8 i9 i10 i11 i12 i13 i14 i15 i16 i17 : Int32} : zfd (some (oMod i0 i1 i2 i3 i4 i5 i6 i7 i8 i9 i10 i11 i12 i13 i14 i15 i16 i17)) 8 11 = some (.ref 50) := rfl
theorem foMod_12 {i0 i1 i2 i3 i4 i5 i6 i7 i8 i9 i10 i11 i12 i13 i14 i15 i16 i17 : Int32} : zfd (some (oMod i0 i1 i2 i3 i4 i5 i6 i7 i8 i9 i10 i11 i12 i13 i14 i15 i16 i17)) 8 12 = some (.int i6) := rfl
theorem foMod_13 {i0 i1 i2 i3 i4 i5 i6 i7 i8 i9 i10 i11 i12 i13 i14 i15 i16 i17 : Int32} : zfd (some (oMod i0 i1 i2 i3 i4 i5 i6 i7 i8 i9 i10 i11 i12 i13 i14 i15 i16 i17)) 8 13 = some (.int i7) := rfl
theorem foMod_14 {i0 i1 i2 i3 i4 i5 i6 i7 i8 i9 i10 i11 i12 i13 i14 i15 i16 i17 : Int32} : zfd (some (oMod i0 i1 i2 i3 i4 i5 i6 i7 i8 i9 i10 i11 i12 i13 i14 i15 i16 i17)) 8 14 = some (.int i8) := rfl
theorem foMod_15 {i0 i1 i2 i3 i4 i5 i6 i7 i8 i9 i10 i11 i12 i13 i14 i15 i16 i17 : Int32} : zfd (some (oMod i0 i1 i2 i3 i4 i5 i6 i7 i8 i9 i10 i11 i12 i13 i14 i15 i16 i17)) 8 15 = some (.int i9) := rfl
theorem foMod_16 {i0 i1 i2 i3 i4 i5 i6 i7 i8 i9 i10 i11 i12 i13 i14 i15 i16 i17 : Int32} : zfd (some (oMod i0 i1 i2 i3 i4 i5 i6 i7 i8 i9 i10 i11 i12 i13 i14 i15 i16 i17)) 8 16 = some (.ref 51) := rfl
theorem foMod_17 {i0 i1 i2 i3 i4 i5 i6 i7 i8 i9 i10 i11 i12 i13 i14 i15 i16 i17 : Int32} : zfd (some (oMod i0 i1 i2 i3 i4 i5 i6 i7 i8 i9 i10 i11 i12 i13 i14 i15 i16 i17)) 8 17 = some (.ref 52) := rfl
theorem foMod_18 {i0 i1 i2 i3 i4 i5 i6 i7 i8 i9 i10 i11 i12 i13 i14 i15 i16 i17 : Int32} : zfd (some (oMod i0 i1 i2 i3 i4 i5 i6 i7 i8 i9 i10 i11 i12 i13 i14 i15 i16 i17)) 8 18 = some (.ref 53) := rfl
theorem foMod_19 {i0 i1 i2 i3 i4 i5 i6 i7 i8 i9 i10 i11 i12 i13 i14 i15 i16 i17 : Int32} : zfd (some (oMod i0 i1 i2 i3 i4 i5 i6 i7 i8 i9 i10 i11 i12 i13 i14 i15 i16 i17)) 8 19 = some (.ref 54) := rfl
theorem foMod_20 {i0 i1 i2 i3 i4 i5 i6 i7 i8 i9 i10 i11 i12 i13 i14 i15 i16 i17 : Int32} : zfd (some (oMod i0 i1 i2 i3 i4 i5 i6 i7 i8 i9 i10 i11 i12 i13 i14 i15 i16 i17)) 8 20 = some (.int i10) := rfl
theorem foMod_21 {i0 i1 i2 i3 i4 i5 i6 i7 i8 i9 i10 i11 i12 i13 i14 i15 i16 i17 : Int32} : zfd (some (oMod i0 i1 i2 i3 i4 i5 i6 i7 i8 i9 i10 i11 i12 i13 i14 i15 i16 i17)) 8 21 = some (.int i11) := rfl
theorem foMod_22 {i0 i1 i2 i3 i4 i5 i6 i7 i8 i9 i10 i11 i12 i13 i14 i15 i16 i17 : Int32} : zfd (some (oMod i0 i1 i2 i3 i4 i5 i6 i7 i8 i9 i10 i11 i12 i13 i14 i15 i16 i17)) 8 22 = some (.int i12) := rfl
theorem foMod_23 {i0 i1 i2 i3 i4 i5 i6 i7 i8 i9 i10 i11 i12 i13 i14 i15 i16 i17 : Int32} : zfd (some (oMod i0 i1 i2 i3 i4 i5 i6 i7 i8 i9 i10 i11 i12 i13 i14 i15 i16 i17)) 8 23 = some (.int i13) := rfl
theorem foMod_24 {i0 i1 i2 i3 i4 i5 i6 i7 i8 i9 i10 i11 i12 i13 i14 i15 i16 i17 : Int32} : zfd (some (oMod i0 i1 i2 i3 i4 i5 i6 i7 i8 i9 i10 i11 i12 i13 i14 i15 i16 i17)) 8 24 = some (.ref 55) := rfl
theorem foMod_25 {i0 i1 i2 i3 i4 i5 i6 i7 i8 i9 i10 i11 i12 i13 i14 i15 i16 i17 : Int32} : zfd (some (oMod i0 i1 i2 i3 i4 i5 i6 i7 i8 i9 i10 i11 i12 i13 i14 i15 i16 i17)) 8 25 = some (.ref 56) := rfl
theorem foMod_26 {i0 i1 i2 i3 i4 i5 i6 i7 i8 i9 i10 i11 i12 i13 i14 i15 i16 i17 : Int32} : zfd (some (oMod i0 i1 i2 i3 i4 i5 i6 i7 i8 i9 i10 i11 i12 i13 i14 i15 i16 i17)) 8 26 = some (.ref 57) := rfl
theorem foMod_27 {i0 i1 i2 i3 i4 i5 i6 i7 i8 i9 i10 i11 i12 i13 i14 i15 i16 i17 : Int32} : zfd (some (oMod i0 i1 i2 i3 i4 i5 i6 i7 i8 i9 i10 i11 i12 i13 i14 i15 i16 i17)) 8 27 = some (.ref 58) := rfl
theorem foMod_28 {i0 i1 i2 i3 i4 i5 i6 i7 i8 i9 i10 i11 i12 i13 i14 i15 i16 i17 : Int32} : zfd (some (oMod i0 i1 i2 i3 i4 i5 i6 i7 i8 i9 i10 i11 i12 i13 i14 i15 i16 i17)) 8 28 = some (.int i14) := rfl
theorem foMod_29 {i0 i1 i2 i3 i4 i5 i6 i7 i8 i9 i10 i11 i12 i13 i14 i15 i16 i17 : Int32} : zfd (some (oMod i0 i1 i2 i3 i4 i5 i6 i7 i8 i9 i10 i11 i12 i13 i14 i15 i16 i17)) 8 29 = some (.int i15) := rfl
theorem foMod_30 {i0 i1 i2 i3 i4 i5 i6 i7 i8 i9 i10 i11 i12 i13 i14 i15 i16 i17 : Int32} : zfd (some (oMod i0 i1 i2 i3 i4 i5 i6 i7 i8 i9 i10 i11 i12 i13 i14 i15 i16 i17)) 8 30 = some (.int i16) := rfl
theorem foMod_31 {i0 i1 i2 i3 i4 i5 i6 i7 i8 i9 i10 i11 i12 i13 i14 i15 i16 i17 : Int32} : zfd (some (oMod i0 i1 i2 i3 i4 i5 i6 i7 i8 i9 i10 i11 i12 i13 i14 i15 i16 i17)) 8 31 = some (.ref 59) := rfl
theorem foMod_32 {i0 i1 i2 i3 i4 i5 i6 i7 i8 i9 i10 i11 i12 i13 i14 i15 i16 i17 : Int32} : zfd (some (oMod i0 i1 i2 i3 i4 i5 i6 i7 i8 i9 i10 i11 i12 i13 i14 i15 i16 i17)) 8 32 = some (.ref 60) := rfl
theorem foMod_33 {i0 i1 i2 i3 i4 i5 i6 i7 i8 i9 i10 i11 i12 i13 i14 i15 i16 i17 : Int32} : zfd (some (oMod i0 i1 i2 i3 i4 i5 i6 i7 i8 i9 i10 i11 i12 i13 i14 i15 i16 i17)) 8 33 = some (.ref 61) := rfl
theorem foMod_34 {i0 i1 i2 i3 i4 i5 i6 i7 i8 i9 i10 i11 i12 i13 i14 i15 i16 i17 : Int32} : zfd (some (oMod i0 i1 i2 i3 i4 i5 i6 i7 i8 i9 i10 i11 i12 i13 i14 i15 i16 i17)) 8 34 = some (.ref 62) := rfl
theorem foMod_35 {i0 i1 i2 i3 i4 i5 i6 i7 i8 i9 i10 i11 i12 i13 i14 i15 i16 i17 : Int32} : zfd (some (oMod i0 i1 i2 i3 i4 i5 i6 i7 i8 i9 i10 i11 i12 i13 i14 i15 i16 i17)) 8 35 = some (.ref 63) := rfl
theorem foMod_36 {i0 i1 i2 i3 i4 i5 i6 i7 i8 i9 i10 i11 i12 i13 i14 i15 i16 i17 : Int32} : zfd (some (oMod i0 i1 i2 i3 i4 i5 i6 i7 i8 i9 i10 i11 i12 i13 i14 i15 i16 i17)) 8 36 = some (.ref 64) := rfl
theorem foMod_37 {i0 i1 i2 i3 i4 i5 i6 i7 i8 i9 i10 i11 i12 i13 i14 i15 i16 i17 : Int32} : zfd (some (oMod i0 i1 i2 i3 i4 i5 i6 i7 i8 i9 i10 i11 i12 i13 i14 i15 i16 i17)) 8 37 = some (.ref 65) := rfl
theorem foMod_38 {i0 i1 i2 i3 i4 i5 i6 i7 i8 i9 i10 i11 i12 i13 i14 i15 i16 i17 : Int32} : zfd (some (oMod i0 i1 i2 i3 i4 i5 i6 i7 i8 i9 i10 i11 i12 i13 i14 i15 i16 i17)) 8 38 = some (.int i17) := rfl
theorem poMod_0 {i0 i1 i2 i3 i4 i5 i6 i7 i8 i9 i10 i11 i12 i13 i14 i15 i16 i17 x : Int32} : zpf (some (oMod i0 i1 i2 i3 i4 i5 i6 i7 i8 i9 i10 i11 i12 i13 i14 i15 i16 i17)) 8 0 (.int x) = some (oMod x i1 i2 i3 i4 i5 i6 i7 i8 i9 i10 i11 i12 i13 i14 i15 i16 i17) := rfl
theorem poMod_1 {i0 i1 i2 i3 i4 i5 i6 i7 i8 i9 i10 i11 i12 i13 i14 i15 i16 i17 x : Int32} : zpf (some (oMod i0 i1 i2 i3 i4 i5 i6 i7 i8 i9 i10 i11 i12 i13 i14 i15 i16 i17)) 8 1 (.int x) = some (oMod i0 x i2 i3 i4 i5 i6 i7 i8 i9 i10 i11 i12 i13 i14 i15 i16 i17) := rfl
theorem poMod_2 {i0 i1 i2 i3 i4 i5 i6 i7 i8 i9 i10 i11 i12 i13 i14 i15 i16 i17 x : Int32} : zpf (some (oMod i0 i1 i2 i3 i4 i5 i6 i7 i8 i9 i10 i11 i12 i13 i14 i15 i16 i17)) 8 2 (.int x) = some (oMod i0 i1 x i3 i4 i5 i6 i7 i8 i9 i10 i11 i12 i13 i14 i15 i16 i17) := rfl
theorem poMod_3 {i0 i1 i2 i3 i4 i5 i6 i7 i8 i9 i10 i11 i12 i13 i14 i15 i16 i17 x : Int32} : zpf (some (oMod i0 i1 i2 i3 i4 i5 i6 i7 i8 i9 i10 i11 i12 i13 i14 i15 i16 i17)) 8 3 (.int x) = some (oMod i0 i1 i2 x i4 i5 i6 i7 i8 i9 i10 i11 i12 i13 i14 i15 i16 i17) := rfl
theorem poMod_4 {i0 i1 i2 i3 i4 i5 i6 i7 i8 i9 i10 i11 i12 i13 i14 i15 i16 i17 x : Int32} : zpf (some (oMod i0 i1 i2 i3 i4 i5 i6 i7 i8 i9 i10 i11 i12 i13 i14 i15 i16 i17)) 8 4 (.int x) = some (oMod i0 i1 i2 i3 x i5 i6 i7 i8 i9 i10 i11 i12 i13 i14 i15 i16 i17) := rfl
theorem poMod_5 {i0 i1 i2 i3 i4 i5 i6 i7 i8 i9 i10 i11 i12 i13 i14 i15 i16 i17 x : Int32} : zpf (some (oMod i0 i1 i2 i3 i4 i5 i6 i7 i8 i9 i10 i11 i12 i13 i14 i15 i16 i17)) 8 5 (.int x) = some (oMod i0 i1 i2 i3 i4 x i6 i7 i8 i9 i10 i11 i12 i13 i14 i15 i16 i17) := rfl
theorem poMod_12 {i0 i1 i2 i3 i4 i5 i6 i7 i8 i9 i10 i11 i12 i13 i14 i15 i16 i17 x : Int32} : zpf (some (oMod i0 i1 i2 i3 i4 i5 i6 i7 i8 i9 i10 i11 i12 i13 i14 i15 i16 i17)) 8 12 (.int x) = some (oMod i0 i1 i2 i3 i4 i5 x i7 i8 i9 i10 i11 i12 i13 i14 i15 i16 i17) := rfl
theorem poMod_13 {i0 i1 i2 i3 i4 i5 i6 i7 i8 i9 i10 i11 i12 i13 i14 i15 i16 i17 x : Int32} : zpf (some (oMod i0 i1 i2 i3 i4 i5 i6 i7 i8 i9 i10 i11 i12 i13 i14 i15 i16 i17)) 8 13 (.int x) = some (oMod i0 i1 i2 i3 i4 i5 i6 x i8 i9 i10 i11 i12 i13 i14 i15 i16 i17) := rfl
theorem poMod_14 {i0 i1 i2 i3 i4 i5 i6 i7 i8 i9 i10 i11 i12 i13 i14 i15 i16 i17 x : Int32} : zpf (some (oMod i0 i1 i2 i3 i4 i5 i6 i7 i8 i9 i10 i11 i12 i13 i14 i15 i16 i17)) 8 14 (.int x) = some (oMod i0 i1 i2 i3 i4 i5 i6 i7 x i9 i10 i11 i12 i13 i14 i15 i16 i17) := rfl
theorem poMod_15 {i0 i1 i2 i3 i4 i5 i6 i7 i8 i9 i10 i11 i12 i13 i14 i15 i16 i17 x : Int32} : zpf (some (oMod i0 i1 i2 i3 i4 i5 i6 i7 i8 i9 i10 i11 i12 i13 i14 i15 i16 i17)) 8 15 (.int x) = some (oMod i0 i1 i2 i3 i4 i5 i6 i7 i8 x i10 i11 i12 i13 i14 i15 i16 i17) := rfl
theorem poMod_20 {i0 i1 i2 i3 i4 i5 i6 i7 i8 i9 i10 i11 i12 i13 i14 i15 i16 i17 x : Int32} : zpf (some (oMod i0 i1 i2 i3 i4 i5 i6 i7 i8 i9 i10 i11 i12 i13 i14 i15 i16 i17)) 8 20 (.int x) = some (oMod i0 i1 i2 i3 i4 i5 i6 i7 i8 i9 x i11 i12 i13 i14 i15 i16 i17) := rfl
theorem poMod_21 {i0 i1 i2 i3 i4 i5 i6 i7 i8 i9 i10 i11 i12 i13 i14 i15 i16 i17 x : Int32} : zpf (some (oMod i0 i1 i2 i3 i4 i5 i6 i7 i8 i9 i10 i11 i12 i13 i14 i15 i16 i17)) 8 21 (.int x) = some (oMod i0 i1 i2 i3 i4 i5 i6 i7 i8 i9 i10 x i12 i13 i14 i15 i16 i17) := rfl
theorem poMod_22 {i0 i1 i2 i3 i4 i5 i6 i7 i8 i9 i10 i11 i12 i13 i14 i15 i16 i17 x : Int32} : zpf (some (oMod i0 i1 i2 i3 i4 i5 i6 i7 i8 i9 i10 i11 i12 i13 i14 i15 i16 i17)) 8 22 (.int x) = some (oMod i0 i1 i2 i3 i4 i5 i6 i7 i8 i9 i10 i11 x i13 i14 i15 i16 i17) := rfl
theorem poMod_23 {i0 i1 i2 i3 i4 i5 i6 i7 i8 i9 i10 i11 i12 i13 i14 i15 i16 i17 x : Int32} : zpf (some (oMod i0 i1 i2 i3 i4 i5 i6 i7 i8 i9 i10 i11 i12 i13 i14 i15 i16 i17)) 8 23 (.int x) = some (oMod i0 i1 i2 i3 i4 i5 i6 i7 i8 i9 i10 i11 i12 x i14 i15 i16 i17) := rfl
theorem poMod_28 {i0 i1 i2 i3 i4 i5 i6 i7 i8 i9 i10 i11 i12 i13 i14 i15 i16 i17 x : Int32} : zpf (some (oMod i0 i1 i2 i3 i4 i5 i6 i7 i8 i9 i10 i11 i12 i13 i14 i15 i16 i17)) 8 28 (.int x) = some (oMod i0 i1 i2 i3 i4 i5 i6 i7 i8 i9 i10 i11 i12 i13 x i15 i16 i17) := rfl
theorem poMod_29 {i0 i1 i2 i3 i4 i5 i6 i7 i8 i9 i10 i11 i12 i13 i14 i15 i16 i17 x : Int32} : zpf (some (oMod i0 i1 i2 i3 i4 i5 i6 i7 i8 i9 i10 i11 i12 i13 i14 i15 i16 i17)) 8 29 (.int x) = some (oMod i0 i1 i2 i3 i4 i5 i6 i7 i8 i9 i10 i11 i12 i13 i14 x i16 i17) := rfl
theorem poMod_30 {i0 i1 i2 i3 i4 i5 i6 i7 i8 i9 i10 i11 i12 i13 i14 i15 i16 i17 x : Int32} : zpf (some (oMod i0 i1 i2 i3 i4 i5 i6 i7 i8 i9 i10 i11 i12 i13 i14 i15 i16 i17)) 8 30 (.int x) = some (oMod i0 i1 i2 i3 i4 i5 i6 i7 i8 i9 i10 i11 i12 i13 i14 i15 x i17) := rfl
theorem poMod_38 {i0 i1 i2 i3 i4 i5 i6 i7 i8 i9 i10 i11 i12 i13 i14 i15 i16 i17 x : Int32} : zpf (some (oMod i0 i1 i2 i3 i4 i5 i6 i7 i8 i9 i10 i11 i12 i13 i14 i15 i16 i17)) 8 38 (.int x) = some (oMod i0 i1 i2 i3 i4 i5 i6 i7 i8 i9 i10 i11 i12 i13 i14 i15 i16 x) := rfl
theorem coMod {i0 i1 i2 i3 i4 i5 i6 i7 i8 i9 i10 i11 i12 i13 i14 i15 i16 i17 : Int32} : zoc (some (oMod i0 i1 i2 i3 i4 i5 i6 i7 i8 i9 i10 i11 i12 i13 i14 i15 i16 i17)) = some 8 := rfl
theorem zia_in {n j : Nat} {f : Nat → Int32} (h : j < n) (hn : n < 2 ^ 31) : zia (some (.inl (n, f))) (nI j) = some (f j) := by
  have h1 := nI_in h hn
  have h2 := nI_clamp (show j < 2 ^ 31 by omega)
  simp only [zia]
  rw [if_neg h1, h2]
theorem zis_in {n j : Nat} {f : Nat → Int32} {x : Int32} (h : j < n) (hn : n < 2 ^ 31) : zis (some (.inl (n, f))) (nI j) x = some (.inl (n, upd f j x)) := by
  have h1 := nI_in h hn
  have h2 := nI_clamp (show j < 2 ^ 31 by omega)
  simp only [zis]
  rw [if_neg h1, h2]
theorem zaa_in {k n j : Nat} {f : Nat → Option Nat} (h : j < n) (hn : n < 2 ^ 31) : zaa (some (.inr (.inl (k, n, f)))) (nI j) = some (va_rf (f j)) := by
  have h1 := nI_in h hn
  have h2 := nI_clamp (show j < 2 ^ 31 by omega)
  simp only [zaa]
  rw [if_neg h1, h2]
theorem zal_i {n : Nat} {f : Nat → Int32} : zal (some (.inl (n, f))) = some (nI n) := rfl
theorem zal_r {k n : Nat} {f : Nat → Option Nat} : zal (some (.inr (.inl (k, n, f)))) = some (nI n) := rfl
theorem va_rf_s {a : Nat} : va_rf (some a) = .ref a := rfl
theorem va_rf_n : va_rf none = .null := rfl
theorem mget_self {M : zMem} {a : Nat} {c : zPC} : mget (mset M a c) a = some c := if_pos rfl
theorem mget_ne {M : zMem} {a b : Nat} {c : zPC} (h : b ≠ a) : mget (mset M a c) b = mget M b := if_neg h
theorem mset_mset {M : zMem} {a : Nat} {c d : zPC} : mset (mset M a c) a d = mset M a d := by
  unfold mset
  congr 2
  funext b
  by_cases h : b = a
  · simp only [if_pos h]
  · simp only [if_neg h]
theorem mset_same {M : zMem} {a : Nat} {c : zPC} (h : mget M a = some c) : mset M a c = M := by
  obtain ⟨n, z, f⟩ := M
  unfold mset
  congr 2
  funext b
  by_cases e : b = a
  · subst e
    rw [if_pos rfl]
    exact h.symm
  · rw [if_neg e]
theorem mset_comm {M : zMem} {a b : Nat} {c d : zPC} (h : a ≠ b) : mset (mset M a c) b d = mset (mset M b d) a c := by
  unfold mset
  congr 2
  funext q
  by_cases e : q = b
  · subst e
    simp only [if_true, if_neg (fun z => h z.symm : ¬ q = a)]
  · simp only [if_neg e]
