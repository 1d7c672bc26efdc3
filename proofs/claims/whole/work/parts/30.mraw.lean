/-! the methods of the reference as functions on the numbers that its cells hold; what each needs to be safe -/
/-- points: xs, ys, marks, how many, latest -/
abbrev MP : Type := (Nat → Int32) × (Nat → Int32) × (Nat → Int32) × Int32 × Int32
/-- pen: half, cap, join, limit -/
abbrev MT : Type := Int32 × Int32 × Int32 × Int64
/-- dashes: lengths, used, how many, offset -/
abbrev MD : Type := (Nat → Int32) × (Nat → Int32) × Int32 × Int32
/-- run: x, y, how many -/
abbrev MR : Type := (Nat → Int64) × (Nat → Int64) × Int32
/-- row: x, y, how many -/
abbrev MW : Type := (Nat → Int32) × (Nat → Int32) × Int32
/-- pieces: sorts, corners, how many, trouble -/
abbrev MS : Type := (Nat → Int32) × (Nat → Int32) × Int32 × Int32
/-- walk: taken, dash, left, gap, walked -/
abbrev MK : Type := Int32 × Int32 × Int64 × Int32 × Int32
theorem sq_hi3 {i M : Int32} {n : Nat} (h : ¬ M < i) (hM : M.toInt < (n : Int)) : i.toInt < (n : Int) := by
  rw [Int32.lt_iff_toInt_lt] at h
  omega
def mFar (v : Int64) : Int32 := if v < -536870912 then 1 else if v ≤ 536870912 then 0 else 1
def mPutR (p : MP) : Int32 := if p.2.2.2.1 = 2000 then (-3) else p.2.2.2.1 + 1
def mPut (x y k : Int32) (p : MP) : MP := if p.2.2.2.1 = 2000 then p else (upd p.1 p.2.2.2.1.toNatClampNeg x, upd p.2.1 p.2.2.2.1.toNatClampNeg y, upd p.2.2.1 p.2.2.2.1.toNatClampNeg (vp_nar .byte (k.toInt8.toInt32)), p.2.2.2.1 + 1, p.2.2.2.2)
def mpOk (p : MP) : Prop := (0 ≤ p.2.2.2.1.toInt ∧ p.2.2.2.1.toInt ≤ 2000) ∧ 0 ≤ p.2.2.2.2.toInt ∧ p.2.2.2.2.toInt < 2000
theorem sq_ne {i M : Int32} (h : ¬ i = M) : ¬ i.toInt = M.toInt := fun e => h (Int32.toInt_inj.mp e)
theorem mp_in {p : MP} (h : mpOk p) (hn : ¬ p.2.2.2.1 = 2000) : vp_in p.2.2.2.1 2000 := by
  have h1 := sq_ne hn
  have h2 : (2000 : Int32).toInt = 2000 := rfl
  have h3 := h.1
  exact sq_in h3.1 (by omega)
theorem mp_la {p : MP} (h : mpOk p) : vp_in p.2.2.2.2 2000 := sq_in h.2.1 h.2.2
def mLatest (p : MP) : MP := (p.1, p.2.1, p.2.2.1, p.2.2.2.1, p.2.2.2.1 - 1)
def mMoveR (x y : Int32) (p : MP) : Int32 := if mFar x.toInt64 = 0 then (if mFar y.toInt64 = 0 then mPutR p else (-4)) else (-4)
def mMove (x y : Int32) (p : MP) : MP := if mFar x.toInt64 = 0 then (if mFar y.toInt64 = 0 then (if mPutR p ≤ 0 then mPut x y 1 p else mLatest (mPut x y 1 p)) else p) else p
def mLineR (x y : Int32) (p : MP) : Int32 := if p.2.2.2.1 = 0 then (-2) else if p.2.2.1 p.2.2.2.2.toNatClampNeg = 3 then (-2) else if mFar x.toInt64 = 0 then (if mFar y.toInt64 = 0 then mPutR p else (-4)) else (-4)
def mLine (x y : Int32) (p : MP) : MP := if p.2.2.2.1 = 0 then p else if p.2.2.1 p.2.2.2.2.toNatClampNeg = 3 then p else if mFar x.toInt64 = 0 then (if mFar y.toInt64 = 0 then mPut x y 0 p else p) else p
def mCloseR (p : MP) : Int32 := if p.2.2.2.1 = 0 then (-2) else p.2.2.2.1
def mClose (p : MP) : MP := if p.2.2.2.1 = 0 then p else (p.1, p.2.1, upd p.2.2.1 p.2.2.2.2.toNatClampNeg (vp_nar .byte 3), p.2.2.2.1, p.2.2.2.2)
def mClear (p : MP) : MP := (p.1, p.2.1, p.2.2.1, 0, p.2.2.2.2)
def mEmpty (S : MS) : MS := (S.1, S.2.1, 0, S.2.2.2)
def mPenOk (h c j m : Int32) : Int32 := if h < 1 then 0 else if 4194304 < h then 0 else if c < 0 then 0 else if 1 < c then 0 else if j < 0 then 0 else if 1 < j then 0 else if m < 65536 then 0 else if m ≤ 6553600 then 1 else 0
def mPen (h c j m : Int32) (t : MT) : MT := if mPenOk h c j m = 0 then t else (h, c, j, m.toInt64)
def mLenOk (k v : Int32) : Int32 := if k < 0 then 0 else if 7 < k then 0 else if v < 0 then 0 else if v.toInt64 ≤ 536870912 then 1 else 0
def mLen (k v : Int32) (d : MD) : MD := if mLenOk k v = 0 then d else (upd d.1 k.toNatClampNeg v, d.2.1, d.2.2.1, d.2.2.2)
def mDashOk (n o : Int32) (d : MD) : Int32 := if n < 0 then 0 else if 8 < n then 0 else if o < 0 then 0 else if o.toInt64 ≤ 536870912 then (if n ≤ 0 then 1 else if ptSum d.1 n 9 0 0 = 0 then 0 else 1) else 0
def mDash (n o : Int32) (d : MD) : MD := if mDashOk n o d = 0 then d else (d.1, ptCopy d.1 n 9 0 d.2.1, n, o)
def mRound (a b : Int64) : Int64 := kFloor (2 * a + b) (2 * b)
def mMid (lo hi : Int64) : Int64 := (lo + hi) >>> ((1 : Int32).toInt64 &&& 63)
def mRootL (v : Int64) : Nat → Int64 → Int64 → Int64
  | 0, lo, _ => lo
  | n + 1, lo, hi => if hi - lo ≤ 1 then lo else if v < mMid lo hi * mMid lo hi then mRootL v n lo (mMid lo hi) else mRootL v n (mMid lo hi) hi
def mRoot (v : Int64) : Int64 := mRootL v 32 0 2147483648
def mRootI (n : Nat) (lo hi : Int64) : Prop := ∃ k, n = k + 1 ∧ hi.toInt = lo.toInt + ((2 ^ k : Nat) : Int) ∧ 0 ≤ lo.toInt ∧ hi.toInt ≤ 2147483648
theorem mRootI.mid {n : Nat} {lo hi : Int64} (h : mRootI (n + 1) lo hi) (hc : ¬ hi - lo ≤ 1) : mRootI n lo (mMid lo hi) ∧ mRootI n (mMid lo hi) hi := by
  obtain ⟨k, e, h1, h2, h3⟩ := h
  have e : n = k := Nat.succ.inj e
  subst e
  have h5 : lo.toInt ≤ hi.toInt := by rw [h1]; exact Int.le_add_of_nonneg_right (Int.natCast_nonneg _)
  rw [Int64.le_iff_toInt_le, jn_sub (by omega) (by omega)] at hc
  have h4 : (1 : Int64).toInt = 1 := rfl
  rw [h4] at hc
  cases n with
  | zero => exact absurd h1 (by simp; omega)
  | succ j =>
    have e1 : ((2 ^ (j + 1) : Nat) : Int) = 2 * ((2 ^ j : Nat) : Int) := by rw [Nat.pow_succ]; simp; omega
    rw [e1] at h1
    have h6 : (0 : Int) ≤ ((2 ^ j : Nat) : Int) := Int.natCast_nonneg _
    have hm : (mMid lo hi).toInt = lo.toInt + ((2 ^ j : Nat) : Int) := by
      unfold mMid
      rw [sq_shr _ _ 1 (by decide), jn_add (by omega) (by omega), h1]
      have e2 : (2 : Int) ^ 1 = 2 := rfl
      rw [e2]
      omega
    exact ⟨⟨j, rfl, hm, h2, by omega⟩, ⟨j, rfl, by omega, by omega, h3⟩⟩
def mLenOf (x y : Int64) : Int64 := mRoot (x * x + y * y)
def mDx (i : Int32) (r : MR) : Int64 := r.1 (i + 1).toNatClampNeg - r.1 i.toNatClampNeg
def mDy (i : Int32) (r : MR) : Int64 := r.2.1 (i + 1).toNatClampNeg - r.2.1 i.toNatClampNeg
def mSz (i : Int32) (r : MR) : Int64 := mLenOf (mDx i r) (mDy i r)
/-- a segment's number lies in the run's arrays -/
def mIx (i : Int32) : Prop := 0 ≤ i.toInt ∧ i.toInt < 2003
theorem mIx.a {i : Int32} (h : mIx i) : vp_in i 2004 := sq_in h.1 (by have := h.2; omega)
theorem mIx.b {i : Int32} (h : mIx i) : vp_in (i + 1) 2004 := by
  have h1 := h.1
  have h2 := h.2
  refine sq_in ?_ ?_ <;> rw [sq_succ h1 (by omega)] <;> omega
/-- a segment can be used: its length is not 0 -/
def mRunS (i : Int32) (r : MR) : Prop := mIx i ∧ ¬ 2 * mSz i r = 0
def mAcross (i y : Int32) (t : MT) (r : MR) : Int64 := mRound ((if y = 0 then -(mDy i r) else mDx i r) * t.1.toInt64) (mSz i r)
def mAlong (i y : Int32) (t : MT) (r : MR) : Int64 := mRound ((if y = 0 then mDx i r else mDy i r) * t.1.toInt64) (mSz i r)
/-- the pieces' number lies in its range -/
def msOk (S : MS) : Prop := 0 ≤ S.2.2.1.toInt ∧ S.2.2.1.toInt ≤ 2000
def msIn (S : MS) : Prop := 0 ≤ S.2.2.1.toInt ∧ S.2.2.1.toInt < 2000
def mCorT (x y : Int64) (S : MS) : MS := if mFar x = 0 then (if mFar y = 0 then S else (S.1, S.2.1, S.2.2.1, if S.2.2.2 = 0 then (-4) else S.2.2.2)) else (S.1, S.2.1, S.2.2.1, if S.2.2.2 = 0 then (-4) else S.2.2.2)
def mCorner (k : Int32) (x y : Int64) (S : MS) : MS :=
  if (mCorT x y S).2.2.2 = 0 then ((mCorT x y S).1, upd (upd (mCorT x y S).2.1 (8 * (mCorT x y S).2.2.1 + 2 * k).toNatClampNeg x.toInt32) (8 * (mCorT x y S).2.2.1 + 2 * k + 1).toNatClampNeg y.toInt32, (mCorT x y S).2.2.1, (mCorT x y S).2.2.2) else mCorT x y S
theorem mCorT_n (x y : Int64) (S : MS) : (mCorT x y S).2.2.1 = S.2.2.1 := by
  unfold mCorT
  split
  · split <;> rfl
  · rfl
theorem mCorner_n (k : Int32) (x y : Int64) (S : MS) : (mCorner k x y S).2.2.1 = S.2.2.1 := by
  unfold mCorner
  split
  · exact mCorT_n x y S
  · exact mCorT_n x y S
theorem msIn.corT {x y : Int64} {S : MS} (h : msIn S) : msIn (mCorT x y S) := by
  unfold msIn
  rw [mCorT_n]
  exact h
theorem msIn.corner {k : Int32} {x y : Int64} {S : MS} (h : msIn S) : msIn (mCorner k x y S) := by
  unfold msIn
  rw [mCorner_n]
  exact h
/-- a corner's number -/
def mKs (k : Int32) : Prop := 0 ≤ k.toInt ∧ k.toInt ≤ 3
theorem ms_at {k n : Int32} (hk : mKs k) (hn : 0 ≤ n.toInt ∧ n.toInt < 2000) : (8 * n + 2 * k).toInt = 8 * n.toInt + 2 * k.toInt := by
  have h8 : (8 : Int32).toInt = 8 := rfl
  have h2 : (2 : Int32).toInt = 2 := rfl
  have hk1 := hk.1
  have hk2 := hk.2
  have e1 : (2 : Nat) ^ 32 = 4294967296 := rfl
  rw [Int32.toInt_add, Int32.toInt_mul, Int32.toInt_mul, h8, h2, e1, Int.bmod_def, Int.bmod_def, Int.bmod_def]
  split <;> split <;> split <;> omega
theorem ms_i0 {k n : Int32} (hk : mKs k) (hn : 0 ≤ n.toInt ∧ n.toInt < 2000) : vp_in (8 * n + 2 * k) 16000 := by
  have h := ms_at hk hn
  have hk1 := hk.1
  have hk2 := hk.2
  exact sq_in (by omega) (by omega)
theorem ms_i1 {k n : Int32} (hk : mKs k) (hn : 0 ≤ n.toInt ∧ n.toInt < 2000) : vp_in (8 * n + 2 * k + 1) 16000 := by
  have h := ms_at hk hn
  have hk1 := hk.1
  have hk2 := hk.2
  refine sq_in ?_ ?_ <;> rw [sq_succ (by omega) (by omega)] <;> omega
def mBegT (S : MS) : MS := if S.2.2.2 = 0 then (if S.2.2.1 = 2000 then (S.1, S.2.1, S.2.2.1, (-3)) else S) else S
def mBegR (S : MS) : Int32 := if (mBegT S).2.2.2 = 0 then 1 else 0
def mBeg (k : Int32) (S : MS) : MS := if (mBegT S).2.2.2 = 0 then (upd (mBegT S).1 (mBegT S).2.2.1.toNatClampNeg (vp_nar .byte (k.toInt8.toInt32)), (mBegT S).2.1, (mBegT S).2.2.1, (mBegT S).2.2.2) else mBegT S
theorem mBegT_n (S : MS) : (mBegT S).2.2.1 = S.2.2.1 := by
  unfold mBegT
  split
  · split <;> rfl
  · rfl
theorem mBeg_n (k : Int32) (S : MS) : (mBeg k S).2.2.1 = S.2.2.1 := by
  unfold mBeg
  split
  · exact mBegT_n S
  · exact mBegT_n S
theorem mBegT_in {S : MS} (h : msOk S) (hc : (mBegT S).2.2.2 = 0) : msIn (mBegT S) := by
  have h1 := mBegT_n S
  unfold msIn
  rw [h1]
  refine ⟨h.1, ?_⟩
  have h2 := h.2
  unfold mBegT at hc
  split at hc
  · split at hc
    · exact absurd hc (show ¬ ((-3 : Int32) = 0) by decide)
    · next hn =>
      have h3 := sq_ne hn
      have h4 : (2000 : Int32).toInt = 2000 := rfl
      omega
  · exact absurd hc (by assumption)
theorem mBeg_in {k : Int32} {S : MS} (h : msOk S) (hc : ¬ mBegR S = 0) : msIn (mBeg k S) := by
  unfold msIn
  rw [mBeg_n]
  have h1 : (mBegT S).2.2.2 = 0 := by
    unfold mBegR at hc
    split at hc
    · assumption
    · exact absurd rfl hc
  have h2 := mBegT_in h h1
  unfold msIn at h2
  rw [mBegT_n] at h2
  exact h2
theorem mBeg_ok {k : Int32} {S : MS} (h : msOk S) : msOk (mBeg k S) := by
  unfold msOk
  rw [mBeg_n]
  exact h
def mEnd (S : MS) : MS := (S.1, S.2.1, S.2.2.1 + (if S.2.2.2 = 0 then 1 else 0), S.2.2.2)
theorem msIn.fin {S : MS} (h : msIn S) : msOk (mEnd S) := by
  have h1 := h.1
  have h2 := h.2
  unfold msOk mEnd
  show 0 ≤ (S.2.2.1 + (if S.2.2.2 = 0 then 1 else 0)).toInt ∧ (S.2.2.1 + (if S.2.2.2 = 0 then 1 else 0)).toInt ≤ 2000
  split
  · rw [sq_succ h1 (by omega)]; omega
  · rw [Int32.add_zero]; omega
theorem msIn.ok {S : MS} (h : msIn S) : msOk S := ⟨h.1, by have := h.2; omega⟩
def mSide (i : Int32) (t : MT) (r : MR) (S : MS) : MS :=
  if mBegR S = 0 then mBeg 0 S else
  mEnd (mCorner 3 (r.1 i.toNatClampNeg - mAcross i 0 t r) (r.2.1 i.toNatClampNeg - mAcross i 1 t r) (mCorner 2 (r.1 (i + 1).toNatClampNeg - mAcross i 0 t r) (r.2.1 (i + 1).toNatClampNeg - mAcross i 1 t r)
    (mCorner 1 (r.1 (i + 1).toNatClampNeg + mAcross i 0 t r) (r.2.1 (i + 1).toNatClampNeg + mAcross i 1 t r) (mCorner 0 (r.1 i.toNatClampNeg + mAcross i 0 t r) (r.2.1 i.toNatClampNeg + mAcross i 1 t r) (mBeg 0 S)))))
def mCapE (i : Int32) (t : MT) (r : MR) (S : MS) : MS :=
  if t.2.1 = 0 then S else if mBegR S = 0 then mBeg 3 S else
  mEnd (mCorner 3 (r.1 (i + 1).toNatClampNeg - mAcross i 0 t r) (r.2.1 (i + 1).toNatClampNeg - mAcross i 1 t r) (mCorner 2 (r.1 (i + 1).toNatClampNeg - mAcross i 0 t r + mAlong i 0 t r) (r.2.1 (i + 1).toNatClampNeg - mAcross i 1 t r + mAlong i 1 t r)
    (mCorner 1 (r.1 (i + 1).toNatClampNeg + mAcross i 0 t r + mAlong i 0 t r) (r.2.1 (i + 1).toNatClampNeg + mAcross i 1 t r + mAlong i 1 t r) (mCorner 0 (r.1 (i + 1).toNatClampNeg + mAcross i 0 t r) (r.2.1 (i + 1).toNatClampNeg + mAcross i 1 t r) (mBeg 3 S)))))
def mCapB (t : MT) (r : MR) (S : MS) : MS :=
  if t.2.1 = 0 then S else if mBegR S = 0 then mBeg 3 S else
  mEnd (mCorner 3 (r.1 (0 : Int32).toNatClampNeg + mAcross 0 0 t r) (r.2.1 (0 : Int32).toNatClampNeg + mAcross 0 1 t r) (mCorner 2 (r.1 (0 : Int32).toNatClampNeg + mAcross 0 0 t r - mAlong 0 0 t r) (r.2.1 (0 : Int32).toNatClampNeg + mAcross 0 1 t r - mAlong 0 1 t r)
    (mCorner 1 (r.1 (0 : Int32).toNatClampNeg - mAcross 0 0 t r - mAlong 0 0 t r) (r.2.1 (0 : Int32).toNatClampNeg - mAcross 0 1 t r - mAlong 0 1 t r) (mCorner 0 (r.1 (0 : Int32).toNatClampNeg - mAcross 0 0 t r) (r.2.1 (0 : Int32).toNatClampNeg - mAcross 0 1 t r) (mBeg 3 S)))))
theorem mSide_ok {i : Int32} {t : MT} {r : MR} {S : MS} (h : msOk S) : msOk (mSide i t r S) := by
  unfold mSide
  split
  · exact mBeg_ok h
  · next hc => exact (mBeg_in h hc).corner.corner.corner.corner.fin
theorem mCapE_ok {i : Int32} {t : MT} {r : MR} {S : MS} (h : msOk S) : msOk (mCapE i t r S) := by
  unfold mCapE
  split
  · exact h
  · split
    · exact mBeg_ok h
    · next hc => exact (mBeg_in h hc).corner.corner.corner.corner.fin
theorem mCapB_ok {t : MT} {r : MR} {S : MS} (h : msOk S) : msOk (mCapB t r S) := by
  unfold mCapB
  split
  · exact h
  · split
    · exact mBeg_ok h
    · next hc => exact (mBeg_in h hc).corner.corner.corner.corner.fin
def mTurn (i j : Int32) (r : MR) : Int64 := mDx i r * mDy j r - mDy i r * mDx j r
def mOut (i j : Int32) (r : MR) : Int64 := if mTurn i j r ≤ 0 then 1 else -1
def mCos (i j : Int32) (t : MT) (r : MR) : Int64 := mAcross i 0 t r * mAcross j 0 t r + mAcross i 1 t r * mAcross j 1 t r
def mSq (t : MT) : Int64 := t.1.toInt64 * t.1.toInt64
def mMitre (i j : Int32) (t : MT) (r : MR) : Int32 := if t.2.2.1 = 0 then (if mCos i j t r * 65536 < (562949953421312 / (t.2.2.2 * t.2.2.2) - 65536) * mSq t then 0 else 1) else 0
def mReach (i j : Int32) (t : MT) (r : MR) : Int64 := mRound (mSq t * 65536) (mSq t + mCos i j t r)
/-- a join can be made -/
def mMeetS (i j : Int32) (t : MT) (r : MR) : Prop := ¬ t.2.2.2 * t.2.2.2 = 0 ∧ (¬ mMitre i j t r = 0 → ¬ 2 * (mSq t + mCos i j t r) = 0)
def mMTwo (i j : Int32) (t : MT) (r : MR) (S : MS) : MS :=
  mCorner 1 (r.1 (i + 1).toNatClampNeg + mOut i j r * mAcross i 0 t r) (r.2.1 (i + 1).toNatClampNeg + mOut i j r * mAcross i 1 t r) (mCorner 0 (r.1 (i + 1).toNatClampNeg) (r.2.1 (i + 1).toNatClampNeg) (mBeg (if mMitre i j t r = 0 then 1 else 2) S))
def mMTip (i j : Int32) (t : MT) (r : MR) (S : MS) : MS :=
  if mMitre i j t r = 0 then mMTwo i j t r S else mCorner 2 (r.1 (i + 1).toNatClampNeg + mOut i j r * mRound ((mAcross i 0 t r + mAcross j 0 t r) * mReach i j t r) 65536) (r.2.1 (i + 1).toNatClampNeg + mOut i j r * mRound ((mAcross i 1 t r + mAcross j 1 t r) * mReach i j t r) 65536) (mMTwo i j t r S)
def mMeet (i j : Int32) (t : MT) (r : MR) (S : MS) : MS :=
  if S.2.2.2 = 0 then (if mTurn i j r = 0 then S else if mBegR S = 0 then mBeg (if mMitre i j t r = 0 then 1 else 2) S else
    mEnd (mCorner (if mMitre i j t r = 0 then 2 else 3) (r.1 (i + 1).toNatClampNeg + mOut i j r * mAcross j 0 t r) (r.2.1 (i + 1).toNatClampNeg + mOut i j r * mAcross j 1 t r) (mMTip i j t r S))) else S
theorem mMTwo_in {i j : Int32} {t : MT} {r : MR} {S : MS} (h : msOk S) (hc : ¬ mBegR S = 0) : msIn (mMTwo i j t r S) := (mBeg_in h hc).corner.corner
theorem mMTip_in {i j : Int32} {t : MT} {r : MR} {S : MS} (h : msOk S) (hc : ¬ mBegR S = 0) : msIn (mMTip i j t r S) := by
  unfold mMTip
  split
  · exact mMTwo_in h hc
  · exact (mMTwo_in h hc).corner
theorem mMeet_ok {i j : Int32} {t : MT} {r : MR} {S : MS} (h : msOk S) : msOk (mMeet i j t r S) := by
  unfold mMeet
  split
  · split
    · exact h
    · split
      · exact mBeg_ok h
      · next hc => exact (mMTip_in h hc).corner.fin
  · exact h
theorem mKs_if {c : Prop} [Decidable c] : mKs (if c then 2 else 3) := by
  split <;> exact ⟨by decide, by decide⟩
theorem mBegT_ix {S S9 : MS} (e : S9 = mBegT S) (h : msOk S) (hc : S9.2.2.2 = 0) : vp_in S9.2.2.1 2000 := by
  subst e
  have h1 := mBegT_in h hc
  exact sq_in h1.1 h1.2
