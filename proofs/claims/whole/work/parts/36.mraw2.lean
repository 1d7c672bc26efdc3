/-! the reference's runs, dashes, rows as functions; what each needs to be safe -/
def mAdd (x y : Int64) (r : MR) : MR := (vp_updL r.1 r.2.2.toNatClampNeg x, vp_updL r.2.1 r.2.2.toNatClampNeg y, r.2.2 + 1)
def mPass (x y : Int64) (r : MR) : MR := if r.2.2 = 0 then mAdd x y r else if r.1 (r.2.2 - 1).toNatClampNeg = x then (if r.2.1 (r.2.2 - 1).toNatClampNeg = y then r else mAdd x y r) else mAdd x y r
def mRn (r : MR) : Prop := 0 ≤ r.2.2.toInt ∧ r.2.2.toInt < 2004
theorem sq_pr {i : Int32} {n : Nat} (h : 0 ≤ i.toInt ∧ i.toInt < (n : Int)) (hc : ¬ i = 0) : vp_in (i - 1) n := by
  have h1 := sq_ne hc
  have h2 : (0 : Int32).toInt = 0 := rfl
  refine sq_in ?_ ?_ <;> rw [sq_pred (by omega)] <;> omega
def mAdd1 (r : MR) : MR := mAdd (r.1 (0 : Int32).toNatClampNeg) (r.2.1 (0 : Int32).toNatClampNeg) r
def mAdd2 (r : MR) : MR := mAdd ((mAdd1 r).1 (1 : Int32).toNatClampNeg) ((mAdd1 r).2.1 (1 : Int32).toNatClampNeg) (mAdd1 r)
def mMakeR (cl : Int32) (r : MR) : MR := if 2 ≤ r.2.2 then (if cl = 0 then r else mAdd2 r) else r
def mSegs (cl : Int32) (r : MR) : Int32 := if cl = 0 then r.2.2 - 1 else r.2.2
def mMakeL (cl : Int32) (t : MT) (r : MR) (z : Int32) : Nat → Int32 → MS → MS
  | 0, _, S => S
  | n + 1, i, S => if z ≤ i then S else if cl = 0 then (if z ≤ i + 1 then mMakeL cl t r z n (i + 1) (mSide i t r S) else mMakeL cl t r z n (i + 1) (mMeet i (i + 1) t r (mSide i t r S))) else mMakeL cl t r z n (i + 1) (mMeet i (i + 1) t r (mSide i t r S))
def mMake (cl : Int32) (t : MT) (r : MR) (S : MS) : MS :=
  if 2 ≤ r.2.2 then (if cl = 0 then mCapE (mSegs cl r - 1) t (mMakeR cl r) (mMakeL cl t (mMakeR cl r) (mSegs cl r) 2004 0 (if cl = 0 then mCapB t r S else S)) else mMakeL cl t (mMakeR cl r) (mSegs cl r) 2004 0 (if cl = 0 then mCapB t r S else S)) else S
theorem mMakeL_ok {cl : Int32} {t : MT} {r : MR} {z : Int32} {n : Nat} : ∀ {i : Int32} {S : MS}, msOk S → msOk (mMakeL cl t r z n i S) := by
  induction n with
  | zero => exact fun h => h
  | succ n ih =>
    intro i S h
    unfold mMakeL
    split
    · exact h
    · split
      · split
        · exact ih (mSide_ok h)
        · exact ih (mMeet_ok (mSide_ok h))
      · exact ih (mMeet_ok (mSide_ok h))
theorem mCapIf_ok {cl : Int32} {t : MT} {r : MR} {S : MS} (h : msOk S) : msOk (if cl = 0 then mCapB t r S else S) := by
  split
  · exact mCapB_ok h
  · exact h
theorem mMake_ok {cl : Int32} {t : MT} {r : MR} {S : MS} (h : msOk S) : msOk (mMake cl t r S) := by
  unfold mMake
  split
  · split
    · exact mCapE_ok (mMakeL_ok (mCapB_ok h))
    · exact mMakeL_ok h
  · exact h
def mSegS (cl : Int32) (t : MT) (r : MR) (z : Int32) : Prop := z.toInt ≤ 2002 ∧ (∀ i : Int32, 0 ≤ i.toInt → ¬ z ≤ i → mRunS i r) ∧ (∀ i : Int32, 0 ≤ i.toInt → ¬ z ≤ i → (cl = 0 → ¬ z ≤ i + 1) → mRunS (i + 1) r ∧ mMeetS i (i + 1) t r)
def mMakeS (cl : Int32) (t : MT) (r : MR) : Prop := 2 ≤ r.2.2 → r.2.2.toInt ≤ 2002 ∧ mSegS cl t (mMakeR cl r) (mSegs cl r)
theorem mr_a1 {r : MR} (h2 : 2 ≤ r.2.2) (h : r.2.2.toInt ≤ 2002) : vp_in r.2.2 2004 := by
  rw [Int32.le_iff_toInt_le] at h2
  have h3 : (2 : Int32).toInt = 2 := rfl
  exact sq_in (by omega) (by omega)
theorem mr_a2 {r : MR} (h2 : 2 ≤ r.2.2) (h : r.2.2.toInt ≤ 2002) : vp_in (r.2.2 + 1) 2004 := by
  rw [Int32.le_iff_toInt_le] at h2
  have h3 : (2 : Int32).toInt = 2 := rfl
  refine sq_in ?_ ?_ <;> rw [sq_succ (by omega) (by omega)] <;> omega
theorem mk_side {cl : Int32} {t : MT} {r r9 : MR} (h : mMakeS cl t r) (h2 : 2 ≤ r.2.2) (e : r9 = mMakeR cl r) {i : Int32} (h0 : 0 ≤ i.toInt) (hi : ¬ mSegs cl r ≤ i) : mRunS i r9 := by
  subst e
  exact (h h2).2.2.1 i h0 hi
theorem mk_meet {cl : Int32} {t : MT} {r r9 : MR} (h : mMakeS cl t r) (h2 : 2 ≤ r.2.2) (e : r9 = mMakeR cl r) {i : Int32} (h0 : 0 ≤ i.toInt) (hi : ¬ mSegs cl r ≤ i) (hc : cl = 0 → ¬ mSegs cl r ≤ i + 1) : mRunS (i + 1) r9 ∧ mMeetS i (i + 1) t r9 := by
  subst e
  exact (h h2).2.2.2 i h0 hi hc
theorem mk_pos {cl : Int32} {r : MR} (hc : cl = 0) (h2 : 2 ≤ r.2.2) : (mSegs cl r).toInt = r.2.2.toInt - 1 ∧ 2 ≤ r.2.2.toInt := by
  rw [Int32.le_iff_toInt_le] at h2
  have h3 : (2 : Int32).toInt = 2 := rfl
  unfold mSegs
  rw [if_pos hc, sq_pred (by omega)]
  omega
theorem mk_cap {cl : Int32} {t : MT} {r : MR} (h : mMakeS cl t r) (hc : cl = 0) (h2 : 2 ≤ r.2.2) : mRunS 0 r := by
  have h1 := (h h2).2.2.1 0 (by decide) (by
    rw [Int32.le_iff_toInt_le]
    have h3 : (0 : Int32).toInt = 0 := rfl
    have h4 := mk_pos hc h2
    omega)
  unfold mMakeR at h1
  rw [if_pos h2, if_pos hc] at h1
  exact h1
theorem mk_end {cl : Int32} {t : MT} {r r9 : MR} (h : mMakeS cl t r) (h2 : 2 ≤ r.2.2) (e : r9 = mMakeR cl r) (hc : cl = 0) : mRunS (mSegs cl r - 1) r9 := by
  subst e
  have h4 := mk_pos hc h2
  have h5 : (mSegs cl r - 1).toInt = (mSegs cl r).toInt - 1 := sq_pred (by omega)
  refine (h h2).2.2.1 _ (by omega) ?_
  rw [Int32.le_iff_toInt_le]
  omega
/-- the end of a dash -/
def mEndS (k : MK) (t : MT) (r : MR) (S : MS) : MS := if k.2.2.2.1 = 0 then mMake 0 t r S else S
def mEndR (k : MK) (r : MR) : MR := if k.2.2.2.1 = 0 then ((mMakeR 0 r).1, (mMakeR 0 r).2.1, 0) else (r.1, r.2.1, 0)
theorem mEndS_ok {k : MK} {t : MT} {r : MR} {S : MS} (h : msOk S) : msOk (mEndS k t r S) := by
  unfold mEndS
  split
  · exact mMake_ok h
  · exact h
theorem mEndR_n {k : MK} {r : MR} : (mEndR k r).2.2 = 0 := by
  unfold mEndR
  split <;> rfl
def mTakeK (S : MS) (k : MK) : MK := if S.2.2.2 = 0 then (if k.1 = 20000 then k else (k.1 + 1, k.2.1, k.2.2.1, k.2.2.2.1, k.2.2.2.2)) else k
def mTakeS (k : MK) (S : MS) : MS := if S.2.2.2 = 0 then (if k.1 = 20000 then (S.1, S.2.1, S.2.2.1, (-3)) else S) else S
theorem mTakeS_ok {k : MK} {S : MS} (h : msOk S) : msOk (mTakeS k S) := by
  unfold mTakeS
  split
  · split
    · exact h
    · exact h
  · exact h
def mNextD (d : MD) (k : MK) : Int32 := if k.2.1 + 1 = d.2.2.1 then 0 else k.2.1 + 1
def mNext (d : MD) (k : MK) : MK := (k.1, mNextD d k, (d.2.1 (mNextD d k).toNatClampNeg).toInt64, if k.2.2.2.1 = 0 then 1 else 0, k.2.2.2.2)
/-- the state behind the offset -/
def mStartL (d : MD) : Nat → Int64 → MK → Int64 × MK
  | 0, z, k => (z, k)
  | n + 1, z, k => if z < k.2.2.1 then (z, k) else mStartL d n (z - k.2.2.1) (mNext d k)
def mStartP (d : MD) : Nat → Int64 → MK → Prop
  | 0, _, _ => False
  | n + 1, z, k => z < k.2.2.1 ∨ (vp_in (mNextD d k) 8 ∧ mStartP d n (z - k.2.2.1) (mNext d k))
theorem mStartP_step {d : MD} {n : Nat} {z : Int64} {k : MK} (h : mStartP d (n + 1) z k) (hc : ¬ z < k.2.2.1) : vp_in (mNextD d k) 8 ∧ mStartP d n (z - k.2.2.1) (mNext d k) := h.resolve_left hc
def mAll (d : MD) : Int64 := ptSum d.2.1 d.2.2.1 9 0 0
def mRest (d : MD) : Int64 := d.2.2.2.toInt64 - d.2.2.2.toInt64 / (2 * mAll d) * (2 * mAll d)
def mK0 (d : MD) (k : MK) : MK := (k.1, 0, (d.2.1 (0 : Int32).toNatClampNeg).toInt64, 0, k.2.2.2.2)
def mStart0 (d : MD) (k : MK) : Int64 × MK := mStartL d 17 (mRest d) (mK0 d k)
def mStart1 (d : MD) (k : MK) : MK := ((mStart0 d k).2.1, (mStart0 d k).2.2.1, (mStart0 d k).2.2.2.1 - (mStart0 d k).1, (mStart0 d k).2.2.2.2.1, (mStart0 d k).2.2.2.2.2)
def mStartK (d : MD) (S : MS) (k : MK) : MK := mTakeK S (mStart1 d k)
def mStartS (d : MD) (k : MK) (S : MS) : MS := mTakeS (mStart1 d k) S
def mStOk (d : MD) (k : MK) : Prop := d.2.2.1.toInt ≤ 8 ∧ ¬ 2 * mAll d = 0 ∧ mStartP d 17 (mRest d) (mK0 d k)
theorem sq_nlt8 {m : Int32} (h : m.toInt ≤ 8) : ¬ 8 < m := by
  rw [Int32.lt_iff_toInt_lt]
  have h5 : (8 : Int32).toInt = 8 := rfl
  omega
/-- along a segment -/
def mWkL (ax ay bx bz : Int64) : Int64 := mLenOf (bx - ax) (bz - ay)
def mWkX (ax ay bx bz u : Int64) : Int64 := ax + mRound ((bx - ax) * u) (mWkL ax ay bx bz)
def mWkY (ax ay bx bz u : Int64) : Int64 := ay + mRound ((bz - ay) * u) (mWkL ax ay bx bz)
def mCutR (x y : Int64) (k : MK) (r : MR) : MR := if k.2.2.2.1 = 0 then mPass x y r else r
def mWs1 (t : MT) (ax ay bx bz u : Int64) (k : MK) (S : MS) (r : MR) : MS := mEndS k t (mCutR (mWkX ax ay bx bz (u + k.2.2.1)) (mWkY ax ay bx bz (u + k.2.2.1)) k r) S
def mWk1 (d : MD) (t : MT) (ax ay bx bz u : Int64) (k : MK) (S : MS) (r : MR) : MK := mNext d (mTakeK (mWs1 t ax ay bx bz u k S r) k)
def mWr1 (d : MD) (t : MT) (ax ay bx bz u : Int64) (k : MK) (S : MS) (r : MR) : MR :=
  mCutR (mWkX ax ay bx bz (u + k.2.2.1)) (mWkY ax ay bx bz (u + k.2.2.1)) (mWk1 d t ax ay bx bz u k S r) (mEndR k (mCutR (mWkX ax ay bx bz (u + k.2.2.1)) (mWkY ax ay bx bz (u + k.2.2.1)) k r))
def mWalkL (d : MD) (t : MT) (ax ay bx bz : Int64) : Nat → Int64 → MK → MS → MR → Int64 × MK × MS × MR
  | 0, u, k, S, r => (u, k, S, r)
  | n + 1, u, k, S, r => if S.2.2.2 = 0 then (if mWkL ax ay bx bz - u ≤ k.2.2.1 then (u, k, S, r) else
      mWalkL d t ax ay bx bz n (u + k.2.2.1) (mWk1 d t ax ay bx bz u k S r) (mTakeS k (mWs1 t ax ay bx bz u k S r)) (mWr1 d t ax ay bx bz u k S r)) else (u, k, S, r)
def mWalkP (d : MD) (t : MT) (ax ay bx bz : Int64) : Nat → Int64 → MK → MS → MR → Prop
  | 0, _, _, _, _ => False
  | n + 1, u, k, S, r => mRn r ∧ (S.2.2.2 = 0 → ¬ mWkL ax ay bx bz - u ≤ k.2.2.1 → ¬ 2 * mWkL ax ay bx bz = 0 ∧
      (k.2.2.2.1 = 0 → mMakeS 0 t (mCutR (mWkX ax ay bx bz (u + k.2.2.1)) (mWkY ax ay bx bz (u + k.2.2.1)) k r)) ∧ vp_in (mNextD d (mTakeK (mWs1 t ax ay bx bz u k S r) k)) 8 ∧
      mWalkP d t ax ay bx bz n (u + k.2.2.1) (mWk1 d t ax ay bx bz u k S r) (mTakeS k (mWs1 t ax ay bx bz u k S r)) (mWr1 d t ax ay bx bz u k S r))
def mWalk0 (d : MD) (t : MT) (ax ay bx bz : Int64) (k : MK) (S : MS) (r : MR) : Int64 × MK × MS × MR := mWalkL d t ax ay bx bz 20002 0 k S r
def mWalkK (ax ay bx bz : Int64) (q : Int64 × MK × MS × MR) : MK := (q.2.1.1, q.2.1.2.1, q.2.1.2.2.1 - (mWkL ax ay bx bz - q.1), q.2.1.2.2.2.1, q.2.1.2.2.2.2)
def mWalkR (bx bz : Int64) (q : Int64 × MK × MS × MR) : MR := mCutR bx bz q.2.1 q.2.2.2
theorem mWalkL_ok {d : MD} {t : MT} {ax ay bx bz : Int64} {n : Nat} : ∀ {u : Int64} {k : MK} {S : MS} {r : MR}, msOk S → msOk (mWalkL d t ax ay bx bz n u k S r).2.2.1 := by
  induction n with
  | zero => exact fun h => h
  | succ n ih =>
    intro u k S r h
    unfold mWalkL
    split
    · split
      · exact h
      · exact ih (mTakeS_ok (mEndS_ok h))
    · exact h
theorem mRn0 {k : MK} {r : MR} : mRn (mEndR k r) := by
  unfold mRn
  rw [mEndR_n]
  exact ⟨by decide, by decide⟩
/-- along a row -/
def mRwQ (d : MD) (t : MT) (w : MW) (i j : Int32) (k : MK) (S : MS) (r : MR) : Int64 × MK × MS × MR := mWalk0 d t (w.1 i.toNatClampNeg).toInt64 (w.2.1 i.toNatClampNeg).toInt64 (w.1 j.toNatClampNeg).toInt64 (w.2.1 j.toNatClampNeg).toInt64 k S r
def mRwK (d : MD) (t : MT) (w : MW) (i j : Int32) (k : MK) (S : MS) (r : MR) : MK := mWalkK (w.1 i.toNatClampNeg).toInt64 (w.2.1 i.toNatClampNeg).toInt64 (w.1 j.toNatClampNeg).toInt64 (w.2.1 j.toNatClampNeg).toInt64 (mRwQ d t w i j k S r)
def mRwR (d : MD) (t : MT) (w : MW) (i j : Int32) (k : MK) (S : MS) (r : MR) : MR := mWalkR (w.1 j.toNatClampNeg).toInt64 (w.2.1 j.toNatClampNeg).toInt64 (mRwQ d t w i j k S r)
def mRwP (d : MD) (t : MT) (w : MW) (i j : Int32) (k : MK) (S : MS) (r : MR) : Prop := mWalkP d t (w.1 i.toNatClampNeg).toInt64 (w.2.1 i.toNatClampNeg).toInt64 (w.1 j.toNatClampNeg).toInt64 (w.2.1 j.toNatClampNeg).toInt64 20002 0 k S r
def mRowL (d : MD) (t : MT) (w : MW) : Nat → Int32 → MK → MS → MR → MK × MS × MR
  | 0, _, k, S, r => (k, S, r)
  | n + 1, i, k, S, r => if w.2.2 ≤ i + 1 then (k, S, r) else mRowL d t w n (i + 1) (mRwK d t w i (i + 1) k S r) (mRwQ d t w i (i + 1) k S r).2.2.1 (mRwR d t w i (i + 1) k S r)
def mRowP (d : MD) (t : MT) (w : MW) : Nat → Int32 → MK → MS → MR → Prop
  | 0, _, _, _, _ => False
  | n + 1, i, k, S, r => ¬ w.2.2 ≤ i + 1 → mRwP d t w i (i + 1) k S r ∧ mRowP d t w n (i + 1) (mRwK d t w i (i + 1) k S r) (mRwQ d t w i (i + 1) k S r).2.2.1 (mRwR d t w i (i + 1) k S r)
def mRow0 (d : MD) (t : MT) (w : MW) (k : MK) (S : MS) (r : MR) : MK × MS × MR :=
  mRowL d t w 2001 0 (mStartK d S k) (mStartS d k S) (mCutR (w.1 (0 : Int32).toNatClampNeg).toInt64 (w.2.1 (0 : Int32).toNatClampNeg).toInt64 (mStartK d S k) (r.1, r.2.1, 0))
def mRow1 (cl : Int32) (d : MD) (t : MT) (w : MW) (q : MK × MS × MR) : MK × MS × MR :=
  if cl = 0 then q else (mRwK d t w (w.2.2 - 1) 0 q.1 q.2.1 q.2.2, (mRwQ d t w (w.2.2 - 1) 0 q.1 q.2.1 q.2.2).2.2.1, mRwR d t w (w.2.2 - 1) 0 q.1 q.2.1 q.2.2)
def mRow (cl : Int32) (d : MD) (t : MT) (w : MW) (k : MK) (S : MS) (r : MR) : MK × MS × MR := mRow1 cl d t w (mRow0 d t w k S r)
/-- a row's dashes can be walked -/
def mRowS (cl : Int32) (d : MD) (t : MT) (w : MW) (k : MK) (S : MS) (r : MR) : Prop :=
  mStOk d k ∧ (2 ≤ w.2.2.toInt ∧ w.2.2.toInt ≤ 2000) ∧ mRowP d t w 2001 0 (mStartK d S k) (mStartS d k S) (mCutR (w.1 (0 : Int32).toNatClampNeg).toInt64 (w.2.1 (0 : Int32).toNatClampNeg).toInt64 (mStartK d S k) (r.1, r.2.1, 0)) ∧
  (¬ cl = 0 → mRwP d t w (w.2.2 - 1) 0 (mRow0 d t w k S r).1 (mRow0 d t w k S r).2.1 (mRow0 d t w k S r).2.2) ∧ ((mRow cl d t w k S r).1.2.2.2.1 = 0 → mMakeS 0 t (mRow cl d t w k S r).2.2)
/-- a row's points -/
def mColA (x y : Int32) (w : MW) : MW := (upd w.1 w.2.2.toNatClampNeg x, upd w.2.1 w.2.2.toNatClampNeg y, w.2.2 + 1)
def mColAdd (x y : Int32) (w : MW) : MW := if w.2.2 = 0 then mColA x y w else if w.1 (w.2.2 - 1).toNatClampNeg = x then (if w.2.1 (w.2.2 - 1).toNatClampNeg = y then w else mColA x y w) else mColA x y w
def mColL (p : MP) (f : Int32) : Nat → Int32 → MW → Int32 × MW
  | 0, i, w => (i, w)
  | n + 1, i, w => if p.2.2.2.1 ≤ i then (i, w) else if i = f then mColL p f n (i + 1) (mColAdd (p.1 i.toNatClampNeg) (p.2.1 i.toNatClampNeg) w) else if p.2.2.1 i.toNatClampNeg = 0 then mColL p f n (i + 1) (mColAdd (p.1 i.toNatClampNeg) (p.2.1 i.toNatClampNeg) w) else (i, w)
def mColD (m : Int32) : Nat → MW → MW
  | 0, w => w
  | n + 1, w => if m = 3 then (if w.2.2 ≤ 1 then w else if w.1 (w.2.2 - 1).toNatClampNeg = w.1 (0 : Int32).toNatClampNeg then (if w.2.1 (w.2.2 - 1).toNatClampNeg = w.2.1 (0 : Int32).toNatClampNeg then mColD m n (w.1, w.2.1, w.2.2 - 1) else w) else w) else w
def mCol0 (p : MP) (f : Int32) (w : MW) : Int32 × MW := mColL p f 2001 f (w.1, w.2.1, 0)
def mCollect (p : MP) (f : Int32) (w : MW) : MW := mColD (p.2.2.1 f.toNatClampNeg) 2003 (mCol0 p f w).2
/-- the row is no longer than the points that were seen -/
def mColI (f i : Int32) (w : MW) : Prop := 0 ≤ f.toInt ∧ f.toInt ≤ i.toInt ∧ 0 ≤ w.2.2.toInt ∧ w.2.2.toInt ≤ i.toInt ∧ i.toInt ≤ 2000
theorem mColA_n {x y : Int32} {w : MW} (h : 0 ≤ w.2.2.toInt ∧ w.2.2.toInt ≤ 2000) : (mColA x y w).2.2.toInt = w.2.2.toInt + 1 := sq_succ h.1 (by have := h.2; omega)
theorem mColAdd_n {x y : Int32} {w : MW} (h : 0 ≤ w.2.2.toInt ∧ w.2.2.toInt ≤ 2000) : (mColAdd x y w).2.2.toInt = w.2.2.toInt ∨ (mColAdd x y w).2.2.toInt = w.2.2.toInt + 1 := by
  have h1 := mColA_n (x := x) (y := y) h
  unfold mColAdd
  split
  · exact Or.inr h1
  · split
    · split
      · exact Or.inl rfl
      · exact Or.inr h1
    · exact Or.inr h1
theorem mColI.next {f i x y P : Int32} {w : MW} (h : mColI f i w) (hc : ¬ P ≤ i) (hP : P.toInt ≤ 2000) : mColI f (i + 1) (mColAdd x y w) := by
  obtain ⟨h1, h2, h3, h4, h5⟩ := h
  rw [Int32.le_iff_toInt_le] at hc
  have h6 := mColAdd_n (x := x) (y := y) (w := w) ⟨h3, by omega⟩
  unfold mColI
  rw [sq_succ (by omega) (by omega)]
  omega
theorem mColI.ix {f i P : Int32} {w : MW} (h : mColI f i w) (hc : ¬ P ≤ i) (hP : P.toInt ≤ 2000) : vp_in i 2000 := by
  obtain ⟨h1, h2, h3, h4, h5⟩ := h
  rw [Int32.le_iff_toInt_le] at hc
  exact sq_in (by omega) (by omega)
theorem mColI.rw {f i P : Int32} {w : MW} (h : mColI f i w) (hc : ¬ P ≤ i) (hP : P.toInt ≤ 2000) : vp_in w.2.2 2000 := by
  obtain ⟨h1, h2, h3, h4, h5⟩ := h
  rw [Int32.le_iff_toInt_le] at hc
  exact sq_in (by omega) (by omega)
theorem mColI.rp {f i P : Int32} {w : MW} (h : mColI f i w) (hc : ¬ P ≤ i) (hP : P.toInt ≤ 2000) (h0 : ¬ w.2.2 = 0) : vp_in (w.2.2 - 1) 2000 := by
  obtain ⟨h1, h2, h3, h4, h5⟩ := h
  rw [Int32.le_iff_toInt_le] at hc
  exact sq_pr (n := 2000) ⟨h3, by omega⟩ h0
/-- as many turns as there are points -/
def mFu (B i : Int) (n : Nat) : Prop := 0 ≤ i ∧ i ≤ B ∧ B < i + n
theorem mFu.next {B : Int} {n : Nat} {i P : Int32} (h : mFu B i.toInt (n + 1)) (hc : ¬ P ≤ i) (hP : P.toInt ≤ B) (hB : B ≤ 2147480000) : mFu B (i + 1).toInt n := by
  obtain ⟨h1, h2, h3⟩ := h
  rw [Int32.le_iff_toInt_le] at hc
  unfold mFu
  rw [sq_succ h1 (by omega)]
  omega
theorem mFu.zero {B i : Int} (h : mFu B i 0) : False := by
  obtain ⟨h1, h2, h3⟩ := h
  omega
def mDrI (w : MW) (n : Nat) : Prop := 0 ≤ w.2.2.toInt ∧ w.2.2.toInt ≤ 2000 ∧ w.2.2.toInt < n
theorem mDrI.next {w : MW} {n : Nat} (h : mDrI w (n + 1)) (hc : ¬ w.2.2 ≤ 1) : mDrI (w.1, w.2.1, w.2.2 - 1) n := by
  obtain ⟨h1, h2, h3⟩ := h
  rw [Int32.le_iff_toInt_le] at hc
  have h4 : (1 : Int32).toInt = 1 := rfl
  unfold mDrI
  show 0 ≤ (w.2.2 - 1).toInt ∧ (w.2.2 - 1).toInt ≤ 2000 ∧ (w.2.2 - 1).toInt < n
  rw [sq_pred (by omega)]
  omega
theorem mDrI.ix {w : MW} {n : Nat} (h : mDrI w n) (hc : ¬ w.2.2 ≤ 1) : vp_in (w.2.2 - 1) 2000 := by
  obtain ⟨h1, h2, h3⟩ := h
  rw [Int32.le_iff_toInt_le] at hc
  have h4 : (1 : Int32).toInt = 1 := rfl
  refine sq_in ?_ ?_ <;> rw [sq_pred (by omega)] <;> omega
/-- a row's run -/
def mFill (w : MW) : Nat → Int32 → MR → MR
  | 0, _, r => r
  | n + 1, i, r => if w.2.2 ≤ i then r else mFill w n (i + 1) (mAdd (w.1 i.toNatClampNeg).toInt64 (w.2.1 i.toNatClampNeg).toInt64 r)
def mFil (w : MW) (r : MR) : MR := mFill w 2001 0 (r.1, r.2.1, 0)
/-- a row is made -/
def mSrK (cl : Int32) (d : MD) (t : MT) (w : MW) (k : MK) (S : MS) (r : MR) : MK := if 2 ≤ w.2.2 then (if d.2.2.1 ≤ 0 then k else (mRow cl d t w k S r).1) else k
def mSrS (cl : Int32) (d : MD) (t : MT) (w : MW) (k : MK) (S : MS) (r : MR) : MS := if 2 ≤ w.2.2 then (if d.2.2.1 ≤ 0 then mMake cl t (mFil w r) S else mEndS (mRow cl d t w k S r).1 t (mRow cl d t w k S r).2.2 (mRow cl d t w k S r).2.1) else S
def mSrR (cl : Int32) (d : MD) (t : MT) (w : MW) (k : MK) (S : MS) (r : MR) : MR := if 2 ≤ w.2.2 then (if d.2.2.1 ≤ 0 then mMakeR cl (mFil w r) else mEndR (mRow cl d t w k S r).1 (mRow cl d t w k S r).2.2) else r
def mSrP (cl : Int32) (d : MD) (t : MT) (w : MW) (k : MK) (S : MS) (r : MR) : Prop := 2 ≤ w.2.2 → w.2.2.toInt ≤ 2000 ∧ (d.2.2.1 ≤ 0 → mMakeS cl t (mFil w r)) ∧ (¬ d.2.2.1 ≤ 0 → mRowS cl d t w k S r)
/-- all rows -/
def mCl (p : MP) (f : Int32) : Int32 := if p.2.2.1 f.toNatClampNeg = 3 then 1 else 0
def mStrL (p : MP) (d : MD) (t : MT) : Nat → Int32 → MW → MK → MS → MR → MW × MK × MS × MR
  | 0, _, w, k, S, r => (w, k, S, r)
  | n + 1, i, w, k, S, r => if p.2.2.2.1 ≤ i then (w, k, S, r) else if S.2.2.2 = 0 then
      mStrL p d t n (mCol0 p i w).1 (mCollect p i w) (mSrK (mCl p i) d t (mCollect p i w) k S r) (mSrS (mCl p i) d t (mCollect p i w) k S r) (mSrR (mCl p i) d t (mCollect p i w) k S r) else (w, k, S, r)
def mStrP (p : MP) (d : MD) (t : MT) : Nat → Int32 → MW → MK → MS → MR → Prop
  | 0, _, _, _, _, _ => False
  | n + 1, i, w, k, S, r => ¬ p.2.2.2.1 ≤ i → S.2.2.2 = 0 → 0 ≤ i.toInt ∧ mSrP (mCl p i) d t (mCollect p i w) k S r ∧
      mStrP p d t n (mCol0 p i w).1 (mCollect p i w) (mSrK (mCl p i) d t (mCollect p i w) k S r) (mSrS (mCl p i) d t (mCollect p i w) k S r) (mSrR (mCl p i) d t (mCollect p i w) k S r)
def mStr0 (p : MP) (d : MD) (t : MT) (w : MW) (k : MK) (S : MS) (r : MR) : MW × MK × MS × MR := mStrL p d t 2001 0 w (0, k.2.1, k.2.2.1, k.2.2.2.1, k.2.2.2.2) (S.1, S.2.1, 0, 0) r
def mStrSafe (p : MP) (d : MD) (t : MT) (w : MW) (k : MK) (S : MS) (r : MR) : Prop := mStrP p d t 2001 0 w (0, k.2.1, k.2.2.1, k.2.2.2.1, k.2.2.2.2) (S.1, S.2.1, 0, 0) r
def mStrK (q : MW × MK × MS × MR) : MK := (q.2.1.1, q.2.1.2.1, q.2.1.2.2.1, q.2.1.2.2.2.1, if q.2.2.1.2.2.2 = 0 then q.2.1.1 else 0)
def mStrS (q : MW × MK × MS × MR) : MS := if q.2.2.1.2.2.2 = 0 then q.2.2.1 else (q.2.2.1.1, q.2.2.1.2.1, 0, q.2.2.1.2.2.2)
def mStrV (q : MW × MK × MS × MR) : Int32 := if q.2.2.1.2.2.2 = 0 then q.2.2.1.2.2.1 else q.2.2.1.2.2.2
def mSort (i : Int32) (S : MS) : Int32 := if i < 0 then (-1) else if S.2.2.1 ≤ i then (-1) else S.1 i.toNatClampNeg
def mCornV (i k w : Int32) (S : MS) : Int32 := if i < 0 then 0 else if S.2.2.1 ≤ i then 0 else if k < 0 then 0 else if (if S.1 i.toNatClampNeg = 1 then 3 else 4) ≤ k then 0 else if w < 0 then 0 else if w ≤ 1 then S.2.1 (8 * i + 2 * k + w).toNatClampNeg else 0
theorem ms_ix {i : Int32} {S : MS} (h : msOk S) (h0 : ¬ i < 0) (h1 : ¬ S.2.2.1 ≤ i) : vp_in i 2000 := by
  have h2 := sq_lo1 h0
  rw [Int32.le_iff_toInt_le] at h1
  have h3 := h.2
  exact sq_in h2 (by omega)
theorem ms_ic {i k w : Int32} {S : MS} {c : Prop} [Decidable c] (h : msOk S) (h0 : ¬ i < 0) (h1 : ¬ S.2.2.1 ≤ i) (hk : ¬ k < 0) (hk2 : ¬ (if c then 3 else 4) ≤ k) (hw : ¬ w < 0) (hw2 : w ≤ 1) : vp_in (8 * i + 2 * k + w) 16000 := by
  have h2 := sq_lo1 h0
  rw [Int32.le_iff_toInt_le] at h1 hw2 hk2
  have h3 := h.2
  have h4 := sq_lo1 hk
  have h5 := sq_lo1 hw
  have h6 : (1 : Int32).toInt = 1 := rfl
  have h7 : (if c then (3 : Int32) else 4).toInt ≤ 4 := by split <;> decide
  have h8 := ms_at (k := k) (n := i) ⟨h4, by omega⟩ ⟨h2, by omega⟩
  have e1 : (2 : Nat) ^ 32 = 4294967296 := rfl
  have h9 : (8 * i + 2 * k + w).toInt = 8 * i.toInt + 2 * k.toInt + w.toInt := by
    rw [Int32.toInt_add, h8, e1, Int.bmod_def]
    split <;> omega
  exact sq_in (by omega) (by omega)
