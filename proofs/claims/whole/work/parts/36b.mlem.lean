/-! small rows for the walks of the reference's rows -/
def mRi (i : Int32) (n : Nat) : Prop := 0 ≤ i.toInt ∧ i.toInt ≤ 2000 ∧ 2001 ≤ i.toInt + (n : Int)
theorem mRi.zero {i : Int32} (h : mRi i 0) : False := by
  obtain ⟨h1, h2, h3⟩ := h
  omega
theorem mRi.next {i P : Int32} {n : Nat} (h : mRi i (n + 1)) (hc : ¬ P ≤ i + 1) (hP : P.toInt ≤ 2000) : mRi (i + 1) n := by
  obtain ⟨h1, h2, h3⟩ := h
  have h4 : (i + 1).toInt = i.toInt + 1 := sq_succ h1 (by omega)
  rw [Int32.le_iff_toInt_le] at hc
  unfold mRi
  rw [h4] at hc ⊢
  omega
theorem mRi.a {i P : Int32} {n : Nat} (h : mRi i n) (hc : ¬ P ≤ i + 1) (hP : P.toInt ≤ 2000) : vp_in i 2000 := by
  obtain ⟨h1, h2, h3⟩ := h
  have h4 : (i + 1).toInt = i.toInt + 1 := sq_succ h1 (by omega)
  rw [Int32.le_iff_toInt_le] at hc
  exact sq_in h1 (by omega)
theorem mRi.b {i P : Int32} {n : Nat} (h : mRi i n) (hc : ¬ P ≤ i + 1) (hP : P.toInt ≤ 2000) : vp_in (i + 1) 2000 := by
  obtain ⟨h1, h2, h3⟩ := h
  have h4 : (i + 1).toInt = i.toInt + 1 := sq_succ h1 (by omega)
  rw [Int32.le_iff_toInt_le] at hc
  exact sq_in (by omega) (by omega)
theorem mRi.l {i : Int32} (h : 2 ≤ i.toInt ∧ i.toInt ≤ 2000) : vp_in (i - 1) 2000 := by
  refine sq_in ?_ ?_ <;> rw [sq_pred (by omega)] <;> omega
theorem mRow1_ok {cl : Int32} {d : MD} {t : MT} {w : MW} {q : MK × MS × MR} (h : msOk q.2.1) : msOk (mRow1 cl d t w q).2.1 := by
  unfold mRow1
  split
  · exact h
  · exact mWalkL_ok h
theorem mRowL_ok {d : MD} {t : MT} {w : MW} {n : Nat} : ∀ {i : Int32} {k : MK} {S : MS} {r : MR}, msOk S → msOk (mRowL d t w n i k S r).2.1 := by
  induction n with
  | zero => exact fun h => h
  | succ n ih =>
    intro i k S r h
    unfold mRowL
    split
    · exact h
    · exact ih (mWalkL_ok h)
theorem mRow_ok {cl : Int32} {d : MD} {t : MT} {w : MW} {k : MK} {S : MS} {r : MR} (h : msOk S) : msOk (mRow cl d t w k S r).2.1 := mRow1_ok (mRowL_ok (mTakeS_ok h))
theorem mSrS_ok {cl : Int32} {d : MD} {t : MT} {w : MW} {k : MK} {S : MS} {r : MR} (h : msOk S) : msOk (mSrS cl d t w k S r) := by
  unfold mSrS
  split
  · split
    · exact mMake_ok h
    · exact mEndS_ok (mRow_ok h)
  · exact h
theorem mColI.add {f i P : Int32} {w : MW} {a b : Nat → Int32} (h : mColI f i w) (hc : ¬ P ≤ i) (hP : P.toInt ≤ 2000) : mColI f (i + 1) (a, b, w.2.2 + 1) := by
  obtain ⟨h1, h2, h3, h4, h5⟩ := h
  rw [Int32.le_iff_toInt_le] at hc
  unfold mColI
  show 0 ≤ f.toInt ∧ f.toInt ≤ (i + 1).toInt ∧ 0 ≤ (w.2.2 + 1).toInt ∧ (w.2.2 + 1).toInt ≤ (i + 1).toInt ∧ (i + 1).toInt ≤ 2000
  rw [sq_succ (by omega) (by omega), sq_succ h3 (by omega)]
  omega
theorem mColI.same {f i P : Int32} {w : MW} (h : mColI f i w) (hc : ¬ P ≤ i) (hP : P.toInt ≤ 2000) : mColI f (i + 1) w := by
  obtain ⟨h1, h2, h3, h4, h5⟩ := h
  rw [Int32.le_iff_toInt_le] at hc
  unfold mColI
  rw [sq_succ (by omega) (by omega)]
  omega
theorem mColI.init {f P : Int32} {a b : Nat → Int32} (h : 0 ≤ f.toInt ∧ ¬ P ≤ f) (hP : P.toInt ≤ 2000) : mColI f f (a, b, 0) := by
  obtain ⟨h1, h2⟩ := h
  rw [Int32.le_iff_toInt_le] at h2
  have h3 : (0 : Int32).toInt = 0 := rfl
  unfold mColI
  show 0 ≤ f.toInt ∧ f.toInt ≤ f.toInt ∧ 0 ≤ (0 : Int32).toInt ∧ (0 : Int32).toInt ≤ f.toInt ∧ f.toInt ≤ 2000
  omega
theorem mFu.init {f P : Int32} (h : 0 ≤ f.toInt ∧ ¬ P ≤ f) (hP : P.toInt ≤ 2000) : mFu 2000 f.toInt 2001 := by
  obtain ⟨h1, h2⟩ := h
  rw [Int32.le_iff_toInt_le] at h2
  unfold mFu
  omega
theorem mFu.ix {n : Nat} {i P : Int32} (h : mFu 2000 i.toInt n) (hc : ¬ P ≤ i) (hP : P.toInt ≤ 2000) : vp_in i 2000 := by
  obtain ⟨h1, h2, h3⟩ := h
  rw [Int32.le_iff_toInt_le] at hc
  exact sq_in h1 (by omega)
theorem mFu.ix4 {n : Nat} {i j P : Int32} (h : mFu 2000 i.toInt n) (e : j = i) (hc : ¬ P ≤ i) (hP : P.toInt ≤ 2000) : vp_in j 2004 := by
  obtain ⟨h1, h2, h3⟩ := h
  rw [Int32.le_iff_toInt_le] at hc
  rw [e]
  exact sq_in h1 (by omega)
theorem mDrI.init {f i : Int32} {w : MW} (h : mColI f i w) : mDrI w 2003 := by
  obtain ⟨h1, h2, h3, h4, h5⟩ := h
  unfold mDrI
  omega
theorem mFi_ix {p : MP} {f : Int32} (h : 0 ≤ f.toInt ∧ ¬ p.2.2.2.1 ≤ f) (hp : mpOk p) : vp_in f 2000 := by
  obtain ⟨h1, h2⟩ := h
  rw [Int32.le_iff_toInt_le] at h2
  have h3 := hp.1.2
  exact sq_in h1 (by omega)
theorem mRn00 {a b : Nat → Int64} : mRn (a, b, 0) := ⟨(by decide : (0 : Int) ≤ (0 : Int32).toInt), (by decide : (0 : Int32).toInt < 2004)⟩
theorem msOk0 {a b : Nat → Int32} {z : Int32} : msOk (a, b, 0, z) := ⟨(by decide : (0 : Int) ≤ (0 : Int32).toInt), (by decide : (0 : Int32).toInt ≤ 2000)⟩
