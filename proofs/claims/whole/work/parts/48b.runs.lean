/-! runs of both sides -/
/-- n points, the same on both sides, none like the one before -/
def RN (r : RU) (mr : MR) (n : Nat) : Prop :=
  r.2.2.1.toInt = (n : Int) ∧ mr.2.2.toInt = (n : Int) ∧ n ≤ 2002 ∧ (∀ i, i < n → mr.1 i = (r.1 i).toInt64 ∧ mr.2.1 i = (r.2.1 i).toInt64 ∧ pl29 (r.1 i) ∧ pl29 (r.2.1 i)) ∧ (∀ i, i + 1 < n → ¬ (r.1 i = r.1 (i + 1) ∧ r.2.1 i = r.2.1 (i + 1)))
theorem ru_in {r : RU} {n k : Nat} {j : Int32} (hr : r.2.2.1.toInt = (n : Int)) (hn : n ≤ 2002) (hj : j.toInt = (k : Int)) (hk : k < n) : ruX j r = r.1 k ∧ ruY j r = r.2.1 k := by
  have z0 : (0 : Int32).toInt = 0 := rfl
  have z1 : (2002 : Int32).toInt = 2002 := rfl
  have e : ruIn j r = j := by
    unfold ruIn
    rw [if_neg (by rw [Int32.lt_iff_toInt_lt]; omega), if_neg (by rw [Int32.le_iff_toInt_le]; omega), if_neg (by rw [Int32.le_iff_toInt_le]; omega)]
  unfold ruX ruY
  rw [e, rl_cl hj]
  exact ⟨rfl, rfl⟩
theorem ru_wrap {r : RU} {n : Nat} {j : Int32} (hr : r.2.2.1.toInt = (n : Int)) (hj : j.toInt = (n : Int)) : ruX j r = r.1 0 ∧ ruY j r = r.2.1 0 := by
  have z0 : (0 : Int32).toInt = 0 := rfl
  have e : ruIn j r = 0 := by
    unfold ruIn
    rw [if_neg (by rw [Int32.lt_iff_toInt_lt]; omega), if_pos (by rw [Int32.le_iff_toInt_le]; omega)]
  unfold ruX ruY
  rw [e]
  exact ⟨rfl, rfl⟩
theorem updL_same (f : Nat → Int64) (k : Nat) (x : Int64) : vp_updL f k x k = x := if_pos rfl
theorem updL_ne {f : Nat → Int64} {k j : Nat} {x : Int64} (h : j ≠ k) : vp_updL f k x j = f j := if_neg h
theorem mAdd2_at {mr : MR} {n : Nat} (hn : mr.2.2.toInt = (n : Int)) (h2 : 2 ≤ n) (hn2 : n ≤ 2002) :
    (∀ k, k < n → (mAdd2 mr).1 k = mr.1 k ∧ (mAdd2 mr).2.1 k = mr.2.1 k) ∧ ((mAdd2 mr).1 n = mr.1 0 ∧ (mAdd2 mr).2.1 n = mr.2.1 0) ∧ (mAdd2 mr).1 (n + 1) = mr.1 1 ∧ (mAdd2 mr).2.1 (n + 1) = mr.2.1 1 := by
  have c1 := rl_cl hn
  have c2 : (mr.2.2 + 1).toNatClampNeg = n + 1 := rl_cl (by rw [sq_succ (by omega) (by omega)]; omega)
  have e1 : mAdd1 mr = (vp_updL mr.1 n (mr.1 0), vp_updL mr.2.1 n (mr.2.1 0), mr.2.2 + 1) := by
    unfold mAdd1 mAdd
    rw [c1]
    rfl
  have e2 : mAdd2 mr = (vp_updL (vp_updL mr.1 n (mr.1 0)) (n + 1) (mr.1 1), vp_updL (vp_updL mr.2.1 n (mr.2.1 0)) (n + 1) (mr.2.1 1), mr.2.2 + 1 + 1) := by
    unfold mAdd2
    rw [e1]
    unfold mAdd
    show (vp_updL (vp_updL mr.1 n (mr.1 0)) (mr.2.2 + 1).toNatClampNeg (vp_updL mr.1 n (mr.1 0) 1), vp_updL (vp_updL mr.2.1 n (mr.2.1 0)) (mr.2.2 + 1).toNatClampNeg (vp_updL mr.2.1 n (mr.2.1 0) 1), mr.2.2 + 1 + 1) = _
    rw [c2, updL_ne (show 1 ≠ n by omega), updL_ne (show 1 ≠ n by omega)]
  rw [e2]
  refine ⟨fun k hk => ⟨?_, ?_⟩, ⟨?_, ?_⟩, ?_, ?_⟩
  · show vp_updL (vp_updL mr.1 n (mr.1 0)) (n + 1) (mr.1 1) k = mr.1 k
    rw [updL_ne (by omega), updL_ne (by omega)]
  · show vp_updL (vp_updL mr.2.1 n (mr.2.1 0)) (n + 1) (mr.2.1 1) k = mr.2.1 k
    rw [updL_ne (by omega), updL_ne (by omega)]
  · show vp_updL (vp_updL mr.1 n (mr.1 0)) (n + 1) (mr.1 1) n = mr.1 0
    rw [updL_ne (by omega), updL_same]
  · show vp_updL (vp_updL mr.2.1 n (mr.2.1 0)) (n + 1) (mr.2.1 1) n = mr.2.1 0
    rw [updL_ne (by omega), updL_same]
  · show vp_updL (vp_updL mr.1 n (mr.1 0)) (n + 1) (mr.1 1) (n + 1) = mr.1 1
    rw [updL_same]
  · show vp_updL (vp_updL mr.2.1 n (mr.2.1 0)) (n + 1) (mr.2.1 1) (n + 1) = mr.2.1 1
    rw [updL_same]
theorem run_segs {mt : MT} {r : RU} {mr : MR} {n : Nat} {cl : Int32} (hh : 1 ≤ mt.1.toInt ∧ mt.1.toInt ≤ 4194304) (h : RN r mr n) (h2 : 2 ≤ n) (hcl : cl = 0 ↔ r.2.2.2 = 0) (hring : ¬ cl = 0 → ¬ (r.1 (n - 1) = r.1 0 ∧ r.2.1 (n - 1) = r.2.1 0)) :
    2 ≤ mr.2.2 ∧ ruSegs r = mSegs cl mr ∧ (1 ≤ (mSegs cl mr).toInt ∧ (mSegs cl mr).toInt ≤ 2002) ∧ SEGS r cl (mSegs cl mr) mt (mMakeR cl mr) := by
  obtain ⟨h1, h3, h4, h5, h6⟩ := h
  have z2 : (2 : Int32).toInt = 2 := rfl
  have hm2 : 2 ≤ mr.2.2 := by rw [Int32.le_iff_toInt_le]; omega
  have hr2 : 2 ≤ r.2.2.1 := by rw [Int32.le_iff_toInt_le]; omega
  have erm : r.2.2.1 = mr.2.2 := Int32.toInt_inj.mp (by omega)
  have hseg : ruSegs r = mSegs cl mr := by
    unfold ruSegs mSegs
    rw [if_pos hr2, erm]
    by_cases hc : cl = 0
    · rw [if_pos hc, if_pos (hcl.mp hc)]
    · rw [if_neg hc, if_neg (fun e => hc (hcl.mpr e))]
  have hto : ∀ i : Int32, 0 ≤ i.toInt → i.toInt ≤ 2002 → ∃ k : Nat, i.toInt = (k : Int) ∧ (i + 1).toInt = ((k + 1 : Nat) : Int) := fun i hi hi2 => ⟨i.toInt.toNat, by omega, by rw [sq_succ hi (by omega)]; omega⟩
  by_cases hc : cl = 0
  · have ez : mSegs cl mr = mr.2.2 - 1 := by unfold mSegs; rw [if_pos hc]
    have ezt : (mSegs cl mr).toInt = (n : Int) - 1 := by rw [ez, sq_pred (by omega), h3]
    have em : mMakeR cl mr = mr := by unfold mMakeR; rw [if_pos hm2, if_pos hc]
    refine ⟨hm2, hseg, ⟨by omega, by omega⟩, fun i hi0 hi => ?_, fun hq => absurd hc hq⟩
    rw [em]
    rw [Int32.le_iff_toInt_le, ezt] at hi
    obtain ⟨k, k1, k2⟩ := hto i hi0 (by omega)
    have b1 := ru_in h1 h4 k1 (show k < n by omega)
    have b2 := ru_in h1 h4 k2 (show k + 1 < n by omega)
    have q1 := h5 k (by omega)
    have q2 := h5 (k + 1) (by omega)
    exact se_of hh b1.1 b1.2 b2.1 b2.2 (by rw [rl_cl k1]; exact q1.1) (by rw [rl_cl k1]; exact q1.2.1) (by rw [rl_cl k2]; exact q2.1) (by rw [rl_cl k2]; exact q2.2.1) q1.2.2.1 q1.2.2.2 q2.2.2.1 q2.2.2.2 (h6 k (by omega)) ⟨by omega, by omega⟩
  · have ez : mSegs cl mr = mr.2.2 := by unfold mSegs; rw [if_neg hc]
    have em : mMakeR cl mr = mAdd2 mr := by unfold mMakeR; rw [if_pos hm2, if_neg hc]
    obtain ⟨w1, w2, w3⟩ := mAdd2_at h3 h2 h4
    refine ⟨hm2, hseg, ⟨by rw [ez]; omega, by rw [ez]; omega⟩, fun i hi0 hi => ?_, fun _ i hi0 hi hi2 => ?_⟩
    · rw [em]
      rw [Int32.le_iff_toInt_le, ez, h3] at hi
      obtain ⟨k, k1, k2⟩ := hto i hi0 (by omega)
      have b1 := ru_in h1 h4 k1 (show k < n by omega)
      have q1 := h5 k (by omega)
      have v1 := w1 k (by omega)
      by_cases hl : k + 1 < n
      · have b2 := ru_in h1 h4 k2 hl
        have q2 := h5 (k + 1) hl
        have v2 := w1 (k + 1) hl
        exact se_of hh b1.1 b1.2 b2.1 b2.2 (by rw [rl_cl k1, v1.1]; exact q1.1) (by rw [rl_cl k1, v1.2]; exact q1.2.1) (by rw [rl_cl k2, v2.1]; exact q2.1) (by rw [rl_cl k2, v2.2]; exact q2.2.1) q1.2.2.1 q1.2.2.2 q2.2.2.1 q2.2.2.2 (h6 k (by omega)) ⟨by omega, by omega⟩
      · have e : k + 1 = n := by omega
        have b2 := ru_wrap (j := i + 1) h1 (by rw [k2, e])
        have q2 := h5 0 (by omega)
        have e2 : n - 1 = k := by omega
        have hrg := hring hc
        rw [e2] at hrg
        exact se_of hh b1.1 b1.2 b2.1 b2.2 (by rw [rl_cl k1, v1.1]; exact q1.1) (by rw [rl_cl k1, v1.2]; exact q1.2.1) (by rw [rl_cl k2, e, w2.1]; exact q2.1) (by rw [rl_cl k2, e, w2.2]; exact q2.2.1) q1.2.2.1 q1.2.2.2 q2.2.2.1 q2.2.2.2 hrg ⟨by omega, by omega⟩
    · rw [em]
      rw [Int32.le_iff_toInt_le, ez, h3] at hi hi2
      obtain ⟨k, k1, k2⟩ := hto i hi0 (by omega)
      have e : k + 1 = n := by omega
      rw [e] at k2
      have k3 : (i + 1 + 1).toInt = ((n + 1 : Nat) : Int) := by rw [sq_succ (by omega) (by omega)]; omega
      have b1 := ru_in (j := 0) h1 h4 (k := 0) rfl (by omega)
      have b2 := ru_in (j := 0 + 1) h1 h4 (k := 1) rfl (by omega)
      have q1 := h5 0 (by omega)
      have q2 := h5 1 (by omega)
      exact se_of hh b1.1 b1.2 b2.1 b2.2 (by rw [rl_cl k2, w2.1]; exact q1.1) (by rw [rl_cl k2, w2.2]; exact q1.2.1) (by rw [rl_cl k3, w3.1]; exact q2.1) (by rw [rl_cl k3, w3.2]; exact q2.2.1) q1.2.2.1 q1.2.2.2 q2.2.2.1 q2.2.2.2 (h6 0 (by omega)) ⟨by omega, by omega⟩
theorem run_make {t : TP} {mt : MT} {r : RU} {mr : MR} {n : Nat} {cl : Int32} {P : PS} {S : MS} (hT : RT t mt) (h : RN r mr n) (hcl : cl = 0 ↔ r.2.2.2 = 0) (hring : ¬ cl = 0 → 2 ≤ n → ¬ (r.1 (n - 1) = r.1 0 ∧ r.2.1 (n - 1) = r.2.1 0)) (hP : RI P S) :
    RI (olMake t r P) (mMake cl mt mr S) ∧ mMakeS cl mt mr := by
  have z2 : (2 : Int32).toInt = 2 := rfl
  by_cases h2 : 2 ≤ n
  · obtain ⟨a1, a2, a3, a4⟩ := run_segs ⟨hT.2.1, hT.2.2.1⟩ h h2 hcl (fun hc => hring hc h2)
    exact ⟨make_eq hT a1 a2 a3 hcl a4 hP, make_safe hT (by have := h.2.1; have := h.2.2.1; omega) a3.2 a4⟩
  · have hm : ¬ 2 ≤ mr.2.2 := by rw [Int32.le_iff_toInt_le]; have := h.2.1; omega
    have hr : ¬ 2 ≤ r.2.2.1 := by rw [Int32.le_iff_toInt_le]; have := h.1; omega
    have e1 : ruSegs r = 0 := by unfold ruSegs; rw [if_neg hr]
    refine ⟨?_, fun hq => absurd hq hm⟩
    unfold olMake mMake
    rw [if_pos e1, if_neg hm]
    exact hP
theorem RN.zero {r : RU} {mr : MR} {v : Int32} : RN (ruStart v r) (mr.1, mr.2.1, 0) 0 := ⟨rfl, rfl, by omega, fun i hi => by omega, fun i hi => by omega⟩
theorem i64_inj {x y : Int32} (h : x.toInt64 = y.toInt64) : x = y := by
  have h1 := congrArg Int64.toInt h
  rw [Int32.toInt_toInt64, Int32.toInt_toInt64] at h1
  exact Int32.toInt_inj.mp h1
theorem RN.app {r : RU} {mr : MR} {n : Nat} {px py : Int32} (h : RN r mr n) (hn : n ≤ 2001) (hx : pl29 px) (hy : pl29 py) (hne : 0 < n → ¬ (r.1 (n - 1) = px ∧ r.2.1 (n - 1) = py)) :
    RN (upd r.1 n px, upd r.2.1 n py, r.2.2.1 + 1, r.2.2.2) (mAdd px.toInt64 py.toInt64 mr) (n + 1) := by
  obtain ⟨h1, h3, h4, h5, h6⟩ := h
  have c1 := rl_cl h3
  unfold mAdd
  rw [c1]
  refine ⟨?_, ?_, by omega, fun i hi => ?_, fun i hi => ?_⟩
  · show (r.2.2.1 + 1).toInt = ((n + 1 : Nat) : Int)
    rw [sq_succ (by omega) (by omega)]; omega
  · show (mr.2.2 + 1).toInt = ((n + 1 : Nat) : Int)
    rw [sq_succ (by omega) (by omega)]; omega
  · show vp_updL mr.1 n px.toInt64 i = (upd r.1 n px i).toInt64 ∧ vp_updL mr.2.1 n py.toInt64 i = (upd r.2.1 n py i).toInt64 ∧ pl29 (upd r.1 n px i) ∧ pl29 (upd r.2.1 n py i)
    by_cases hin : i = n
    · subst hin
      rw [updL_same, updL_same, upd_same, upd_same]
      exact ⟨rfl, rfl, hx, hy⟩
    · rw [updL_ne hin, updL_ne hin, upd_ne hin, upd_ne hin]
      exact h5 i (by omega)
  · show ¬ (upd r.1 n px i = upd r.1 n px (i + 1) ∧ upd r.2.1 n py i = upd r.2.1 n py (i + 1))
    by_cases hin : i + 1 = n
    · rw [upd_ne (show i ≠ n by omega), upd_ne (show i ≠ n by omega), hin, upd_same, upd_same]
      have := hne (by omega)
      rw [show n - 1 = i by omega] at this
      exact this
    · rw [upd_ne (show i ≠ n by omega), upd_ne (show i ≠ n by omega), upd_ne hin, upd_ne hin]
      exact h6 i (by omega)
theorem RN.pass {r : RU} {mr : MR} {n : Nat} {px py : Int32} (h : RN r mr n) (hn : n ≤ 2001) (hx : pl29 px) (hy : pl29 py) : ∃ k, RN (ruAdd px py r) (mPass px.toInt64 py.toInt64 mr) k ∧ k ≤ n + 1 ∧ (ruAdd px py r).2.2.2 = r.2.2.2 := by
  have hcopy := h
  obtain ⟨h1, h3, h4, h5, h6⟩ := h
  have z0 : (0 : Int32).toInt = 0 := rfl
  have z1 : (2002 : Int32).toInt = 2002 := rfl
  have c1 := rl_cl h1
  have hadd : (¬ r.2.2.1 < 0) ∧ r.2.2.1 < 2002 := ⟨by rw [Int32.lt_iff_toInt_lt]; omega, by rw [Int32.lt_iff_toInt_lt]; omega⟩
  by_cases h0 : n = 0
  · have e1 : ruAdd px py r = (upd r.1 n px, upd r.2.1 n py, r.2.2.1 + 1, r.2.2.2) := by
      unfold ruAdd
      rw [if_neg (fun hc => hc.1 (by rw [Int32.lt_iff_toInt_lt, sq_pred (by omega)]; omega)), if_neg hadd.1, if_pos hadd.2, c1]
    have e2 : mPass px.toInt64 py.toInt64 mr = mAdd px.toInt64 py.toInt64 mr := by
      unfold mPass
      rw [if_pos (Int32.toInt_inj.mp (by omega))]
    rw [e1, e2]
    exact ⟨n + 1, hcopy.app hn hx hy (fun hq => by omega), by omega, rfl⟩
  · have cp : (r.2.2.1 - 1).toNatClampNeg = n - 1 := rl_cl (by rw [sq_pred (by omega)]; omega)
    have cm : (mr.2.2 - 1).toNatClampNeg = n - 1 := rl_cl (by rw [sq_pred (by omega)]; omega)
    have hz : ¬ mr.2.2 = 0 := fun e => by rw [e] at h3; omega
    have q := h5 (n - 1) (by omega)
    by_cases hs : r.1 (n - 1) = px ∧ r.2.1 (n - 1) = py
    · have e1 : ruAdd px py r = r := by
        unfold ruAdd
        rw [cp, if_pos ⟨by rw [Int32.lt_iff_toInt_lt, sq_pred (by omega)]; omega, by rw [Int32.le_iff_toInt_le, sq_pred (by omega)]; omega, hs.1, hs.2⟩]
      have e2 : mPass px.toInt64 py.toInt64 mr = mr := by
        unfold mPass
        rw [if_neg hz, cm, if_pos (by rw [q.1, hs.1]), if_pos (by rw [q.2.1, hs.2])]
      rw [e1, e2]
      exact ⟨n, hcopy, by omega, rfl⟩
    · have e1 : ruAdd px py r = (upd r.1 n px, upd r.2.1 n py, r.2.2.1 + 1, r.2.2.2) := by
        unfold ruAdd
        rw [cp, if_neg (fun hc => hs ⟨hc.2.2.1, hc.2.2.2⟩), if_neg hadd.1, if_pos hadd.2, c1]
      have e2 : mPass px.toInt64 py.toInt64 mr = mAdd px.toInt64 py.toInt64 mr := by
        unfold mPass
        rw [if_neg hz, cm, q.1, q.2.1]
        by_cases hx2 : (r.1 (n - 1)).toInt64 = px.toInt64
        · rw [if_pos hx2, if_neg (fun e => hs ⟨i64_inj hx2, i64_inj e⟩)]
        · rw [if_neg hx2]
      rw [e1, e2]
      exact ⟨n + 1, hcopy.app hn hx hy (fun _ => hs), by omega, rfl⟩
/-- a row of both sides -/
def RW (r : RU) (mw : MW) (n : Nat) : Prop :=
  r.2.2.1.toInt = (n : Int) ∧ mw.2.2.toInt = (n : Int) ∧ n ≤ 2000 ∧ (∀ i, i < n → mw.1 i = r.1 i ∧ mw.2.1 i = r.2.1 i ∧ pl29 (r.1 i) ∧ pl29 (r.2.1 i)) ∧ (∀ i, i + 1 < n → ¬ (r.1 i = r.1 (i + 1) ∧ r.2.1 i = r.2.1 (i + 1)))
theorem fill_ok {r : RU} {mw : MW} {n : Nat} (h : RW r mw n) : ∀ (m k : Nat) (i : Int32) (mr : MR), i.toInt = (k : Int) → k ≤ n → n < k + m → mr.2.2.toInt = (k : Int) → (∀ j, j < k → mr.1 j = (r.1 j).toInt64 ∧ mr.2.1 j = (r.2.1 j).toInt64) →
    (mFill mw m i mr).2.2.toInt = (n : Int) ∧ ∀ j, j < n → (mFill mw m i mr).1 j = (r.1 j).toInt64 ∧ (mFill mw m i mr).2.1 j = (r.2.1 j).toInt64 := by
  obtain ⟨h1, h2, h3, h4, h5⟩ := h
  intro m
  induction m with
  | zero => intro k i mr hi hk hm; omega
  | succ m ih =>
    intro k i mr hi hk hm hr hj
    unfold mFill
    by_cases hc : mw.2.2 ≤ i
    · rw [if_pos hc]
      rw [Int32.le_iff_toInt_le] at hc
      have e : k = n := by omega
      subst e
      exact ⟨hr, hj⟩
    · rw [if_neg hc]
      rw [Int32.le_iff_toInt_le] at hc
      have q := h4 k (by omega)
      have c1 := rl_cl hi
      have c2 := rl_cl hr
      refine ih (k + 1) (i + 1) _ (by rw [sq_succ (by omega) (by omega)]; omega) (by omega) (by omega) ?_ ?_
      · show (mr.2.2 + 1).toInt = ((k + 1 : Nat) : Int)
        rw [sq_succ (by omega) (by omega)]; omega
      · intro j hjk
        show vp_updL mr.1 mr.2.2.toNatClampNeg (mw.1 i.toNatClampNeg).toInt64 j = _ ∧ vp_updL mr.2.1 mr.2.2.toNatClampNeg (mw.2.1 i.toNatClampNeg).toInt64 j = _
        rw [c1, c2, q.1, q.2.1]
        by_cases hjk2 : j = k
        · subst hjk2
          rw [updL_same, updL_same]
          exact ⟨rfl, rfl⟩
        · rw [updL_ne hjk2, updL_ne hjk2]
          exact hj j (by omega)
theorem RW.fil {r : RU} {mw : MW} {n : Nat} (h : RW r mw n) (mr : MR) : RN r (mFil mw mr) n := by
  obtain ⟨a, b⟩ := fill_ok h 2001 0 0 (mr.1, mr.2.1, 0) rfl (by omega) (by have := h.2.2.1; omega) rfl (fun j hj => by omega)
  exact ⟨h.1, a, by have := h.2.2.1; omega, fun i hi => ⟨(b i hi).1, (b i hi).2, (h.2.2.2.1 i hi).2.2.1, (h.2.2.2.1 i hi).2.2.2⟩, h.2.2.2.2⟩
