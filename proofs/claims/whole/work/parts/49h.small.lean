/-! the other calls -/
theorem RP_mono {w : LR} {mp : MP} {n c : Nat} {f : Nat → Nat} (h : RPn w mp n c f) : ∀ (b a : Nat), a < b → b < c → f a < f b := by
  have h10 := h.2.2.2.2.2.2.2.2.2.1
  intro b
  induction b with
  | zero => intro a hab; omega
  | succ b ih =>
    intro a hab hbc
    have h1 := h10 b hbc
    by_cases hq : a = b
    · subst hq; exact h1
    · have := ih a (by omega) (by omega)
      omega
theorem sq_bo_upd {f : Nat → Int32} {k : Nat} {v : Int32} (h : ∀ j, sq_bo (f j)) (hv : sq_bo v) (j : Nat) : sq_bo (upd f k v j) := by
  unfold upd
  split
  · exact hv
  · exact h j
theorem sq_bo01 {x : Int32} (h : x = 0 ∨ x = 1) : sq_bo x := by
  rcases h with rfl | rfl <;> exact ⟨rfl, rfl⟩
/-- a point more, without a new row -/
theorem RPn.point {w : LR} {mp : MP} {n c : Nat} {f : Nat → Nat} {x y : Int32} (h : RPn w mp n c f) (hn : n < 2000) (hc : 0 < c) (hx : kPlace x.toInt64 = 1) (hy : kPlace y.toInt64 = 1) :
    RPn (upd w.1 n x, upd w.2.1 n y, w.2.2.1, w.2.2.2.1, w.2.2.2.2.1 + 1, w.2.2.2.2.2) (upd mp.1 n x, upd mp.2.1 n y, upd mp.2.2.1 n 0, mp.2.2.2.1 + 1, mp.2.2.2.2) (n + 1) c f := by
  obtain ⟨a1, a2, a3, a4, a5, a6, a7, a8, a9, a10, a11, a12, a13, a14, a15, a16⟩ := h
  refine ⟨?_, ?_, a3, by omega, by omega, fun e => by omega, fun j hj => ?_, fun j hj => ⟨(a8 j hj).1, by have := (a8 j hj).2; omega⟩, a9, a10, fun j hj => ?_, fun j i hj hi hin hnx => ?_, a13, a14, a15, a16⟩
  · show (w.2.2.2.2.1 + 1).toInt = ((n + 1 : Nat) : Int)
    rw [sq_succ (by omega) (by omega)]; omega
  · show (mp.2.2.2.1 + 1).toInt = ((n + 1 : Nat) : Int)
    rw [sq_succ (by omega) (by omega)]; omega
  · show upd w.1 n x j = upd mp.1 n x j ∧ upd w.2.1 n y j = upd mp.2.1 n y j ∧ kPlace (upd w.1 n x j).toInt64 = 1 ∧ kPlace (upd w.2.1 n y j).toInt64 = 1
    by_cases hq : j = n
    · subst hq
      rw [upd_same, upd_same, upd_same, upd_same]
      exact ⟨rfl, rfl, hx, hy⟩
    · rw [upd_ne hq, upd_ne hq, upd_ne hq, upd_ne hq]
      exact a7 j (by omega)
  · show upd mp.2.2.1 n 0 (f j) = _
    rw [upd_ne (by have := (a8 j hj).2; omega)]
    exact a11 j hj
  · show upd mp.2.2.1 n 0 i = 0
    by_cases hq : i = n
    · subst hq; exact upd_same _ _ _
    · rw [upd_ne hq]
      exact a12 j i hj hi (by omega) hnx
/-- a point more, and a new row -/
theorem RPn.row {w : LR} {mp : MP} {n c : Nat} {f : Nat → Nat} {x y : Int32} (h : RPn w mp n c f) (hn : n < 2000) (hx : kPlace x.toInt64 = 1) (hy : kPlace y.toInt64 = 1) :
    RPn (upd w.1 n x, upd w.2.1 n y, upd w.2.2.1 c w.2.2.2.2.1, upd w.2.2.2.1 c 0, w.2.2.2.2.1 + 1, w.2.2.2.2.2 + 1) (upd mp.1 n x, upd mp.2.1 n y, upd mp.2.2.1 n 1, mp.2.2.2.1 + 1, mp.2.2.2.1 + 1 - 1) (n + 1) (c + 1) (fun j => if j = c then n else f j) := by
  obtain ⟨a1, a2, a3, a4, a5, a6, a7, a8, a9, a10, a11, a12, a13, a14, a15, a16⟩ := h
  have hl : (mp.2.2.2.1 + 1 - 1).toInt = (n : Int) := by rw [sq_pred (by rw [sq_succ (by omega) (by omega)]; omega), sq_succ (by omega) (by omega)]; omega
  refine ⟨?_, ?_, ?_, by omega, by omega, fun e => by omega, fun j hj => ?_, fun j hj => ?_, ?_, fun j hj => ?_, fun j hj => ?_, fun j i hj hi hin hnx => ?_, fun _ => ?_, ?_, ?_, fun j => ?_⟩
  · show (w.2.2.2.2.1 + 1).toInt = ((n + 1 : Nat) : Int)
    rw [sq_succ (by omega) (by omega)]; omega
  · show (mp.2.2.2.1 + 1).toInt = ((n + 1 : Nat) : Int)
    rw [sq_succ (by omega) (by omega)]; omega
  · show (w.2.2.2.2.2 + 1).toInt = ((c + 1 : Nat) : Int)
    rw [sq_succ (by omega) (by omega)]; omega
  · show upd w.1 n x j = upd mp.1 n x j ∧ upd w.2.1 n y j = upd mp.2.1 n y j ∧ kPlace (upd w.1 n x j).toInt64 = 1 ∧ kPlace (upd w.2.1 n y j).toInt64 = 1
    by_cases hq : j = n
    · subst hq
      rw [upd_same, upd_same, upd_same, upd_same]
      exact ⟨rfl, rfl, hx, hy⟩
    · rw [upd_ne hq, upd_ne hq, upd_ne hq, upd_ne hq]
      exact a7 j (by omega)
  · show (upd w.2.2.1 c w.2.2.2.2.1 j).toInt = ((if j = c then n else f j : Nat) : Int) ∧ (if j = c then n else f j) < n + 1
    by_cases hq : j = c
    · subst hq
      rw [upd_same, if_pos rfl]
      exact ⟨a1, by omega⟩
    · rw [upd_ne hq, if_neg hq]
      have := a8 j (by omega)
      exact ⟨this.1, by omega⟩
  · show (if 0 = c then n else f 0) = 0
    split
    · next e => exact a6 e.symm
    · exact a9
  · show (if j = c then n else f j) < (if j + 1 = c then n else f (j + 1))
    rw [if_neg (show j ≠ c by omega)]
    split
    · next e => exact (a8 j (by omega)).2
    · exact a10 j (by omega)
  · show upd mp.2.2.1 n 1 (if j = c then n else f j) = (if upd w.2.2.2.1 c 0 j = 0 then 1 else 3)
    by_cases hq : j = c
    · subst hq
      rw [if_pos rfl, upd_same, upd_same, if_pos rfl]
    · rw [if_neg hq, upd_ne hq, upd_ne (by have := (a8 j (by omega)).2; omega)]
      exact a11 j (by omega)
  · show upd mp.2.2.1 n 1 i = 0
    have hi : (if j = c then n else f j) < i := hi
    have hnx : j + 1 < c + 1 → i < (if j + 1 = c then n else f (j + 1)) := hnx
    by_cases hq : j = c
    · rw [if_pos hq] at hi
      omega
    · rw [if_neg hq] at hi
      have hn2 := hnx (by omega)
      by_cases hq2 : j + 1 = c
      · rw [if_pos hq2] at hn2
        rw [upd_ne (by omega)]
        exact a12 j i (by omega) hi hn2 (fun e => by omega)
      · rw [if_neg hq2] at hn2
        have := (a8 (j + 1) (by omega)).2
        rw [upd_ne (by omega)]
        exact a12 j i (by omega) hi (by omega) (fun _ => hn2)
  · show (mp.2.2.2.1 + 1 - 1).toInt = ((if c + 1 - 1 = c then n else f (c + 1 - 1) : Nat) : Int)
    rw [if_pos (by omega)]
    exact hl
  · show 0 ≤ (mp.2.2.2.1 + 1 - 1).toInt
    omega
  · show (mp.2.2.2.1 + 1 - 1).toInt < 2000
    omega
  · exact sq_bo_upd a16 ⟨rfl, rfl⟩ j
theorem byte1 : vp_nar .byte ((1 : Int32).toInt8.toInt32) = 1 := rfl
theorem byte0 : vp_nar .byte ((0 : Int32).toInt8.toInt32) = 0 := rfl
theorem byte3 : vp_nar .byte 3 = 3 := rfl
theorem bool0 : vp_nar .boolean 0 = 0 := rfl
theorem bool1 : vp_nar .boolean 1 = 1 := rfl
theorem move_rp {w : LR} {mp : MP} (h : RP w mp) (x y : Int32) : lrBeginR x y w = mMoveR x y mp ∧ RP (lrBegin x y w) (mMove x y mp) := by
  obtain ⟨n, c, f, h⟩ := h
  have hcopy := h
  obtain ⟨a1, a2, a3, a4, a5, a6, a7, a8, a9, a10, a11, a12, a13, a14, a15, a16⟩ := h
  have z0 : (0 : Int32).toInt = 0 := rfl
  have z1 : (2000 : Int32).toInt = 2000 := rfl
  unfold lrBeginR lrBegin mMoveR mMove
  rcases rl_far x.toInt64 with ⟨q1, q2⟩ | ⟨q1, q2⟩
  · rw [if_pos q1, if_pos q1, if_neg q2, if_neg q2]
    exact ⟨rfl, n, c, f, hcopy⟩
  · have q1n : ¬ kPlace x.toInt64 = 0 := by rw [q1]; decide
    rw [if_neg q1n, if_neg q1n, if_pos q2, if_pos q2]
    rcases rl_far y.toInt64 with ⟨q3, q4⟩ | ⟨q3, q4⟩
    · rw [if_pos q3, if_pos q3, if_neg q4, if_neg q4]
      exact ⟨rfl, n, c, f, hcopy⟩
    · have q3n : ¬ kPlace y.toInt64 = 0 := by rw [q3]; decide
      rw [if_neg q3n, if_neg q3n, if_pos q4, if_pos q4]
      by_cases hn : n = 2000
      · have hp : (2000 : Int32) ≤ w.2.2.2.2.1 := by rw [Int32.le_iff_toInt_le]; omega
        have hm : mp.2.2.2.1 = 2000 := Int32.toInt_inj.mp (by omega)
        have e1 : mPutR mp = (-3) := by unfold mPutR; rw [if_pos hm]
        have e2 : mPut x y 1 mp = mp := by unfold mPut; rw [if_pos hm]
        rw [if_pos hp, if_pos hp, e1, if_pos (by decide), e2]
        exact ⟨rfl, n, c, f, hcopy⟩
      · have hp : ¬ (2000 : Int32) ≤ w.2.2.2.2.1 := by rw [Int32.le_iff_toInt_le]; omega
        have hc0 : ¬ w.2.2.2.2.2 < 0 := by rw [Int32.lt_iff_toInt_lt]; omega
        have hc1 : w.2.2.2.2.2 < 2000 := by rw [Int32.lt_iff_toInt_lt]; omega
        have hm : ¬ mp.2.2.2.1 = 2000 := fun e => by rw [e] at a2; omega
        have cp := rl_cl a1
        have cm := rl_cl a2
        have cc := rl_cl a3
        have e1 : mPutR mp = mp.2.2.2.1 + 1 := by unfold mPutR; rw [if_neg hm]
        have e2 : mPut x y 1 mp = (upd mp.1 n x, upd mp.2.1 n y, upd mp.2.2.1 n 1, mp.2.2.2.1 + 1, mp.2.2.2.2) := by
          unfold mPut
          rw [if_neg hm, cm, byte1]
        have e3 : ¬ mPutR mp ≤ 0 := by rw [e1, Int32.le_iff_toInt_le, sq_succ (by omega) (by omega)]; omega
        have e4 : lrNew w = (w.1, w.2.1, upd w.2.2.1 c w.2.2.2.2.1, upd w.2.2.2.1 c 0, w.2.2.2.2.1, w.2.2.2.2.2 + 1) := by
          unfold lrNew
          rw [cc, bool0]
        have e5 : lrPut x y (lrNew w) = (upd w.1 n x, upd w.2.1 n y, upd w.2.2.1 c w.2.2.2.2.1, upd w.2.2.2.1 c 0, w.2.2.2.2.1 + 1, w.2.2.2.2.2 + 1) := by
          rw [e4]
          unfold lrPut
          show (if w.2.2.2.2.1 < 0 then _ else if w.2.2.2.2.1 < 2000 then _ else _) = _
          rw [if_neg (by rw [Int32.lt_iff_toInt_lt]; omega), if_pos (by rw [Int32.lt_iff_toInt_lt]; omega)]
          show (upd w.1 w.2.2.2.2.1.toNatClampNeg x, upd w.2.1 w.2.2.2.2.1.toNatClampNeg y, upd w.2.2.1 c w.2.2.2.2.1, upd w.2.2.2.1 c 0, w.2.2.2.2.1 + 1, w.2.2.2.2.2 + 1) = _
          rw [cp]
        have e6 : lrPutR x y (lrNew w) = w.2.2.2.2.1 + 1 := by
          rw [e4]
          unfold lrPutR
          show (if w.2.2.2.2.1 < 0 then _ else if w.2.2.2.2.1 < 2000 then _ else _) = _
          rw [if_neg (by rw [Int32.lt_iff_toInt_lt]; omega), if_pos (by rw [Int32.lt_iff_toInt_lt]; omega)]
        have e7 : w.2.2.2.2.1 = mp.2.2.2.1 := Int32.toInt_inj.mp (by omega)
        rw [if_neg hp, if_neg hp, if_neg hc0, if_neg hc0, if_pos hc1, if_pos hc1, if_neg e3, e1, e2, e5, e6]
        exact ⟨by rw [e7], n + 1, c + 1, _, hcopy.row (by omega) q1 q3⟩
theorem line_rp {w : LR} {mp : MP} (h : RP w mp) (x y : Int32) : lrExtR x y w = mLineR x y mp ∧ RP (lrExt x y w) (mLine x y mp) := by
  obtain ⟨n, c, f, h⟩ := h
  have hcopy := h
  obtain ⟨a1, a2, a3, a4, a5, a6, a7, a8, a9, a10, a11, a12, a13, a14, a15, a16⟩ := h
  have z0 : (0 : Int32).toInt = 0 := rfl
  have z1 : (2000 : Int32).toInt = 2000 := rfl
  have hp1 : (w.2.2.2.2.2 - 1).toInt = (c : Int) - 1 := by rw [sq_pred (by omega)]; omega
  unfold lrExtR lrExt mLineR mLine
  by_cases hc : c = 0
  · have hn := a6 hc
    have hm : mp.2.2.2.1 = 0 := Int32.toInt_inj.mp (by omega)
    have hl : w.2.2.2.2.2 - 1 < 0 := by rw [Int32.lt_iff_toInt_lt]; omega
    rw [if_pos hl, if_pos hl, if_pos hm, if_pos hm]
    exact ⟨rfl, n, c, f, hcopy⟩
  · have hm : ¬ mp.2.2.2.1 = 0 := fun e => by rw [e] at a2; omega
    have hl : ¬ w.2.2.2.2.2 - 1 < 0 := by rw [Int32.lt_iff_toInt_lt]; omega
    have hl2 : ¬ (2000 : Int32) ≤ w.2.2.2.2.2 - 1 := by rw [Int32.le_iff_toInt_le]; omega
    have cc : (w.2.2.2.2.2 - 1).toNatClampNeg = c - 1 := rl_cl (by omega)
    have cl : mp.2.2.2.2.toNatClampNeg = f (c - 1) := rl_cl (a13 (by omega))
    have hmk := a11 (c - 1) (by omega)
    rw [if_neg hl, if_neg hl, if_neg hl2, if_neg hl2, if_neg hm, if_neg hm, cc, cl, hmk]
    by_cases hk : w.2.2.2.1 (c - 1) = 0
    · have h13 : ¬ ((1 : Int32) = 3) := by decide
      rw [if_pos hk, if_pos hk, if_pos hk, if_neg h13, if_neg h13]
      rcases rl_far x.toInt64 with ⟨q1, q2⟩ | ⟨q1, q2⟩
      · rw [if_pos q1, if_pos q1, if_neg q2, if_neg q2]
        exact ⟨rfl, n, c, f, hcopy⟩
      · have q1n : ¬ kPlace x.toInt64 = 0 := by rw [q1]; decide
        rw [if_neg q1n, if_neg q1n, if_pos q2, if_pos q2]
        rcases rl_far y.toInt64 with ⟨q3, q4⟩ | ⟨q3, q4⟩
        · rw [if_pos q3, if_pos q3, if_neg q4, if_neg q4]
          exact ⟨rfl, n, c, f, hcopy⟩
        · have q3n : ¬ kPlace y.toInt64 = 0 := by rw [q3]; decide
          rw [if_neg q3n, if_neg q3n, if_pos q4, if_pos q4]
          unfold lrPutR lrPut mPutR mPut
          have hnn : ¬ w.2.2.2.2.1 < 0 := by rw [Int32.lt_iff_toInt_lt]; omega
          by_cases hn : n = 2000
          · have hp : ¬ w.2.2.2.2.1 < 2000 := by rw [Int32.lt_iff_toInt_lt]; omega
            have hm2 : mp.2.2.2.1 = 2000 := Int32.toInt_inj.mp (by omega)
            rw [if_neg hnn, if_neg hnn, if_neg hp, if_neg hp, if_pos hm2, if_pos hm2]
            exact ⟨rfl, n, c, f, hcopy⟩
          · have hp : w.2.2.2.2.1 < 2000 := by rw [Int32.lt_iff_toInt_lt]; omega
            have hm2 : ¬ mp.2.2.2.1 = 2000 := fun e => by rw [e] at a2; omega
            have e7 : w.2.2.2.2.1 = mp.2.2.2.1 := Int32.toInt_inj.mp (by omega)
            rw [if_neg hnn, if_neg hnn, if_pos hp, if_pos hp, if_neg hm2, if_neg hm2, rl_cl a1, rl_cl a2, byte0]
            exact ⟨by rw [e7], n + 1, c, f, hcopy.point (by omega) (by omega) q1 q3⟩
    · rw [if_neg hk, if_neg hk, if_neg hk, if_pos rfl, if_pos rfl]
      exact ⟨rfl, n, c, f, hcopy⟩
theorem close_rp {w : LR} {mp : MP} (h : RP w mp) : lrShutR w = mCloseR mp ∧ RP (lrShut w) (mClose mp) := by
  obtain ⟨n, c, f, h⟩ := h
  have hcopy := h
  have hmono := RP_mono h
  obtain ⟨a1, a2, a3, a4, a5, a6, a7, a8, a9, a10, a11, a12, a13, a14, a15, a16⟩ := h
  have z0 : (0 : Int32).toInt = 0 := rfl
  have z1 : (2000 : Int32).toInt = 2000 := rfl
  have hp1 : (w.2.2.2.2.2 - 1).toInt = (c : Int) - 1 := by rw [sq_pred (by omega)]; omega
  unfold lrShutR lrShut mCloseR mClose
  by_cases hc : c = 0
  · have hn := a6 hc
    have hm : mp.2.2.2.1 = 0 := Int32.toInt_inj.mp (by omega)
    have hl : w.2.2.2.2.2 - 1 < 0 := by rw [Int32.lt_iff_toInt_lt]; omega
    rw [if_pos hl, if_pos hl, if_pos hm, if_pos hm]
    exact ⟨rfl, n, c, f, hcopy⟩
  · have hm : ¬ mp.2.2.2.1 = 0 := fun e => by rw [e] at a2; omega
    have hl : ¬ w.2.2.2.2.2 - 1 < 0 := by rw [Int32.lt_iff_toInt_lt]; omega
    have hl2 : w.2.2.2.2.2 - 1 < 2000 := by rw [Int32.lt_iff_toInt_lt]; omega
    have cc : (w.2.2.2.2.2 - 1).toNatClampNeg = c - 1 := rl_cl (by omega)
    have cl : mp.2.2.2.2.toNatClampNeg = f (c - 1) := rl_cl (a13 (by omega))
    have e7 : w.2.2.2.2.1 = mp.2.2.2.1 := Int32.toInt_inj.mp (by omega)
    rw [if_neg hl, if_neg hl, if_pos hl2, if_pos hl2, if_neg hm, if_neg hm, cc, cl, byte3, bool1]
    refine ⟨e7, n, c, f, a1, a2, a3, a4, a5, a6, a7, a8, a9, a10, fun j hj => ?_, fun j i hj hi hin hnx => ?_, a13, a14, a15, sq_bo_upd a16 ⟨rfl, rfl⟩⟩
    · show upd mp.2.2.1 (f (c - 1)) 3 (f j) = (if upd w.2.2.2.1 (c - 1) 1 j = 0 then 1 else 3)
      by_cases hq : j = c - 1
      · subst hq
        rw [upd_same, upd_same, if_neg (by decide)]
      · have := hmono (c - 1) j (by omega) (by omega)
        rw [upd_ne (by omega), upd_ne hq]
        exact a11 j hj
    · show upd mp.2.2.1 (f (c - 1)) 3 i = 0
      have hne : i ≠ f (c - 1) := by
        by_cases hq : j = c - 1
        · subst hq; omega
        · have h1 := hnx (by omega)
          by_cases hq2 : j + 1 = c - 1
          · rw [hq2] at h1; omega
          · have := hmono (c - 1) (j + 1) (by omega) (by omega)
            omega
      rw [upd_ne hne]
      exact a12 j i hj hi hin hnx
theorem clear_rp {w : LR} {mp : MP} (h : RP w mp) : w.2.2.2.2.1 = mp.2.2.2.1 ∧ RP (lrEmpty w) (mClear mp) := by
  obtain ⟨n, c, f, h⟩ := h
  obtain ⟨a1, a2, a3, a4, a5, a6, a7, a8, a9, a10, a11, a12, a13, a14, a15, a16⟩ := h
  refine ⟨Int32.toInt_inj.mp (by omega), 0, 0, fun _ => 0, rfl, rfl, rfl, by omega, by omega, fun _ => rfl, fun j hj => by omega, fun j hj => by omega, rfl, fun j hj => by omega, fun j hj => by omega, fun j i hj => by omega, fun hj => by omega, a14, a15, a16⟩
theorem pen_rt {t : TP} {mt : MT} (h : RT t mt) (a b c e : Int32) : tpOk a b c e = mPenOk a b c e ∧ RT (tpSet a b c e t) (mPen a b c e mt) := by
  have hok : tpOk a b c e = mPenOk a b c e := by
    unfold tpOk mPenOk
    by_cases q1 : a < 1
    · rw [if_pos q1, if_pos q1]
    · rw [if_neg q1, if_neg q1]
      by_cases q2 : 4194304 < a
      · rw [if_pos q2, if_pos q2]
      · rw [if_neg q2, if_neg q2]
        by_cases q3 : b < 0
        · rw [if_pos q3, if_pos q3]
        · rw [if_neg q3, if_neg q3]
          by_cases q4 : b ≤ 1
          · rw [if_pos q4, if_neg (Int32.not_lt.mpr q4)]
          · rw [if_neg q4, if_pos (Int32.not_le.mp q4)]
  refine ⟨hok, ?_⟩
  unfold tpSet mPen
  rw [hok]
  by_cases hq : mPenOk a b c e = 0
  · rw [if_pos hq, if_pos hq]
    exact h
  · rw [if_neg hq, if_neg hq]
    unfold mPenOk at hq
    have z0 : (0 : Int32).toInt = 0 := rfl
    have z1 : (1 : Int32).toInt = 1 := rfl
    have z2 : (4194304 : Int32).toInt = 4194304 := rfl
    have z3 : (65536 : Int32).toInt = 65536 := rfl
    have z4 : (6553600 : Int32).toInt = 6553600 := rfl
    split at hq
    · exact absurd rfl hq
    · next q1 =>
      split at hq
      · exact absurd rfl hq
      · next q2 =>
        split at hq
        · exact absurd rfl hq
        · next q3 =>
          split at hq
          · exact absurd rfl hq
          · next q4 =>
            split at hq
            · exact absurd rfl hq
            · next q5 =>
              split at hq
              · exact absurd rfl hq
              · next q6 =>
                split at hq
                · exact absurd rfl hq
                · next q7 =>
                  split at hq
                  · next q8 =>
                    rw [Int32.lt_iff_toInt_lt] at q1 q2 q3 q4 q5 q6 q7
                    rw [Int32.le_iff_toInt_le] at q8
                    have hb : b = 0 ∨ b = 1 := by
                      rcases Int.lt_or_le b.toInt 1 with hh | hh
                      · exact Or.inl (Int32.toInt_inj.mp (by omega))
                      · exact Or.inr (Int32.toInt_inj.mp (by omega))
                    have hc : c = 0 ∨ c = 1 := by
                      rcases Int.lt_or_le c.toInt 1 with hh | hh
                      · exact Or.inl (Int32.toInt_inj.mp (by omega))
                      · exact Or.inr (Int32.toInt_inj.mp (by omega))
                    have id01 : ∀ v : Int32, v = 0 ∨ v = 1 → (if v = 1 then (1 : Int32) else 0) = v := by
                      intro v hv
                      rcases hv with rfl | rfl <;> rfl
                    exact ⟨rfl, by show 1 ≤ a.toInt; omega, by show a.toInt ≤ 4194304; omega, id01 b hb, hb, id01 c hc, hc, e, rfl, by omega, by omega, rfl⟩
                  · exact absurd rfl hq
