/-! a row's points are taken alike on both sides -/
theorem RW.app {r : RU} {mw : MW} {n : Nat} {px py : Int32} (h : RW r mw n) (hn : n ≤ 1999) (hx : pl29 px) (hy : pl29 py) (hne : 0 < n → ¬ (r.1 (n - 1) = px ∧ r.2.1 (n - 1) = py)) :
    RW (upd r.1 n px, upd r.2.1 n py, r.2.2.1 + 1, r.2.2.2) (mColA px py mw) (n + 1) := by
  obtain ⟨h1, h3, h4, h5, h6⟩ := h
  have c1 := rl_cl h3
  unfold mColA
  rw [c1]
  refine ⟨?_, ?_, by omega, fun i hi => ?_, fun i hi => ?_⟩
  · show (r.2.2.1 + 1).toInt = ((n + 1 : Nat) : Int)
    rw [sq_succ (by omega) (by omega)]; omega
  · show (mw.2.2 + 1).toInt = ((n + 1 : Nat) : Int)
    rw [sq_succ (by omega) (by omega)]; omega
  · show upd mw.1 n px i = upd r.1 n px i ∧ upd mw.2.1 n py i = upd r.2.1 n py i ∧ pl29 (upd r.1 n px i) ∧ pl29 (upd r.2.1 n py i)
    by_cases hin : i = n
    · subst hin
      rw [upd_same, upd_same, upd_same, upd_same]
      exact ⟨rfl, rfl, hx, hy⟩
    · rw [upd_ne hin, upd_ne hin, upd_ne hin, upd_ne hin]
      exact h5 i (by omega)
  · show ¬ (upd r.1 n px i = upd r.1 n px (i + 1) ∧ upd r.2.1 n py i = upd r.2.1 n py (i + 1))
    by_cases hin : i + 1 = n
    · rw [upd_ne (show i ≠ n by omega), upd_ne (show i ≠ n by omega), hin, upd_same, upd_same]
      have := hne (by omega)
      rw [show n - 1 = i by omega] at this
      exact this
    · rw [upd_ne (show i ≠ n by omega), upd_ne (show i ≠ n by omega), upd_ne hin, upd_ne hin]
      exact h6 i (by omega)
theorem RW.add {r : RU} {mw : MW} {n : Nat} {px py : Int32} (h : RW r mw n) (hn : n ≤ 1999) (hx : pl29 px) (hy : pl29 py) : ∃ k, RW (ruAdd px py r) (mColAdd px py mw) k ∧ k ≤ n + 1 ∧ (ruAdd px py r).2.2.2 = r.2.2.2 := by
  have hcopy := h
  obtain ⟨h1, h3, h4, h5, h6⟩ := h
  have z0 : (0 : Int32).toInt = 0 := rfl
  have z1 : (2002 : Int32).toInt = 2002 := rfl
  have c1 := rl_cl h1
  have hadd : (¬ r.2.2.1 < 0) ∧ r.2.2.1 < 2002 := ⟨by rw [Int32.lt_iff_toInt_lt]; omega, by rw [Int32.lt_iff_toInt_lt]; omega⟩
  by_cases h0 : n = 0
  · have e1 : ruAdd px py r = (upd r.1 n px, upd r.2.1 n py, r.2.2.1 + 1, r.2.2.2) := by
      unfold ruAdd
      rw [if_neg (fun hc => hc.1 (by rw [Int32.lt_iff_toInt_lt, sq_pred (by omega)]; omega)), if_neg hadd.1, if_pos hadd.2, c1]
    have e2 : mColAdd px py mw = mColA px py mw := by
      unfold mColAdd
      rw [if_pos (Int32.toInt_inj.mp (by omega))]
    rw [e1, e2]
    exact ⟨n + 1, hcopy.app hn hx hy (fun hq => by omega), by omega, rfl⟩
  · have cp : (r.2.2.1 - 1).toNatClampNeg = n - 1 := rl_cl (by rw [sq_pred (by omega)]; omega)
    have cm : (mw.2.2 - 1).toNatClampNeg = n - 1 := rl_cl (by rw [sq_pred (by omega)]; omega)
    have hz : ¬ mw.2.2 = 0 := fun e => by rw [e] at h3; omega
    have q := h5 (n - 1) (by omega)
    by_cases hs : r.1 (n - 1) = px ∧ r.2.1 (n - 1) = py
    · have e1 : ruAdd px py r = r := by
        unfold ruAdd
        rw [cp, if_pos ⟨by rw [Int32.lt_iff_toInt_lt, sq_pred (by omega)]; omega, by rw [Int32.le_iff_toInt_le, sq_pred (by omega)]; omega, hs.1, hs.2⟩]
      have e2 : mColAdd px py mw = mw := by
        unfold mColAdd
        rw [if_neg hz, cm, if_pos (by rw [q.1, hs.1]), if_pos (by rw [q.2.1, hs.2])]
      rw [e1, e2]
      exact ⟨n, hcopy, by omega, rfl⟩
    · have e1 : ruAdd px py r = (upd r.1 n px, upd r.2.1 n py, r.2.2.1 + 1, r.2.2.2) := by
        unfold ruAdd
        rw [cp, if_neg (fun hc => hs ⟨hc.2.2.1, hc.2.2.2⟩), if_neg hadd.1, if_pos hadd.2, c1]
      have e2 : mColAdd px py mw = mColA px py mw := by
        unfold mColAdd
        rw [if_neg hz, cm, q.1, q.2.1]
        by_cases hx2 : r.1 (n - 1) = px
        · rw [if_pos hx2, if_neg (fun e => hs ⟨hx2, e⟩)]
        · rw [if_neg hx2]
      rw [e1, e2]
      exact ⟨n + 1, hcopy.app hn hx hy (fun _ => hs), by omega, rfl⟩
/-- where a row ends -/
def rEnd (n c : Nat) (f : Nat → Nat) (j : Nat) : Nat := if j + 1 < c then f (j + 1) else n
theorem rEnd_le {w : LR} {mp : MP} {n c j : Nat} {f : Nat → Nat} (h : RPn w mp n c f) (hj : j < c) : f j < rEnd n c f j ∧ rEnd n c f j ≤ n := by
  obtain ⟨a1, a2, a3, a4, a5, a6, a7, a8, a9, a10, a11, a12, a13, a14, a15, a16⟩ := h
  unfold rEnd
  split
  · next hq => exact ⟨a10 j hq, Nat.le_of_lt (a8 (j + 1) hq).2⟩
  · exact ⟨(a8 j hj).2, Nat.le_refl n⟩
theorem copy_loop {w : LR} {mp : MP} {n c j : Nat} {f : Nat → Nat} {z F : Int32} (h : RPn w mp n c f) (hj : j < c) (hz : z.toInt = (rEnd n c f j : Int)) (hF : F.toInt = (f j : Int)) :
    ∀ (q I : Nat) (i : Int32) (r : RU) (mw : MW) (m : Nat), i.toInt = (I : Int) → f j ≤ I → I ≤ rEnd n c f j → rEnd n c f j < I + q → RW r mw m → m + f j ≤ I →
      ∃ m', RW (lrCopyL w z q i r) (mColL mp F q i mw).2 m' ∧ (mColL mp F q i mw).1.toInt = (rEnd n c f j : Int) ∧ (lrCopyL w z q i r).2.2.2 = r.2.2.2 := by
  have hre := rEnd_le h hj
  obtain ⟨a1, a2, a3, a4, a5, a6, a7, a8, a9, a10, a11, a12, a13, a14, a15, a16⟩ := h
  have z0 : (0 : Int32).toInt = 0 := rfl
  have z1 : (2000 : Int32).toInt = 2000 := rfl
  intro q
  induction q with
  | zero => intro I i r mw m h1 h2 h3 h4; omega
  | succ q ih =>
    intro I i r mw m hi hI1 hI2 hq hR hm
    have hcl := rl_cl hi
    by_cases hst : I = rEnd n c f j
    · have e1 : lrCopyL w z (q + 1) i r = r := by
        unfold lrCopyL
        rw [if_neg (by rw [Int32.lt_iff_toInt_lt]; omega), if_pos (by rw [Int32.le_iff_toInt_le]; omega)]
      have e2 : mColL mp F (q + 1) i mw = (i, mw) := by
        unfold mColL
        by_cases hp : mp.2.2.2.1 ≤ i
        · rw [if_pos hp]
        · rw [if_neg hp, if_neg (fun e => by rw [e] at hi; omega)]
          rw [Int32.le_iff_toInt_le] at hp
          have hjc : j + 1 < c := by
            by_cases hjc : j + 1 < c
            · exact hjc
            · exfalso
              unfold rEnd at hst
              rw [if_neg hjc] at hst
              omega
          have eI : I = f (j + 1) := by
            rw [hst]
            unfold rEnd
            rw [if_pos hjc]
          have hmk : ¬ mp.2.2.1 i.toNatClampNeg = 0 := by
            rw [hcl, eI, a11 (j + 1) hjc]
            split <;> decide
          rw [if_neg hmk]
      rw [e1, e2]
      exact ⟨m, hR, by show i.toInt = _; rw [hi, hst], rfl⟩
    · have hIlt : I < rEnd n c f j := by omega
      have hIn : I < n := by omega
      have pt := a7 I hIn
      have hi1 : (i + 1).toInt = ((I + 1 : Nat) : Int) := by rw [sq_succ (by omega) (by omega)]; omega
      have e1 : lrCopyL w z (q + 1) i r = lrCopyL w z q (i + 1) (ruAdd (w.1 I) (w.2.1 I) r) := by
        show (if i < 0 then r else if z ≤ i then r else if 2000 ≤ i then r else lrCopyL w z q (i + 1) (ruAdd (w.1 i.toNatClampNeg) (w.2.1 i.toNatClampNeg) r)) = _
        rw [if_neg (by rw [Int32.lt_iff_toInt_lt]; omega), if_neg (by rw [Int32.le_iff_toInt_le]; omega), if_neg (by rw [Int32.le_iff_toInt_le]; omega), hcl]
      have e2 : mColL mp F (q + 1) i mw = mColL mp F q (i + 1) (mColAdd (w.1 I) (w.2.1 I) mw) := by
        show (if mp.2.2.2.1 ≤ i then (i, mw) else if i = F then mColL mp F q (i + 1) (mColAdd (mp.1 i.toNatClampNeg) (mp.2.1 i.toNatClampNeg) mw) else if mp.2.2.1 i.toNatClampNeg = 0 then mColL mp F q (i + 1) (mColAdd (mp.1 i.toNatClampNeg) (mp.2.1 i.toNatClampNeg) mw) else (i, mw)) = _
        rw [if_neg (by rw [Int32.le_iff_toInt_le]; omega), hcl, ← pt.1, ← pt.2.1]
        by_cases hiF : i = F
        · rw [if_pos hiF]
        · rw [if_neg hiF]
          have hne := sq_ne hiF
          have h0 : mp.2.2.1 I = 0 := by
            refine a12 j I hj (by omega) hIn (fun hjc => ?_)
            unfold rEnd at hIlt
            rw [if_pos hjc] at hIlt
            exact hIlt
          rw [if_pos h0]
      rw [e1, e2]
      obtain ⟨m1, q1, q2, q3⟩ := hR.add (px := w.1 I) (py := w.2.1 I) (by omega) (pl_of pt.2.2.1) (pl_of pt.2.2.2)
      obtain ⟨m', k1, k2, k3⟩ := ih (I + 1) (i + 1) _ _ m1 hi1 (by omega) (by omega) (by omega) q1 (by omega)
      exact ⟨m', k1, k2, k3.trans q3⟩
theorem drop_loop {mm : Int32} : ∀ (q : Nat) (r : RU) (mw : MW) (m : Nat), RW r mw m → m < q → (mm = 3 ↔ ¬ r.2.2.2 = 0) →
    ∃ m', RW (ruDrop q r) (mColD mm q mw) m' ∧ (ruDrop q r).2.2.2 = r.2.2.2 ∧ (¬ r.2.2.2 = 0 → 2 ≤ m' → ¬ ((ruDrop q r).1 (m' - 1) = (ruDrop q r).1 0 ∧ (ruDrop q r).2.1 (m' - 1) = (ruDrop q r).2.1 0)) := by
  intro q
  induction q with
  | zero => intro r mw m _ h; omega
  | succ q ih =>
    intro r mw m hR hq hmm
    have hcopy := hR
    obtain ⟨h1, h3, h4, h5, h6⟩ := hR
    have z0 : (0 : Int32).toInt = 0 := rfl
    have z1 : (1 : Int32).toInt = 1 := rfl
    have z2 : (2002 : Int32).toInt = 2002 := rfl
    have zc : (0 : Int32).toNatClampNeg = 0 := rfl
    unfold ruDrop mColD
    by_cases hr : r.2.2.2 = 0
    · rw [if_pos hr, if_neg (fun e => hmm.mp e hr)]
      exact ⟨m, hcopy, rfl, fun hc => absurd hr hc⟩
    · rw [if_neg hr, if_pos (hmm.mpr hr)]
      have hp : (r.2.2.1 - 1).toInt = (m : Int) - 1 := by rw [sq_pred (by omega)]; omega
      have hpm : (mw.2.2 - 1).toInt = (m : Int) - 1 := by rw [sq_pred (by omega)]; omega
      by_cases hm1 : m ≤ 1
      · rw [if_pos (show r.2.2.1 - 1 ≤ 0 by rw [Int32.le_iff_toInt_le]; omega), if_pos (show mw.2.2 ≤ 1 by rw [Int32.le_iff_toInt_le]; omega)]
        exact ⟨m, hcopy, rfl, fun _ hc => by omega⟩
      · rw [if_neg (show ¬ r.2.2.1 - 1 ≤ 0 by rw [Int32.le_iff_toInt_le]; omega), if_neg (show ¬ 2002 ≤ r.2.2.1 - 1 by rw [Int32.le_iff_toInt_le]; omega), if_neg (show ¬ mw.2.2 ≤ 1 by rw [Int32.le_iff_toInt_le]; omega)]
        have cp : (r.2.2.1 - 1).toNatClampNeg = m - 1 := rl_cl (by omega)
        have cm : (mw.2.2 - 1).toNatClampNeg = m - 1 := rl_cl (by omega)
        have ql := h5 (m - 1) (by omega)
        have qf := h5 0 (by omega)
        rw [cp, cm, zc, ql.1, ql.2.1, qf.1, qf.2.1]
        by_cases hx : r.1 (m - 1) = r.1 0
        · rw [if_pos hx, if_pos hx]
          by_cases hy : r.2.1 (m - 1) = r.2.1 0
          · rw [if_pos hy, if_pos hy]
            have hR2 : RW (r.1, r.2.1, r.2.2.1 - 1, r.2.2.2) (mw.1, mw.2.1, mw.2.2 - 1) (m - 1) :=
              ⟨by show (r.2.2.1 - 1).toInt = ((m - 1 : Nat) : Int); omega, by show (mw.2.2 - 1).toInt = ((m - 1 : Nat) : Int); omega, by omega, fun i hi => h5 i (by omega), fun i hi => h6 i (by omega)⟩
            exact ih _ _ (m - 1) hR2 (by omega) hmm
          · rw [if_neg hy, if_neg hy]
            exact ⟨m, hcopy, rfl, fun _ _ hc => hy hc.2⟩
        · rw [if_neg hx, if_neg hx]
          exact ⟨m, hcopy, rfl, fun _ _ hc => hx hc.1⟩
theorem row_copy {w : LR} {mp : MP} {n c j : Nat} {f : Nat → Nat} {J F : Int32} (h : RPn w mp n c f) (hj : j < c) (hJ : J.toInt = (j : Int)) (hF : F.toInt = (f j : Int)) (rr : RU) (mw : MW) :
    ∃ N, RW (lrCopy J w rr) (mCollect mp F mw) N ∧ (mCol0 mp F mw).1.toInt = (rEnd n c f j : Int) ∧ (mCl mp F = 0 ↔ (lrCopy J w rr).2.2.2 = 0) ∧ (¬ mCl mp F = 0 → 2 ≤ N → ¬ ((lrCopy J w rr).1 (N - 1) = (lrCopy J w rr).1 0 ∧ (lrCopy J w rr).2.1 (N - 1) = (lrCopy J w rr).2.1 0)) := by
  have hre := rEnd_le h hj
  have hcopy := h
  obtain ⟨a1, a2, a3, a4, a5, a6, a7, a8, a9, a10, a11, a12, a13, a14, a15, a16⟩ := h
  have z0 : (0 : Int32).toInt = 0 := rfl
  have z1 : (2000 : Int32).toInt = 2000 := rfl
  have hcl := rl_cl hJ
  have hclF := rl_cl hF
  have hJ1 : (J + 1).toInt = ((j + 1 : Nat) : Int) := by rw [sq_succ (by omega) (by omega)]; omega
  have eF : w.2.2.1 j = F := Int32.toInt_inj.mp (by rw [(a8 j hj).1, hF])
  have eE : (lrEnd J w).toInt = (rEnd n c f j : Int) := by
    unfold lrEnd rEnd
    by_cases hjc : j + 1 < c
    · rw [if_neg (by rw [Int32.le_iff_toInt_le]; omega), if_neg (by rw [Int32.le_iff_toInt_le]; omega), if_pos hjc, rl_cl hJ1]
      exact (a8 (j + 1) hjc).1
    · rw [if_pos (by rw [Int32.le_iff_toInt_le]; omega), if_neg hjc]
      exact a1
  have e1 : lrCopy J w rr = ruDrop 2003 (lrCopyL w (lrEnd J w) 2001 F (ruStart (w.2.2.2.1 j) rr)) := by
    unfold lrCopy
    rw [if_neg (by rw [Int32.lt_iff_toInt_lt]; omega), if_neg (by rw [Int32.le_iff_toInt_le]; omega), if_pos (by rw [Int32.lt_iff_toInt_lt]; omega), hcl, eF]
  have hR0 : RW (ruStart (w.2.2.2.1 j) rr) (mw.1, mw.2.1, 0) 0 := ⟨rfl, rfl, by omega, fun i hi => by omega, fun i hi => by omega⟩
  obtain ⟨m', k1, k2, k3⟩ := copy_loop hcopy hj eE hF 2001 (f j) F _ _ 0 hF (Nat.le_refl _) (by omega) (by omega) hR0 (by omega)
  have k3 : (lrCopyL w (lrEnd J w) 2001 F (ruStart (w.2.2.2.1 j) rr)).2.2.2 = w.2.2.2.1 j := k3
  have hmk : mp.2.2.1 F.toNatClampNeg = (if w.2.2.2.1 j = 0 then 1 else 3) := by rw [hclF]; exact a11 j hj
  have hmm : mp.2.2.1 F.toNatClampNeg = 3 ↔ ¬ (lrCopyL w (lrEnd J w) 2001 F (ruStart (w.2.2.2.1 j) rr)).2.2.2 = 0 := by
    rw [k3, hmk]
    split
    · next q => exact ⟨fun hc => absurd hc (by decide), fun hc => absurd q hc⟩
    · next q => exact ⟨fun _ => q, fun _ => rfl⟩
  have hm2 : m' < 2003 := by have := k1.2.2.1; omega
  obtain ⟨N, q1, q2, q3⟩ := drop_loop (mm := mp.2.2.1 F.toNatClampNeg) 2003 _ _ m' k1 hm2 hmm
  rw [e1]
  have hcl0 : mCl mp F = 0 ↔ w.2.2.2.1 j = 0 := by
    unfold mCl
    rw [hmk]
    by_cases q : w.2.2.2.1 j = 0
    · rw [if_pos q, if_neg (by decide)]
      exact ⟨fun _ => q, fun _ => rfl⟩
    · rw [if_neg q, if_pos rfl]
      exact ⟨fun hc => absurd hc (by decide), fun hc => absurd hc q⟩
  rw [k3] at q2 q3
  refine ⟨N, q1, k2, ?_, fun hc => q3 (fun e => hc (hcl0.mpr e))⟩
  rw [q2]
  exact hcl0
