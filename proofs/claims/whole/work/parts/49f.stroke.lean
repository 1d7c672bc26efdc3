/-! a stroke is the same on both sides -/
theorem stroke_loop {w : LR} {mp : MP} {n c : Nat} {f : Nat → Nat} {t : TP} {mt : MT} {d : PT} {md : MD} (h : RPn w mp n c f) (hT : RT t mt) (hD : RD d md) :
    ∀ (q j : Nat) (i pi : Int32) (k : WK) (P : PS) (rd rr : RU) (mw : MW) (mk : MK) (S : MS) (mr : MR), i.toInt = (j : Int) → j ≤ c → pi.toInt = ((if j < c then f j else n : Nat) : Int) → c < j + q → RI P S → (S.2.2.2 = 0 → k.1 = mk.1 ∧ 0 ≤ mk.1.toInt ∧ mk.1.toInt ≤ 20000) →
      mStrP mp md mt q pi mw mk S mr ∧ RI (skRows t d w q i k P rd rr).2.1 (mStrL mp md mt q pi mw mk S mr).2.2.1 ∧ ((mStrL mp md mt q pi mw mk S mr).2.2.1.2.2.2 = 0 → (skRows t d w q i k P rd rr).1.1 = (mStrL mp md mt q pi mw mk S mr).2.1.1) := by
  have hcopy := h
  obtain ⟨a1, a2, a3, a4, a5, a6, a7, a8, a9, a10, a11, a12, a13, a14, a15, a16⟩ := h
  have hD2 := hD
  obtain ⟨d1, d2, d3, d4, d5, d6, d7, d8, d9, d10⟩ := hD2
  have z2 : (2 : Int32).toInt = 2 := rfl
  intro q
  induction q with
  | zero => intro j i pi k P rd rr mw mk S mr h1 h2 h3 h4; omega
  | succ q ih =>
    intro j i pi k P rd rr mw mk S mr hi hj hpi hq hP hA
    by_cases hjc : j < c
    · rw [if_pos hjc] at hpi
      have hfn := (a8 j hjc).2
      have hpp : ¬ mp.2.2.2.1 ≤ pi := by rw [Int32.le_iff_toInt_le]; omega
      have hci : ¬ w.2.2.2.2.2 ≤ i := by rw [Int32.le_iff_toInt_le]; omega
      by_cases h0 : S.2.2.2 = 0
      · have hgo : ¬ psGoing P = 0 := fun e => (psGo hP).mp e h0
        obtain ⟨t1, t2, t3⟩ := hA h0
        have hi1 : (i + 1).toInt = ((j + 1 : Nat) : Int) := by rw [sq_succ (by omega) (by omega)]; omega
        obtain ⟨N, r1, r2, r3, r4⟩ := row_copy hcopy hjc hi hpi rr mw
        have r2' : (mCol0 mp pi mw).1.toInt = ((if j + 1 < c then f (j + 1) else n : Nat) : Int) := r2
        have eM : mStrL mp md mt (q + 1) pi mw mk S mr = mStrL mp md mt q (mCol0 mp pi mw).1 (mCollect mp pi mw) (mSrK (mCl mp pi) md mt (mCollect mp pi mw) mk S mr) (mSrS (mCl mp pi) md mt (mCollect mp pi mw) mk S mr) (mSrR (mCl mp pi) md mt (mCollect mp pi mw) mk S mr) := by
          show (if mp.2.2.2.1 ≤ pi then _ else if S.2.2.2 = 0 then _ else _) = _
          rw [if_neg hpp, if_pos h0]
        have eC : skRows t d w (q + 1) i k P rd rr = (if ptUsed d = 0 then skRows t d w q (i + 1) k (olMake t (lrCopy i w rr) P) rd (lrCopy i w rr) else skRows t d w q (i + 1) (wkAlong t d (lrCopy i w rr) k P rd).1 (wkAlong t d (lrCopy i w rr) k P rd).2.1 (wkAlong t d (lrCopy i w rr) k P rd).2.2 (lrCopy i w rr)) := by
          show (if w.2.2.2.2.2 ≤ i then _ else if psGoing P = 0 then _ else _) = _
          rw [if_neg hci, if_neg hgo]
        rw [eM, eC]
        have goon : ∀ (k' : WK) (P' : PS) (rd' : RU), mSrP (mCl mp pi) md mt (mCollect mp pi mw) mk S mr → RI P' (mSrS (mCl mp pi) md mt (mCollect mp pi mw) mk S mr) →
            ((mSrS (mCl mp pi) md mt (mCollect mp pi mw) mk S mr).2.2.2 = 0 → k'.1 = (mSrK (mCl mp pi) md mt (mCollect mp pi mw) mk S mr).1 ∧ 0 ≤ (mSrK (mCl mp pi) md mt (mCollect mp pi mw) mk S mr).1.toInt ∧ (mSrK (mCl mp pi) md mt (mCollect mp pi mw) mk S mr).1.toInt ≤ 20000) →
            mStrP mp md mt (q + 1) pi mw mk S mr ∧ RI (skRows t d w q (i + 1) k' P' rd' (lrCopy i w rr)).2.1 (mStrL mp md mt q (mCol0 mp pi mw).1 (mCollect mp pi mw) (mSrK (mCl mp pi) md mt (mCollect mp pi mw) mk S mr) (mSrS (mCl mp pi) md mt (mCollect mp pi mw) mk S mr) (mSrR (mCl mp pi) md mt (mCollect mp pi mw) mk S mr)).2.2.1 ∧
            ((mStrL mp md mt q (mCol0 mp pi mw).1 (mCollect mp pi mw) (mSrK (mCl mp pi) md mt (mCollect mp pi mw) mk S mr) (mSrS (mCl mp pi) md mt (mCollect mp pi mw) mk S mr) (mSrR (mCl mp pi) md mt (mCollect mp pi mw) mk S mr)).2.2.1.2.2.2 = 0 →
              (skRows t d w q (i + 1) k' P' rd' (lrCopy i w rr)).1.1 = (mStrL mp md mt q (mCol0 mp pi mw).1 (mCollect mp pi mw) (mSrK (mCl mp pi) md mt (mCollect mp pi mw) mk S mr) (mSrS (mCl mp pi) md mt (mCollect mp pi mw) mk S mr) (mSrR (mCl mp pi) md mt (mCollect mp pi mw) mk S mr)).2.1.1) := by
          intro k' P' rd' hs1 hs2 hs3
          obtain ⟨k1, k2, k3⟩ := ih (j + 1) (i + 1) (mCol0 mp pi mw).1 k' P' rd' (lrCopy i w rr) (mCollect mp pi mw) _ _ (mSrR (mCl mp pi) md mt (mCollect mp pi mw) mk S mr) hi1 (by omega) r2' (by omega) hs2 hs3
          exact ⟨fun _ _ => ⟨by omega, hs1, k1⟩, k2, k3⟩
        have hN1 := r1.1
        have hN2 := r1.2.1
        have hN3 := r1.2.2.1
        by_cases hN : 2 ≤ N
        · have hm2 : 2 ≤ (mCollect mp pi mw).2.2 := by rw [Int32.le_iff_toInt_le]; omega
          by_cases hu : md.2.2.1 ≤ 0
          · have hpu : ptUsed d = 0 := by unfold ptUsed; rw [d3, if_pos hu]
            rw [if_pos hpu]
            obtain ⟨q1, q2⟩ := run_make hT (r1.fil mr) r3 r4 hP
            have e1 : mSrS (mCl mp pi) md mt (mCollect mp pi mw) mk S mr = mMake (mCl mp pi) mt (mFil (mCollect mp pi mw) mr) S := by unfold mSrS; rw [if_pos hm2, if_pos hu]
            have e2 : mSrK (mCl mp pi) md mt (mCollect mp pi mw) mk S mr = mk := by unfold mSrK; rw [if_pos hm2, if_pos hu]
            refine goon k _ rd (fun _ => ⟨by omega, fun _ => q2, fun hq => absurd hu hq⟩) (by rw [e1]; exact q1) (fun _ => by rw [e2]; exact ⟨t1, t2, t3⟩)
          · have hpu : ¬ ptUsed d = 0 := by unfold ptUsed; rw [d3, if_neg hu]; decide
            rw [if_neg hpu]
            obtain ⟨q1, q2, q3⟩ := row_dash hT hD hu r1 hN r3 (fun hc => r4 hc hN) hP h0 ⟨t1, t2, t3⟩ rd mr
            have e1 : mSrS (mCl mp pi) md mt (mCollect mp pi mw) mk S mr = mEndS (mRow (mCl mp pi) md mt (mCollect mp pi mw) mk S mr).1 mt (mRow (mCl mp pi) md mt (mCollect mp pi mw) mk S mr).2.2 (mRow (mCl mp pi) md mt (mCollect mp pi mw) mk S mr).2.1 := by unfold mSrS; rw [if_pos hm2, if_neg hu]
            have e2 : mSrK (mCl mp pi) md mt (mCollect mp pi mw) mk S mr = (mRow (mCl mp pi) md mt (mCollect mp pi mw) mk S mr).1 := by unfold mSrK; rw [if_pos hm2, if_neg hu]
            refine goon _ _ _ (fun _ => ⟨by omega, fun hq => absurd hq hu, fun _ => q1⟩) (by rw [e1]; exact q2) (fun hq => by rw [e1] at hq; rw [e2]; exact q3 hq)
        · have hm2 : ¬ 2 ≤ (mCollect mp pi mw).2.2 := by rw [Int32.le_iff_toInt_le]; omega
          have e1 : mSrS (mCl mp pi) md mt (mCollect mp pi mw) mk S mr = S := by unfold mSrS; rw [if_neg hm2]
          have e2 : mSrK (mCl mp pi) md mt (mCollect mp pi mw) mk S mr = mk := by unfold mSrK; rw [if_neg hm2]
          have e3 : ruSegs (lrCopy i w rr) = 0 := by unfold ruSegs; rw [if_neg (by rw [Int32.le_iff_toInt_le]; omega)]
          have e4 : olMake t (lrCopy i w rr) P = P := by unfold olMake; rw [if_pos e3]
          have e5 : wkAlong t d (lrCopy i w rr) k P rd = (k, P, rd) := by unfold wkAlong; rw [if_pos e3]
          rw [e4, e5]
          have hgg : (if ptUsed d = 0 then skRows t d w q (i + 1) k P rd (lrCopy i w rr) else skRows t d w q (i + 1) (k, P, rd).1 (k, P, rd).2.1 (k, P, rd).2.2 (lrCopy i w rr)) = skRows t d w q (i + 1) k P rd (lrCopy i w rr) := by split <;> rfl
          rw [hgg]
          exact goon k P rd (fun hq => absurd hq hm2) (by rw [e1]; exact hP) (fun _ => by rw [e2]; exact ⟨t1, t2, t3⟩)
      · have eM : mStrL mp md mt (q + 1) pi mw mk S mr = (mw, mk, S, mr) := by
          show (if mp.2.2.2.1 ≤ pi then _ else if S.2.2.2 = 0 then _ else _) = _
          rw [if_neg hpp, if_neg h0]
        have eC : skRows t d w (q + 1) i k P rd rr = (k, P, rd, rr) := by
          show (if w.2.2.2.2.2 ≤ i then _ else if psGoing P = 0 then _ else _) = _
          rw [if_neg hci, if_pos ((psGo hP).mpr h0)]
        rw [eM, eC]
        exact ⟨fun _ hq => absurd hq h0, hP, fun hq => absurd hq h0⟩
    · rw [if_neg hjc] at hpi
      have hpp : mp.2.2.2.1 ≤ pi := by rw [Int32.le_iff_toInt_le]; omega
      have hci : w.2.2.2.2.2 ≤ i := by rw [Int32.le_iff_toInt_le]; omega
      have eM : mStrL mp md mt (q + 1) pi mw mk S mr = (mw, mk, S, mr) := by
        show (if mp.2.2.2.1 ≤ pi then _ else _) = _
        rw [if_pos hpp]
      have eC : skRows t d w (q + 1) i k P rd rr = (k, P, rd, rr) := by
        show (if w.2.2.2.2.2 ≤ i then _ else _) = _
        rw [if_pos hci]
      rw [eM, eC]
      exact ⟨fun hq => absurd hpp hq, hP, fun hq => (hA hq).1⟩
theorem RC0 {a b c e : Nat → Int32} : RC 0 a b c e := fun i hi => absurd hi (Nat.not_lt_zero i)
theorem stroke_rel {w : LR} {t : TP} {d : PT} {P : PS} {k : WK} {mp : MP} {mt : MT} {md : MD} {mS : MS} {mk : MK} (h : REL w t d P k mp mt md mS mk) (rd rr : RU) (mw : MW) (mr : MR) : mStrSafe mp md mt mw mk mS mr ∧ skR (skAll t d w k P rd rr) = mStrV (mStr0 mp md mt mw mk mS mr) ∧ REL w t d (skP (skAll t d w k P rd rr)) (skK (skAll t d w k P rd rr)) mp mt md (mStrS (mStr0 mp md mt mw mk mS mr)) (mStrK (mStr0 mp md mt mw mk mS mr)) := by
  obtain ⟨⟨n, c, f, h1⟩, h2, h3, h4, h5⟩ := h
  have hf0 := h1.2.2.2.2.2.2.2.2.1
  have hc0 := h1.2.2.2.2.2.1
  have hRI : RI (psEmpty P) (mS.1, mS.2.1, 0, 0) := ⟨rfl, msOk0, fun _ => ⟨rfl, RC0⟩⟩
  obtain ⟨k1, k2, k3⟩ := stroke_loop h1 h2 h3 2001 0 0 0 (wkReset k) (psEmpty P) rd rr mw (0, mk.2.1, mk.2.2.1, mk.2.2.2.1, mk.2.2.2.2) (mS.1, mS.2.1, 0, 0) mr rfl (by omega)
    (by
      by_cases hc : 0 < c
      · rw [if_pos hc, hf0]; rfl
      · rw [if_neg hc, hc0 (by omega)]; rfl) (by have := h1.2.2.2.1; have := h1.2.2.2.2.1; omega) hRI (fun _ => ⟨rfl, (by decide : (0 : Int) ≤ (0 : Int32).toInt), (by decide : (0 : Int32).toInt ≤ 20000)⟩)
  refine ⟨k1, ?_⟩
  have eA : skAll t d w k P rd rr = skRows t d w 2001 0 (wkReset k) (psEmpty P) rd rr := rfl
  have eB : mStr0 mp md mt mw mk mS mr = mStrL mp md mt 2001 0 mw (0, mk.2.1, mk.2.2.1, mk.2.2.2.1, mk.2.2.2.2) (mS.1, mS.2.1, 0, 0) mr := rfl
  rw [eA, eB]
  generalize skRows t d w 2001 0 (wkReset k) (psEmpty P) rd rr = q at k2 k3 ⊢
  generalize mStrL mp md mt 2001 0 mw (0, mk.2.1, mk.2.2.1, mk.2.2.2.1, mk.2.2.2.2) (mS.1, mS.2.1, 0, 0) mr = mq at k2 k3 ⊢
  unfold skR skP skK mStrV mStrS mStrK
  by_cases hal : mq.2.2.1.2.2.2 = 0
  · have hgo : ¬ psGoing q.2.1 = 0 := fun e => (psGo k2).mp e hal
    rw [if_neg hgo, if_neg hgo, if_neg hgo, if_pos hal, if_pos hal, if_pos hal]
    obtain ⟨z1, z2⟩ := k2.2.2 hal
    exact ⟨z1, ⟨n, c, f, h1⟩, h2, h3, ⟨k2.2.1, z1, z2⟩, k3 hal⟩
  · have hgo := (psGo k2).mpr hal
    rw [if_pos hgo, if_pos hgo, if_pos hgo, if_neg hal, if_neg hal, if_neg hal]
    exact ⟨k2.1, ⟨n, c, f, h1⟩, h2, h3, ⟨msOk0, rfl, RC0⟩, rfl⟩
