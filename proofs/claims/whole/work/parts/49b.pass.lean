/-! along one segment -/
def WAY (w : SG) (ax ay bx bz : Int32) : Prop := w.1 = ax.toInt64 ∧ w.2.1 = ay.toInt64 ∧ w.2.2.1 = bx.toInt64 ∧ w.2.2.2.1 = bz.toInt64 ∧ w.2.2.2.2.1 = bx.toInt64 - ax.toInt64 ∧ w.2.2.2.2.2.1 = bz.toInt64 - ay.toInt64 ∧ w.2.2.2.2.2.2.1 = mWkL ax.toInt64 ay.toInt64 bx.toInt64 bz.toInt64
theorem RN.rn {r : RU} {mr : MR} {n : Nat} (h : RN r mr n) : mRn mr := ⟨by have := h.2.1; omega, by have := h.2.1; have := h.2.2.1; omega⟩
theorem pass_loop {t : TP} {mt : MT} {d : PT} {md : MD} {w : SG} {ax ay bx bz : Int32} {L B : Nat} {cnt : Int} (hT : RT t mt) (hd : d.2.1 = md.2.1) (hc : d.2.2.1 = md.2.2.1) (hcn : md.2.2.1.toInt = cnt) (hc8 : cnt ≤ 8) (hln : RLn md.2.1)
    (p1 : pl29 ax) (p2 : pl29 ay) (p3 : pl29 bx) (p4 : pl29 bz) (hw : WAY w ax ay bx bz) (hL : (mWkL ax.toInt64 ay.toInt64 bx.toInt64 bz.toInt64).toInt = (L : Int)) (hL1 : 1 ≤ L) (hL2 : L ≤ 2147483647) (hB : 1 ≤ B ∧ B ≤ 2000) :
    ∀ (n : Nat) (tn : Int32) (u : Int64) (k : WK) (P : PS) (r : RU) (mk : MK) (S : MS) (mr : MR) (m : Nat), WI k mk S cnt → RI P S → RN r mr m → m ≤ B → r.2.2.2 = 0 → 1 ≤ n →
      (S.2.2.2 = 0 → (0 ≤ u.toInt ∧ u.toInt ≤ (L : Int)) ∧ (0 ≤ tn.toInt ∧ tn.toInt ≤ mk.1.toInt) ∧ 20002 ≤ mk.1.toInt + (n : Int)) →
      mWalkP md mt ax.toInt64 ay.toInt64 bx.toInt64 bz.toInt64 n u mk S mr ∧ (wkPassL t d w n tn u k P r).1 = (mWalkL md mt ax.toInt64 ay.toInt64 bx.toInt64 bz.toInt64 n u mk S mr).1 ∧
      WI (wkPassL t d w n tn u k P r).2.1 (mWalkL md mt ax.toInt64 ay.toInt64 bx.toInt64 bz.toInt64 n u mk S mr).2.1 (mWalkL md mt ax.toInt64 ay.toInt64 bx.toInt64 bz.toInt64 n u mk S mr).2.2.1 cnt ∧
      RI (wkPassL t d w n tn u k P r).2.2.1 (mWalkL md mt ax.toInt64 ay.toInt64 bx.toInt64 bz.toInt64 n u mk S mr).2.2.1 ∧
      (∃ m', RN (wkPassL t d w n tn u k P r).2.2.2 (mWalkL md mt ax.toInt64 ay.toInt64 bx.toInt64 bz.toInt64 n u mk S mr).2.2.2 m' ∧ m' ≤ B ∧ (wkPassL t d w n tn u k P r).2.2.2.2.2.2 = 0) ∧
      ((mWalkL md mt ax.toInt64 ay.toInt64 bx.toInt64 bz.toInt64 n u mk S mr).2.2.1.2.2.2 = 0 → (0 ≤ (mWalkL md mt ax.toInt64 ay.toInt64 bx.toInt64 bz.toInt64 n u mk S mr).1.toInt ∧ (mWalkL md mt ax.toInt64 ay.toInt64 bx.toInt64 bz.toInt64 n u mk S mr).1.toInt ≤ (L : Int)) ∧
        (L : Int) - (mWalkL md mt ax.toInt64 ay.toInt64 bx.toInt64 bz.toInt64 n u mk S mr).1.toInt ≤ (mWalkL md mt ax.toInt64 ay.toInt64 bx.toInt64 bz.toInt64 n u mk S mr).2.1.2.2.1.toInt) := by
  obtain ⟨y1, y2, y3, y4, y5, y6, y7⟩ := hw
  intro n
  induction n with
  | zero => intro tn u k P r mk S mr m _ _ _ _ _ h1; omega
  | succ n ih =>
    intro tn u k P r mk S mr m hW hP hR hm hrg _ hA
    have hW0 := hW
    obtain ⟨w1, w2, w3, w4, w5, w6⟩ := hW
    by_cases h0 : S.2.2.2 = 0
    · obtain ⟨⟨u0, u1⟩, ⟨t0, t1⟩, f1⟩ := hA h0
      obtain ⟨v1, v2, v3⟩ := w6 h0
      have zt : (20000 : Int32).toInt = 20000 := rfl
      have hLu : (mWkL ax.toInt64 ay.toInt64 bx.toInt64 bz.toInt64 - u).toInt = (L : Int) - u.toInt := by rw [jn_sub (by omega) (by omega), hL]
      by_cases hst : mWkL ax.toInt64 ay.toInt64 bx.toInt64 bz.toInt64 - u ≤ mk.2.2.1
      · have e1 : wkPassL t d w (n + 1) tn u k P r = (u, k, P, r) := by
          unfold wkPassL
          rw [if_neg (by rw [Int32.lt_iff_toInt_lt]; omega), if_pos (by rw [y7, w2]; exact hst)]
        have e2 : mWalkL md mt ax.toInt64 ay.toInt64 bx.toInt64 bz.toInt64 (n + 1) u mk S mr = (u, mk, S, mr) := by
          unfold mWalkL
          rw [if_pos h0, if_pos hst]
        rw [e1, e2]
        refine ⟨⟨hR.rn, fun _ hn => absurd hst hn⟩, rfl, hW0, hP, ⟨m, hR, hm, hrg⟩, fun _ => ⟨⟨u0, u1⟩, ?_⟩⟩
        rw [Int64.le_iff_toInt_le, hLu] at hst
        exact hst
      · have hst2 := hst
        rw [Int64.le_iff_toInt_le, hLu] at hst2
        have hu' : (u + mk.2.2.1).toInt = u.toInt + mk.2.2.1.toInt := jn_add (by omega) (by omega)
        obtain ⟨cx, px29⟩ := cut_ok (ay := ay) (bz := bz) (u := u + mk.2.2.1) p1 p3 hL hL1 hL2 (by omega) (by omega)
        obtain ⟨cy, py29⟩ := cut_oky (ax := ax) (bx := bx) (u := u + mk.2.2.1) p2 p4 hL hL1 hL2 (by omega) (by omega)
        have ex : sgCutX (u + k.2.2.1) w = (mWkX ax.toInt64 ay.toInt64 bx.toInt64 bz.toInt64 (u + mk.2.2.1)).toInt32 := by
          unfold sgCutX mWkX
          rw [y1, y5, y7, w2, kr_eq (by omega)]
        have ey : sgCutY (u + k.2.2.1) w = (mWkY ax.toInt64 ay.toInt64 bx.toInt64 bz.toInt64 (u + mk.2.2.1)).toInt32 := by
          unfold sgCutY mWkY
          rw [y2, y6, y7, w2, kr_eq (by omega)]
        have cx : (mWkX ax.toInt64 ay.toInt64 bx.toInt64 bz.toInt64 (u + mk.2.2.1)).toInt32.toInt64 = mWkX ax.toInt64 ay.toInt64 bx.toInt64 bz.toInt64 (u + mk.2.2.1) := cx
        have cy : (mWkY ax.toInt64 ay.toInt64 bx.toInt64 bz.toInt64 (u + mk.2.2.1)).toInt32.toInt64 = mWkY ax.toInt64 ay.toInt64 bx.toInt64 bz.toInt64 (u + mk.2.2.1) := cy
        have px29 : pl29 (mWkX ax.toInt64 ay.toInt64 bx.toInt64 bz.toInt64 (u + mk.2.2.1)).toInt32 := px29
        have py29 : pl29 (mWkY ax.toInt64 ay.toInt64 bx.toInt64 bz.toInt64 (u + mk.2.2.1)).toInt32 := py29
        obtain ⟨px, hpx⟩ : ∃ z : Int32, z = (mWkX ax.toInt64 ay.toInt64 bx.toInt64 bz.toInt64 (u + mk.2.2.1)).toInt32 := ⟨_, rfl⟩
        obtain ⟨py, hpy⟩ : ∃ z : Int32, z = (mWkY ax.toInt64 ay.toInt64 bx.toInt64 bz.toInt64 (u + mk.2.2.1)).toInt32 := ⟨_, rfl⟩
        rw [← hpx] at ex cx px29
        rw [← hpy] at ey cy py29
        -- the classes' step, said with the reference's numbers
        have e1 : wkPassL t d w (n + 1) tn u k P r = wkPassL t d w n (tn + 1) (u + mk.2.2.1) (wkTake d k) (wkCountP k (wkCutP t px py k r P))
            (wkDash px py (wkTake d k) (wkCutR px py k r)) := by
          rw [← ex, ← ey]
          show (if 20000 < tn then (u, k, P, r) else if w.2.2.2.2.2.2.1 - u ≤ k.2.2.1 then (u, k, P, r) else if psGoing P = 0 then (u, k, P, r) else _) = _
          rw [if_neg (by rw [Int32.lt_iff_toInt_lt]; omega), if_neg (by rw [y7, w2]; exact hst), if_neg (fun e => (psGo hP).mp e h0), ← w2]
        have e2 : mWalkL md mt ax.toInt64 ay.toInt64 bx.toInt64 bz.toInt64 (n + 1) u mk S mr = mWalkL md mt ax.toInt64 ay.toInt64 bx.toInt64 bz.toInt64 n (u + mk.2.2.1) (mWk1 md mt ax.toInt64 ay.toInt64 bx.toInt64 bz.toInt64 u mk S mr) (mTakeS mk (mWs1 mt ax.toInt64 ay.toInt64 bx.toInt64 bz.toInt64 u mk S mr)) (mWr1 md mt ax.toInt64 ay.toInt64 bx.toInt64 bz.toInt64 u mk S mr) := by
          show (if S.2.2.2 = 0 then (if mWkL ax.toInt64 ay.toInt64 bx.toInt64 bz.toInt64 - u ≤ mk.2.2.1 then _ else _) else _) = _
          rw [if_pos h0, if_neg hst]
        rw [e1, e2]
        have eP : mWalkP md mt ax.toInt64 ay.toInt64 bx.toInt64 bz.toInt64 (n + 1) u mk S mr = (mRn mr ∧ (S.2.2.2 = 0 → ¬ mWkL ax.toInt64 ay.toInt64 bx.toInt64 bz.toInt64 - u ≤ mk.2.2.1 → ¬ 2 * mWkL ax.toInt64 ay.toInt64 bx.toInt64 bz.toInt64 = 0 ∧
            (mk.2.2.2.1 = 0 → mMakeS 0 mt (mCutR (mWkX ax.toInt64 ay.toInt64 bx.toInt64 bz.toInt64 (u + mk.2.2.1)) (mWkY ax.toInt64 ay.toInt64 bx.toInt64 bz.toInt64 (u + mk.2.2.1)) mk mr)) ∧ vp_in (mNextD md (mTakeK (mWs1 mt ax.toInt64 ay.toInt64 bx.toInt64 bz.toInt64 u mk S mr) mk)) 8 ∧
            mWalkP md mt ax.toInt64 ay.toInt64 bx.toInt64 bz.toInt64 n (u + mk.2.2.1) (mWk1 md mt ax.toInt64 ay.toInt64 bx.toInt64 bz.toInt64 u mk S mr) (mTakeS mk (mWs1 mt ax.toInt64 ay.toInt64 bx.toInt64 bz.toInt64 u mk S mr)) (mWr1 md mt ax.toInt64 ay.toInt64 bx.toInt64 bz.toInt64 u mk S mr))) := rfl
        rw [eP]
        unfold mWr1
        unfold mWk1
        unfold mWs1
        rw [← cx, ← cy]
        clear hpx hpy cx cy ex ey e1 e2 eP
        -- the cut
        have hcut : ∃ m1, RN (wkCutR px py k r) (mCutR px.toInt64 py.toInt64 mk mr) m1 ∧ m1 ≤ B + 1 ∧ (wkCutR px py k r).2.2.2 = 0 ∧ RI (wkCutP t px py k r P) (mEndS mk mt (mCutR px.toInt64 py.toInt64 mk mr) S) ∧ (mk.2.2.2.1 = 0 → mMakeS 0 mt (mCutR px.toInt64 py.toInt64 mk mr)) := by
          unfold wkCutR wkCutP mCutR mEndS
          rw [w3]
          by_cases hg : mk.2.2.2.1 = 0
          · rw [if_pos hg, if_pos hg, if_pos hg, if_pos hg]
            obtain ⟨m1, q1, q2, q3⟩ := hR.pass (by omega) px29 py29
            obtain ⟨q4, q5⟩ := run_make (cl := 0) hT q1 ⟨fun _ => q3.trans hrg, fun _ => rfl⟩ (fun hq => absurd rfl hq) hP
            exact ⟨m1, q1, by omega, q3.trans hrg, q4, fun _ => q5⟩
          · rw [if_neg hg, if_neg hg, if_neg hg, if_neg hg]
            exact ⟨m, hR, by omega, hrg, hP, fun hq => absurd hq hg⟩
        obtain ⟨m1, q1, q2, q3, q4, q5⟩ := hcut
        generalize hS1 : mEndS mk mt (mCutR px.toInt64 py.toInt64 mk mr) S = S1 at q4 ⊢
        generalize wkCutP t px py k r P = P1 at q4 ⊢
        generalize wkCutR px py k r = r1 at q1 q3 ⊢
        generalize mCutR px.toInt64 py.toInt64 mk mr = mr1 at q1 q5 hS1 ⊢
        have hW1 : WI k mk S1 cnt := ⟨w1, w2, w3, w4, w5, fun _ => ⟨v1, v2, v3⟩⟩
        obtain ⟨g1, g2, g3, g4, g5⟩ := take_ok hW1 ⟨v1, v2⟩ q4 hd hc hcn hc8 hln
        rw [mEndR_eq]
        have hdash : ∃ m2, RN (wkDash px py (wkTake d k) r1) (mCutR px.toInt64 py.toInt64 (mNext md (mTakeK S1 mk)) (mr1.1, mr1.2.1, 0)) m2 ∧ m2 ≤ 1 ∧ (wkDash px py (wkTake d k) r1).2.2.2 = 0 := by
          unfold wkDash mCutR
          rw [g5]
          by_cases hg : (mNext md (mTakeK S1 mk)).2.2.2.1 = 0
          · rw [if_pos hg, if_pos hg]
            obtain ⟨m2, z1, z2, z3⟩ := (RN.zero (r := r1) (mr := mr1) (v := 0)).pass (by omega) px29 py29
            exact ⟨m2, z1, by omega, z3⟩
          · rw [if_neg hg, if_neg hg]
            exact ⟨0, RN.zero, by omega, rfl⟩
        obtain ⟨m2, z1, z2, z3⟩ := hdash
        have key := ih (tn + 1) (u + mk.2.2.1) (wkTake d k) (wkCountP k P1) (wkDash px py (wkTake d k) r1) (mNext md (mTakeK S1 mk)) (mTakeS mk S1) (mCutR px.toInt64 py.toInt64 (mNext md (mTakeK S1 mk)) (mr1.1, mr1.2.1, 0)) m2 g2 g1 z1 (by omega) z3 (by omega)
          (fun hq => ⟨⟨by omega, by omega⟩, ⟨by rw [sq_succ t0 (by omega)]; omega, by rw [sq_succ t0 (by omega), g4 hq]; omega⟩, by rw [g4 hq]; omega⟩)
        obtain ⟨k1, k2, k3, k4, k5, k6⟩ := key
        exact ⟨⟨hR.rn, fun _ _ => ⟨sq_2nz (by omega), q5, g3, k1⟩⟩, k2, k3, k4, k5, k6⟩
    · have e1 : wkPassL t d w (n + 1) tn u k P r = (u, k, P, r) := by
        unfold wkPassL
        rw [if_pos ((psGo hP).mpr h0)]
        split
        · rfl
        · split <;> rfl
      have e2 : mWalkL md mt ax.toInt64 ay.toInt64 bx.toInt64 bz.toInt64 (n + 1) u mk S mr = (u, mk, S, mr) := by
        unfold mWalkL
        rw [if_neg h0]
      rw [e1, e2]
      exact ⟨⟨hR.rn, fun hq => absurd hq h0⟩, rfl, hW0, hP, ⟨m, hR, hm, hrg⟩, fun hq => absurd hq h0⟩
