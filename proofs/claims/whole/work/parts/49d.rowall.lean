/-! a whole row in dashes -/
theorem start_ok {d : PT} {md : MD} {k : WK} {mk : MK} {P : PS} {S : MS} {cnt : Int} (hD : RD d md) (hpos : ¬ md.2.2.1 ≤ 0) (hcn : md.2.2.1.toInt = cnt) (h0 : S.2.2.2 = 0) (htk : k.1 = mk.1 ∧ 0 ≤ mk.1.toInt ∧ mk.1.toInt ≤ 20000) (hP : RI P S) :
    mStOk md mk ∧ RI (wkCountP (wkFirst d k) P) (mStartS md mk S) ∧ ((mStartS md mk S).2.2.2 = 0 → WI (wkCount (wkFirst d k)) (mStartK md S mk) (mStartS md mk S) cnt) ∧ (wkCount (wkFirst d k)).2.2.2 = (mStartK md S mk).2.2.2.1 := by
  obtain ⟨d1, d2, d3, d4, d5, d6, d7, d8, d9, d10⟩ := hD
  obtain ⟨s1, s2⟩ := d9 hpos mk
  obtain ⟨⟨a1, a2⟩, a3, a4, a5⟩ := d10 hpos
  have zt : (20000 : Int32).toInt = 20000 := rfl
  have hP0 : P.2.2.2.2 = 0 := hP.1.trans h0
  have hgap : (wkCount (wkFirst d k)).2.2.2 = (mStartK md S mk).2.2.2.1 := by
    unfold mStartK
    rw [s2, wkCount_gap, (mTakeK_c S _).2.2.1]
    rfl
  refine ⟨s1, ?_, ?_, hgap⟩
  · unfold mStartS mTakeS wkCountP
    rw [s2, if_pos h0]
    show RI (if k.1 < 20000 then P else psStop (-3) P) (if mk.1 = 20000 then (S.1, S.2.1, S.2.2.1, (-3)) else S)
    by_cases hq : mk.1 = 20000
    · rw [if_pos hq, if_neg (by rw [htk.1, hq]; decide)]
      unfold psStop
      rw [if_pos hP0]
      exact ⟨rfl, hP.2.1, fun hc9 => absurd hc9 (show ¬ ((-3 : Int32) = 0) by decide)⟩
    · rw [if_neg hq, if_pos (by rw [htk.1, Int32.lt_iff_toInt_lt]; have := sq_ne hq; omega)]
      exact hP
  · intro hq
    have hne : ¬ mk.1 = 20000 := by
      intro e
      unfold mStartS mTakeS at hq
      rw [s2, if_pos h0] at hq
      have hq2 : (if mk.1 = 20000 then (S.1, S.2.1, S.2.2.1, (-3 : Int32)) else S).2.2.2 = 0 := hq
      rw [if_pos e] at hq2
      exact absurd hq2 (show ¬ ((-3 : Int32) = 0) by decide)
    have e1 : mStartK md S mk = (mk.1 + 1, d.2.2.2.1, d.2.2.2.2.1, d.2.2.2.2.2, mk.2.2.2.2) := by
      unfold mStartK mTakeK
      rw [s2, if_pos h0]
      show (if mk.1 = 20000 then _ else _) = _
      rw [if_neg hne]
    have hne2 := sq_ne hne
    have e2 : wkCount (wkFirst d k) = (k.1 + 1, d.2.2.2.1, d.2.2.2.2.1, d.2.2.2.2.2) := by
      unfold wkCount
      show (if k.1 < 20000 then _ else _) = _
      rw [if_pos (by rw [htk.1, Int32.lt_iff_toInt_lt]; omega)]
      rfl
    rw [e1, e2]
    have e3 : (mk.1 + 1).toInt = mk.1.toInt + 1 := sq_succ htk.2.1 (by omega)
    refine ⟨rfl, rfl, rfl, a3, ⟨a1, by rw [← hcn]; exact a2⟩, fun _ => ⟨?_, ?_, a4⟩⟩
    · show k.1 + 1 = mk.1 + 1
      rw [htk.1]
    · show 0 ≤ (mk.1 + 1).toInt ∧ (mk.1 + 1).toInt ≤ 20000
      omega
theorem row_dash {t : TP} {mt : MT} {d : PT} {md : MD} {r0 : RU} {mw : MW} {N : Nat} {cl : Int32} {k : WK} {P : PS} {mk : MK} {S : MS} (hT : RT t mt) (hD : RD d md) (hpos : ¬ md.2.2.1 ≤ 0) (hrow : RW r0 mw N) (h2 : 2 ≤ N) (hcl : cl = 0 ↔ r0.2.2.2 = 0) (hring : ¬ cl = 0 → ¬ (r0.1 (N - 1) = r0.1 0 ∧ r0.2.1 (N - 1) = r0.2.1 0))
    (hP : RI P S) (h0 : S.2.2.2 = 0) (htk : k.1 = mk.1 ∧ 0 ≤ mk.1.toInt ∧ mk.1.toInt ≤ 20000) (r : RU) (mr : MR) :
    mRowS cl md mt mw mk S mr ∧ RI (wkAlong t d r0 k P r).2.1 (mEndS (mRow cl md mt mw mk S mr).1 mt (mRow cl md mt mw mk S mr).2.2 (mRow cl md mt mw mk S mr).2.1) ∧
    ((mEndS (mRow cl md mt mw mk S mr).1 mt (mRow cl md mt mw mk S mr).2.2 (mRow cl md mt mw mk S mr).2.1).2.2.2 = 0 → (wkAlong t d r0 k P r).1.1 = (mRow cl md mt mw mk S mr).1.1 ∧ 0 ≤ (mRow cl md mt mw mk S mr).1.1.toInt ∧ (mRow cl md mt mw mk S mr).1.1.toInt ≤ 20000) := by
  obtain ⟨cnt, hcn⟩ : ∃ c : Int, md.2.2.1.toInt = c := ⟨_, rfl⟩
  have hD2 := hD
  obtain ⟨d1, d2, d3, d4, d5, d6, d7, d8, d9, d10⟩ := hD2
  obtain ⟨s1, s2, s3, s4⟩ := start_ok hD hpos hcn h0 htk hP
  have hrw := hrow
  obtain ⟨r1, r2, r3, r4, r5⟩ := hrw
  have z0 : (0 : Int32).toInt = 0 := rfl
  have hiN : (mw.2.2 - 1).toInt = (N : Int) - 1 := by rw [sq_pred (by omega)]; omega
  have z2 : (2 : Int32).toInt = 2 := rfl
  have hr2 : 2 ≤ r0.2.2.1 := by rw [Int32.le_iff_toInt_le]; omega
  have hsegs : (ruSegs r0).toInt = if cl = 0 then (N : Int) - 1 else (N : Int) := by
    unfold ruSegs
    rw [if_pos hr2]
    by_cases hc : cl = 0
    · rw [if_pos hc, if_pos (hcl.mp hc), sq_pred (by omega), r1]
    · rw [if_neg hc, if_neg (fun e => hc (hcl.mpr e)), r1]
  have hsg : (N : Int) - 1 ≤ (ruSegs r0).toInt := by rw [hsegs]; split <;> omega
  have hsne : ¬ ruSegs r0 = 0 := fun e => by rw [e] at hsg; omega
  have b0 := ru_in (j := 0) r1 (by omega) (k := 0) rfl (by omega)
  have q0 := r4 0 (by omega)
  have hX : (mw.1 (0 : Int32).toNatClampNeg) = ruX 0 r0 := by rw [b0.1]; exact q0.1
  have hY : (mw.2.1 (0 : Int32).toNatClampNeg) = ruY 0 r0 := by rw [b0.2]; exact q0.2.1
  -- the beginning of the first dash
  have hbeg : ∃ m, m ≤ 1 ∧ R2 (wkCount (wkFirst d k)) (wkCountP (wkFirst d k) P) (wkDash (ruX 0 r0) (ruY 0 r0) (wkCount (wkFirst d k)) r) (mStartK md S mk) (mStartS md mk S) (mCutR (mw.1 (0 : Int32).toNatClampNeg).toInt64 (mw.2.1 (0 : Int32).toNatClampNeg).toInt64 (mStartK md S mk) (mr.1, mr.2.1, 0)) m cnt := by
    rw [hX, hY]
    unfold wkDash mCutR
    rw [s4]
    by_cases hg : (mStartK md S mk).2.2.2.1 = 0
    · rw [if_pos hg, if_pos hg]
      obtain ⟨m2, z1, z2, z3⟩ := (RN.zero (r := r) (mr := mr) (v := 0)).pass (px := ruX 0 r0) (py := ruY 0 r0) (by omega) (by rw [b0.1]; exact q0.2.2.1) (by rw [b0.2]; exact q0.2.2.2)
      exact ⟨m2, by omega, s2, ⟨_, z1, z3, fun _ => rfl⟩, s3⟩
    · rw [if_neg hg, if_neg hg]
      exact ⟨0, by omega, s2, ⟨_, RN.zero, rfl, fun _ => rfl⟩, s3⟩
  obtain ⟨m0, hm0, hbeg⟩ := hbeg
  obtain ⟨g1, f', kc, Pc, rc, m1, g2, g3, g4, g5⟩ := row_loop hT d2 d3 hcn (by omega) d7 hrow h2 hsg hiN 2001 2004 0 0 _ _ _ _ _ _ m0 rfl (by omega) (by omega) (by omega) hbeg (by omega)
  have eR0 : mRowL md mt mw 2001 0 (mStartK md S mk) (mStartS md mk S) (mCutR (mw.1 (0 : Int32).toNatClampNeg).toInt64 (mw.2.1 (0 : Int32).toNatClampNeg).toInt64 (mStartK md S mk) (mr.1, mr.2.1, 0)) = mRow0 md mt mw mk S mr := rfl
  rw [eR0] at g4
  -- the way back of a closed row
  have hfin : (¬ cl = 0 → mRwP md mt mw (mw.2.2 - 1) 0 (mRow0 md mt mw mk S mr).1 (mRow0 md mt mw mk S mr).2.1 (mRow0 md mt mw mk S mr).2.2) ∧
      ∃ (k9 : WK) (P9 : PS) (r9 : RU) (m9 : Nat), wkAlongL t d r0 f' (mw.2.2 - 1) kc Pc rc = (k9, P9, r9) ∧ R2 k9 P9 r9 (mRow cl md mt mw mk S mr).1 (mRow cl md mt mw mk S mr).2.1 (mRow cl md mt mw mk S mr).2.2 m9 cnt := by
    unfold mRow
    generalize mRow0 md mt mw mk S mr = q at g4 ⊢
    obtain ⟨f1, rfl⟩ : ∃ f1, f' = f1 + 1 + 1 := ⟨f' - 2, by omega⟩
    by_cases hc : cl = 0
    · rw [if_pos hc] at hsegs
      refine ⟨fun hq => absurd hc hq, kc, Pc, rc, m1, ?_, ?_⟩
      · show (if ruSegs r0 ≤ mw.2.2 - 1 then _ else _) = _
        rw [if_pos (by rw [Int32.le_iff_toInt_le]; omega)]
      · unfold mRow1
        rw [if_pos hc]
        exact g4
    · rw [if_neg hc] at hsegs
      obtain ⟨I, hI⟩ : ∃ I : Nat, (mw.2.2 - 1).toInt = (I : Int) := ⟨N - 1, by omega⟩
      have hI1 : I + 1 = N := by omega
      have hn1 : (mw.2.2 - 1 + 1).toInt = (N : Int) := by rw [sq_succ (by omega) (by omega)]; omega
      have b1 := ru_in r1 (by omega) hI (show I < N by omega)
      have b2 := ru_wrap (j := mw.2.2 - 1 + 1) r1 hn1
      have q1 := r4 I (by omega)
      have e9 : N - 1 = I := by omega
      have hrg := hring hc
      rw [e9] at hrg
      obtain ⟨v1, m', v2, v3⟩ := seg_step (i := mw.2.2 - 1) (j := 0) (B := N) (t := t) (d := d) hT d2 d3 hcn (by omega) d7 b1.1 b1.2 b2.1 b2.2 (by rw [rl_cl hI]; exact q1.1) (by rw [rl_cl hI]; exact q1.2.1) q0.1 q0.2.1 q1.2.2.1 q1.2.2.2 q0.2.2.1 q0.2.2.2 hrg ⟨by omega, by omega⟩ g4 g5
      refine ⟨fun _ => v1, if psGoing Pc = 0 then kc else (wkPass t d (sgW r0 (mw.2.2 - 1)) kc Pc rc).1, if psGoing Pc = 0 then Pc else (wkPass t d (sgW r0 (mw.2.2 - 1)) kc Pc rc).2.1, if psGoing Pc = 0 then rc else (wkPass t d (sgW r0 (mw.2.2 - 1)) kc Pc rc).2.2, m', ?_, ?_⟩
      · show wkAlongL t d r0 (f1 + 1 + 1) (mw.2.2 - 1) kc Pc rc = (if psGoing Pc = 0 then kc else (wkPass t d (sgW r0 (mw.2.2 - 1)) kc Pc rc).1, if psGoing Pc = 0 then Pc else (wkPass t d (sgW r0 (mw.2.2 - 1)) kc Pc rc).2.1, if psGoing Pc = 0 then rc else (wkPass t d (sgW r0 (mw.2.2 - 1)) kc Pc rc).2.2)
        by_cases hgo : psGoing Pc = 0
        · rw [if_pos hgo, if_pos hgo, if_pos hgo, along_dead hgo]
        · rw [if_neg hgo, if_neg hgo, if_neg hgo]
          show (if ruSegs r0 ≤ mw.2.2 - 1 then _ else if psGoing Pc = 0 then _ else wkAlongL t d r0 (f1 + 1) (mw.2.2 - 1 + 1) _ _ _) = _
          rw [if_neg (by rw [Int32.le_iff_toInt_le]; omega), if_neg hgo]
          show (if ruSegs r0 ≤ mw.2.2 - 1 + 1 then _ else _) = _
          rw [if_pos (by rw [Int32.le_iff_toInt_le]; omega)]
      · unfold mRow1
        rw [if_neg hc]
        exact v3
  obtain ⟨u1, k9, P9, r9, m9, u2, u3⟩ := hfin
  obtain ⟨v1, ⟨g, v2, v3, v4⟩, v5⟩ := u3
  have hsafe := run_safe hT v2 v3
  have eA : wkAlong t d r0 k P r = (k9, if k9.2.2.2 = 0 then olMake t r9 P9 else P9, r9) := by
    unfold wkAlong
    rw [if_neg hsne, g2, u2]
  rw [eA]
  refine ⟨⟨s1, ⟨by omega, by omega⟩, g1, u1, fun _ => hsafe⟩, ?_, ?_⟩
  · show RI (if k9.2.2.2 = 0 then olMake t r9 P9 else P9) _
    unfold mEndS
    by_cases hal : (mRow cl md mt mw mk S mr).2.1.2.2.2 = 0
    · have er := v4 hal
      subst er
      rw [(v5 hal).2.2.1]
      by_cases hg : (mRow cl md mt mw mk S mr).1.2.2.2.1 = 0
      · rw [if_pos hg, if_pos hg]
        exact (run_make (cl := 0) hT v2 ⟨fun _ => v3, fun _ => rfl⟩ (fun hq => absurd rfl hq) v1).1
      · rw [if_neg hg, if_neg hg]
        exact v1
    · have e1 : (if k9.2.2.2 = 0 then olMake t r9 P9 else P9) = P9 := by
        split
        · exact olMake_dead (v1.alive hal)
        · rfl
      have e2 : (if (mRow cl md mt mw mk S mr).1.2.2.2.1 = 0 then mMake 0 mt (mRow cl md mt mw mk S mr).2.2 (mRow cl md mt mw mk S mr).2.1 else (mRow cl md mt mw mk S mr).2.1) = (mRow cl md mt mw mk S mr).2.1 := by
        split
        · exact mMake_dead hal
        · rfl
      rw [e1, e2]
      exact v1
  · intro hq
    have hal : (mRow cl md mt mw mk S mr).2.1.2.2.2 = 0 := by
      by_cases hal : (mRow cl md mt mw mk S mr).2.1.2.2.2 = 0
      · exact hal
      · exfalso
        unfold mEndS at hq
        rw [mMake_dead hal] at hq
        have : (if (mRow cl md mt mw mk S mr).1.2.2.2.1 = 0 then (mRow cl md mt mw mk S mr).2.1 else (mRow cl md mt mw mk S mr).2.1) = (mRow cl md mt mw mk S mr).2.1 := by split <;> rfl
        rw [this] at hq
        exact hal hq
    obtain ⟨c1, c2, c3⟩ := (v5 hal).2.2.2.2.2 hal
    exact ⟨c1, c2⟩
