/-! dashes along a row -/
theorem i64_32 (x : Int32) : x.toInt64.toInt32 = x := Int32.toInt_inj.mp (by
  have h1 := Int32.toInt_lt x
  have h2 := Int32.le_toInt x
  rw [Int64.toInt_toInt32, Int32.toInt_toInt64, Int.bmod_def]
  split <;> omega)
theorem pass_seg {t : TP} {mt : MT} {d : PT} {md : MD} {w : SG} {ax ay bx bz : Int32} {L B m : Nat} {cnt : Int} {k : WK} {P : PS} {r : RU} {mk : MK} {S : MS} {mr : MR} (hT : RT t mt) (hd : d.2.1 = md.2.1) (hc : d.2.2.1 = md.2.2.1) (hcn : md.2.2.1.toInt = cnt) (hc8 : cnt ≤ 8) (hln : RLn md.2.1)
    (p1 : pl29 ax) (p2 : pl29 ay) (p3 : pl29 bx) (p4 : pl29 bz) (hw : WAY w ax ay bx bz) (hL : (mWkL ax.toInt64 ay.toInt64 bx.toInt64 bz.toInt64).toInt = (L : Int)) (hL1 : 1 ≤ L) (hL2 : L ≤ 2147483647) (hB : 1 ≤ B ∧ B ≤ 2000) (hW : WI k mk S cnt) (hP : RI P S) (hR : RN r mr m) (hm : m ≤ B) (hrg : r.2.2.2 = 0) (h0 : S.2.2.2 = 0) :
    mWalkP md mt ax.toInt64 ay.toInt64 bx.toInt64 bz.toInt64 20002 0 mk S mr ∧
    WI (wkPass t d w k P r).1 (mWalkK ax.toInt64 ay.toInt64 bx.toInt64 bz.toInt64 (mWalk0 md mt ax.toInt64 ay.toInt64 bx.toInt64 bz.toInt64 mk S mr)) (mWalk0 md mt ax.toInt64 ay.toInt64 bx.toInt64 bz.toInt64 mk S mr).2.2.1 cnt ∧
    RI (wkPass t d w k P r).2.1 (mWalk0 md mt ax.toInt64 ay.toInt64 bx.toInt64 bz.toInt64 mk S mr).2.2.1 ∧
    ∃ m', RN (wkPass t d w k P r).2.2 (mWalkR bx.toInt64 bz.toInt64 (mWalk0 md mt ax.toInt64 ay.toInt64 bx.toInt64 bz.toInt64 mk S mr)) m' ∧ m' ≤ B + 1 ∧ (wkPass t d w k P r).2.2.2.2.2 = 0 := by
  obtain ⟨v1, v2, v3⟩ := hW.2.2.2.2.2 h0
  obtain ⟨k1, k2, k3, k4, ⟨m', k5, k6, k7⟩, k8⟩ := pass_loop hT hd hc hcn hc8 hln p1 p2 p3 p4 hw hL hL1 hL2 hB 20002 0 0 k P r mk S mr m hW hP hR hm hrg (by decide) (fun _ => ⟨⟨by decide, by have : (0 : Int64).toInt = 0 := rfl; omega⟩, ⟨by decide, by have : (0 : Int32).toInt = 0 := rfl; omega⟩, by omega⟩)
  obtain ⟨y1, y2, y3, y4, y5, y6, y7⟩ := hw
  refine ⟨k1, ?_⟩
  unfold wkPass mWalk0
  generalize wkPassL t d w 20002 0 0 k P r = q at *
  generalize mWalkL md mt ax.toInt64 ay.toInt64 bx.toInt64 bz.toInt64 20002 0 mk S mr = mq at *
  dsimp only
  unfold mWalkK mWalkR mCutR
  rw [y3, y4, y7, i64_32, i64_32, k2]
  obtain ⟨w1, w2, w3, w4, w5, w6⟩ := k3
  refine ⟨⟨w1, ?_, w3, w4, w5, fun hq => ?_⟩, k4, ?_⟩
  · show q.2.1.2.2.1 - (mWkL ax.toInt64 ay.toInt64 bx.toInt64 bz.toInt64 - mq.1) = mq.2.1.2.2.1 - (mWkL ax.toInt64 ay.toInt64 bx.toInt64 bz.toInt64 - mq.1)
    rw [w2]
  · obtain ⟨z1, z2, z3⟩ := w6 hq
    obtain ⟨⟨g1, g2⟩, g3⟩ := k8 hq
    refine ⟨z1, z2, ?_⟩
    show 0 ≤ (mq.2.1.2.2.1 - (mWkL ax.toInt64 ay.toInt64 bx.toInt64 bz.toInt64 - mq.1)).toInt
    have e1 : (mWkL ax.toInt64 ay.toInt64 bx.toInt64 bz.toInt64 - mq.1).toInt = (L : Int) - mq.1.toInt := by rw [jn_sub (by omega) (by omega), hL]
    have e2 := Int64.toInt_lt mq.2.1.2.2.1
    rw [jn_sub (by omega) (by omega), e1]
    omega
  · rw [w3]
    by_cases hg : mq.2.1.2.2.2.1 = 0
    · rw [if_pos hg, if_pos hg]
      obtain ⟨m2, z1, z2, z3⟩ := k5.pass (by omega) p3 p4
      exact ⟨m2, z1, by omega, z3.trans k7⟩
    · rw [if_neg hg, if_neg hg]
      exact ⟨m', k5, by omega, k7⟩
/-- both sides on their way along a row; where the stroke has been stopped, only the reference goes on -/
def R2 (k : WK) (P : PS) (r : RU) (mk : MK) (S : MS) (mr : MR) (m : Nat) (cnt : Int) : Prop := RI P S ∧ (∃ g : RU, RN g mr m ∧ g.2.2.2 = 0 ∧ (S.2.2.2 = 0 → g = r)) ∧ (S.2.2.2 = 0 → WI k mk S cnt)
theorem way_of {r0 : RU} {i : Int32} {ax ay bx bz : Int32} (e1 : ruX i r0 = ax) (e2 : ruY i r0 = ay) (e3 : ruX (i + 1) r0 = bx) (e4 : ruY (i + 1) r0 = bz) (p1 : pl29 ax) (p2 : pl29 ay) (p3 : pl29 bx) (p4 : pl29 bz) (hne : ¬ (ax = bx ∧ ay = bz)) :
    WAY (sgW r0 i) ax ay bx bz ∧ ∃ L : Nat, (mWkL ax.toInt64 ay.toInt64 bx.toInt64 bz.toInt64).toInt = (L : Int) ∧ 1 ≤ L ∧ L ≤ 2147483647 := by
  obtain ⟨s1, z, s2, s3, s4, -⟩ := sz_ok p1 p2 p3 p4 hne
  refine ⟨⟨?_, ?_, ?_, ?_, ?_, ?_, ?_⟩, z, s2, s3, s4⟩
  · show (ruX i r0).toInt64 = _; rw [e1]
  · show (ruY i r0).toInt64 = _; rw [e2]
  · show (ruX (i + 1) r0).toInt64 = _; rw [e3]
  · show (ruY (i + 1) r0).toInt64 = _; rw [e4]
  · show (ruX (i + 1) r0).toInt64 - (ruX i r0).toInt64 = _; rw [e1, e3]
  · show (ruY (i + 1) r0).toInt64 - (ruY i r0).toInt64 = _; rw [e2, e4]
  · show kRoot (((ruX (i + 1) r0).toInt64 - (ruX i r0).toInt64) * ((ruX (i + 1) r0).toInt64 - (ruX i r0).toInt64) + ((ruY (i + 1) r0).toInt64 - (ruY i r0).toInt64) * ((ruY (i + 1) r0).toInt64 - (ruY i r0).toInt64)) = _
    rw [e1, e2, e3, e4]
    exact s1.symm
theorem seg_step {t : TP} {mt : MT} {d : PT} {md : MD} {r0 : RU} {mw : MW} {i j : Int32} {ax ay bx bz : Int32} {B m : Nat} {cnt : Int} {k : WK} {P : PS} {r : RU} {mk : MK} {S : MS} {mr : MR} (hT : RT t mt) (hd : d.2.1 = md.2.1) (hc : d.2.2.1 = md.2.2.1) (hcn : md.2.2.1.toInt = cnt) (hc8 : cnt ≤ 8) (hln : RLn md.2.1)
    (e1 : ruX i r0 = ax) (e2 : ruY i r0 = ay) (e3 : ruX (i + 1) r0 = bx) (e4 : ruY (i + 1) r0 = bz) (f1 : mw.1 i.toNatClampNeg = ax) (f2 : mw.2.1 i.toNatClampNeg = ay) (f3 : mw.1 j.toNatClampNeg = bx) (f4 : mw.2.1 j.toNatClampNeg = bz)
    (p1 : pl29 ax) (p2 : pl29 ay) (p3 : pl29 bx) (p4 : pl29 bz) (hne : ¬ (ax = bx ∧ ay = bz)) (hB : 1 ≤ B ∧ B ≤ 2000) (h : R2 k P r mk S mr m cnt) (hm : m ≤ B) :
    mRwP md mt mw i j mk S mr ∧ ∃ m', m' ≤ B + 1 ∧ R2 (if psGoing P = 0 then k else (wkPass t d (sgW r0 i) k P r).1) (if psGoing P = 0 then P else (wkPass t d (sgW r0 i) k P r).2.1) (if psGoing P = 0 then r else (wkPass t d (sgW r0 i) k P r).2.2)
      (mRwK md mt mw i j mk S mr) (mRwQ md mt mw i j mk S mr).2.2.1 (mRwR md mt mw i j mk S mr) m' cnt := by
  obtain ⟨hP, ⟨g, hg, hgr, hge⟩, hWI⟩ := h
  obtain ⟨hway, L, hL, hL1, hL2⟩ := way_of e1 e2 e3 e4 p1 p2 p3 p4 hne
  unfold mRwP mRwK mRwR
  unfold mRwQ
  rw [f1, f2, f3, f4]
  by_cases h0 : S.2.2.2 = 0
  · have er := hge h0
    subst er
    obtain ⟨k1, k2, k3, m', k4, k5, k6⟩ := pass_seg hT hd hc hcn hc8 hln p1 p2 p3 p4 hway hL hL1 hL2 hB (hWI h0) hP hg hm hgr h0
    have hgo : ¬ psGoing P = 0 := fun e => (psGo hP).mp e h0
    rw [if_neg hgo, if_neg hgo, if_neg hgo]
    exact ⟨k1, m', k5, k3, ⟨_, k4, k6, fun _ => rfl⟩, fun _ => k2⟩
  · have hgo := (psGo hP).mpr h0
    have e9 : mWalk0 md mt ax.toInt64 ay.toInt64 bx.toInt64 bz.toInt64 mk S mr = (0, mk, S, mr) := by
      show mWalkL md mt ax.toInt64 ay.toInt64 bx.toInt64 bz.toInt64 (20001 + 1) 0 mk S mr = _
      unfold mWalkL
      rw [if_neg h0]
    rw [if_pos hgo, if_pos hgo, if_pos hgo, e9]
    have hwp : mWalkP md mt ax.toInt64 ay.toInt64 bx.toInt64 bz.toInt64 (20001 + 1) 0 mk S mr := ⟨hg.rn, fun hq => absurd hq h0⟩
    refine ⟨hwp, ?_⟩
    show ∃ m', m' ≤ B + 1 ∧ R2 k P r (mWalkK ax.toInt64 ay.toInt64 bx.toInt64 bz.toInt64 (0, mk, S, mr)) S (mCutR bx.toInt64 bz.toInt64 mk mr) m' cnt
    unfold mCutR
    by_cases hgp : mk.2.2.2.1 = 0
    · rw [if_pos hgp]
      obtain ⟨m2, z1, z2, z3⟩ := hg.pass (by omega) p3 p4
      exact ⟨m2, by omega, hP, ⟨_, z1, z3.trans hgr, fun hq => absurd hq h0⟩, fun hq => absurd hq h0⟩
    · rw [if_neg hgp]
      exact ⟨m, by omega, hP, ⟨g, hg, hgr, fun hq => absurd hq h0⟩, fun hq => absurd hq h0⟩
theorem along_dead {t : TP} {d : PT} {r0 : RU} {f : Nat} {i : Int32} {k : WK} {P : PS} {r : RU} (h : psGoing P = 0) : wkAlongL t d r0 f i k P r = (k, P, r) := by
  cases f with
  | zero => rfl
  | succ f =>
    unfold wkAlongL
    rw [if_pos h]
    split <;> rfl
theorem row_loop {t : TP} {mt : MT} {d : PT} {md : MD} {r0 : RU} {mw : MW} {N : Nat} {cnt : Int} {iN : Int32} (hT : RT t mt) (hd : d.2.1 = md.2.1) (hc : d.2.2.1 = md.2.2.1) (hcn : md.2.2.1.toInt = cnt) (hc8 : cnt ≤ 8) (hln : RLn md.2.1) (hrow : RW r0 mw N) (h2 : 2 ≤ N) (hsg : (N : Int) - 1 ≤ (ruSegs r0).toInt) (hiN : iN.toInt = (N : Int) - 1) :
    ∀ (n f I : Nat) (i : Int32) (k : WK) (P : PS) (r : RU) (mk : MK) (S : MS) (mr : MR) (m : Nat), i.toInt = (I : Int) → I ≤ N - 1 → N - 1 < I + n → 2004 ≤ I + f → R2 k P r mk S mr m cnt → m ≤ I + 1 →
      mRowP md mt mw n i mk S mr ∧ ∃ (f' : Nat) (kc : WK) (Pc : PS) (rc : RU) (m' : Nat), wkAlongL t d r0 f i k P r = wkAlongL t d r0 f' iN kc Pc rc ∧ 2004 ≤ N - 1 + f' ∧ R2 kc Pc rc (mRowL md mt mw n i mk S mr).1 (mRowL md mt mw n i mk S mr).2.1 (mRowL md mt mw n i mk S mr).2.2 m' cnt ∧ m' ≤ N := by
  obtain ⟨r1, r2, r3, r4, r5⟩ := hrow
  intro n
  induction n with
  | zero => intro f I i k P r mk S mr m h1 h2 h3; omega
  | succ n ih =>
    intro f I i k P r mk S mr m hi hI hn hf hR hm
    have hi1 : (i + 1).toInt = ((I + 1 : Nat) : Int) := by rw [sq_succ (by omega) (by omega)]; omega
    by_cases hst : mw.2.2 ≤ i + 1
    · have hst2 := hst
      rw [Int32.le_iff_toInt_le] at hst2
      have e1 : mRowL md mt mw (n + 1) i mk S mr = (mk, S, mr) := by
        unfold mRowL
        rw [if_pos hst]
      have ei : i = iN := Int32.toInt_inj.mp (by omega)
      subst ei
      rw [e1]
      exact ⟨fun hq => absurd hst hq, f, k, P, r, m, rfl, by omega, hR, by omega⟩
    · have hst2 := hst
      rw [Int32.le_iff_toInt_le] at hst2
      have b1 := ru_in r1 (by omega) hi (show I < N by omega)
      have b2 := ru_in r1 (by omega) hi1 (show I + 1 < N by omega)
      have q1 := r4 I (by omega)
      have q2 := r4 (I + 1) (by omega)
      obtain ⟨s1, m', s2, s3⟩ := seg_step (j := i + 1) (B := I + 1) hT hd hc hcn hc8 hln b1.1 b1.2 b2.1 b2.2 (by rw [rl_cl hi]; exact q1.1) (by rw [rl_cl hi]; exact q1.2.1) (by rw [rl_cl hi1]; exact q2.1) (by rw [rl_cl hi1]; exact q2.2.1) q1.2.2.1 q1.2.2.2 q2.2.2.1 q2.2.2.2 (r5 I (by omega)) ⟨by omega, by omega⟩ hR hm
      have e1 : mRowL md mt mw (n + 1) i mk S mr = mRowL md mt mw n (i + 1) (mRwK md mt mw i (i + 1) mk S mr) (mRwQ md mt mw i (i + 1) mk S mr).2.2.1 (mRwR md mt mw i (i + 1) mk S mr) := by
        show (if mw.2.2 ≤ i + 1 then _ else _) = _
        rw [if_neg hst]
      rw [e1]
      obtain ⟨f0, rfl⟩ : ∃ f0, f = f0 + 1 := ⟨f - 1, by omega⟩
      obtain ⟨k1, f', kc, Pc, rc, m2, k2, k3, k4, k5⟩ := ih f0 (I + 1) (i + 1) _ _ _ _ _ _ m' hi1 (by omega) (by omega) (by omega) s3 (by omega)
      refine ⟨fun _ => ⟨s1, k1⟩, f', kc, Pc, rc, m2, ?_, k3, k4, k5⟩
      rw [← k2]
      by_cases hgo : psGoing P = 0
      · rw [if_pos hgo, if_pos hgo, if_pos hgo, along_dead hgo, along_dead hgo]
      · rw [if_neg hgo, if_neg hgo, if_neg hgo]
        show (if ruSegs r0 ≤ i then _ else if psGoing P = 0 then _ else _) = _
        rw [if_neg (by rw [Int32.le_iff_toInt_le]; omega), if_neg hgo]
theorem mMake_dead {cl : Int32} {t : MT} {r : MR} {S : MS} (h : ¬ S.2.2.2 = 0) : mMake cl t r S = S := by
  have hb : mCapB t r S = S := by
    unfold mCapB
    split
    · rfl
    · rw [if_pos (mBeg_dead (k := 0) h).1]
      exact (mBeg_dead h).2
  have hi : (if cl = 0 then mCapB t r S else S) = S := by
    split
    · exact hb
    · rfl
  unfold mMake
  rw [hi, mMakeL_dead h, mCapE_dead h]
  split
  · split <;> rfl
  · rfl
theorem olLoop_dead {t : TP} {r : RU} {n : Nat} {i : Int32} {a : SG} {P : PS} (h : psGoing P = 0) : olLoop t r n i a P = (P, a) := by
  cases n with
  | zero => rfl
  | succ n =>
    unfold olLoop
    rw [if_pos h]
    split <;> rfl
theorem olMake_dead {t : TP} {r : RU} {P : PS} (h : ¬ P.2.2.2.2 = 0) : olMake t r P = P := by
  have hgo : psGoing P = 0 := by
    unfold psGoing
    rw [if_neg h]
  have hb : olBegin (sgMk r 0 t.1) P = P := by
    unfold olBegin
    rw [psStart_dead h, psAdd_dead h, psAdd_dead h, psAdd_dead h, psAdd_dead h]
  have hi : (if olCapped t r = 0 then P else olBegin (sgMk r 0 t.1) P) = P := by
    split
    · rfl
    · exact hb
  unfold olMake
  rw [hi, olLoop_dead hgo]
  split
  · rfl
  · dsimp only
    split
    · rfl
    · exact olEnd_dead h
theorem run_safe {t : TP} {mt : MT} {g : RU} {mr : MR} {n : Nat} (hT : RT t mt) (h : RN g mr n) (hg : g.2.2.2 = 0) : mMakeS 0 mt mr :=
  (run_make (cl := 0) (P := ((fun _ => 0), (fun _ => 0), 0, 0, 0)) (S := ((fun _ => 0), (fun _ => 0), 0, 0)) hT h ⟨fun _ => hg, fun _ => rfl⟩ (fun hq => absurd rfl hq) ⟨rfl, msOk0, fun _ => ⟨rfl, fun i hi => absurd hi (Nat.not_lt_zero i)⟩⟩).2
