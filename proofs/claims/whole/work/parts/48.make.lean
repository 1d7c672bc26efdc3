/-! joins, and the pieces of a run, are the same on both sides -/
theorem psStart_dead {k : Int32} {P : PS} (h : ¬ P.2.2.2.2 = 0) : psStart k P = P := by
  unfold psStart
  rw [if_neg h]
theorem olJoin_dead {t : TP} {a b : SG} {P : PS} (h : ¬ P.2.2.2.2 = 0) : olJoin t a b P = P := by
  unfold olJoin olTip olTwo
  split
  · rfl
  · rw [psStart_dead h, psAdd_dead h, psAdd_dead h]
    split
    · rw [psAdd_dead h]
    · rw [psAdd_dead h, psAdd_dead h]
theorem olSide_dead {a : SG} {P : PS} (h : ¬ P.2.2.2.2 = 0) : olSide a P = P := by
  unfold olSide
  rw [psStart_dead h, psAdd_dead h, psAdd_dead h, psAdd_dead h, psAdd_dead h]
theorem olEnd_dead {a : SG} {P : PS} (h : ¬ P.2.2.2.2 = 0) : olEnd a P = P := by
  unfold olEnd
  rw [psStart_dead h, psAdd_dead h, psAdd_dead h, psAdd_dead h, psAdd_dead h]
theorem mBeg_dead {k : Int32} {S : MS} (h : ¬ S.2.2.2 = 0) : mBegR S = 0 ∧ mBeg k S = S := by
  have e : mBegT S = S := by
    unfold mBegT
    rw [if_neg h]
  unfold mBegR mBeg
  rw [e, if_neg h, if_neg h]
  exact ⟨rfl, rfl⟩
theorem mSide_dead {i : Int32} {t : MT} {r : MR} {S : MS} (h : ¬ S.2.2.2 = 0) : mSide i t r S = S := by
  unfold mSide
  rw [if_pos (mBeg_dead (k := 0) h).1]
  exact (mBeg_dead h).2
theorem mMeet_dead {i j : Int32} {t : MT} {r : MR} {S : MS} (h : ¬ S.2.2.2 = 0) : mMeet i j t r S = S := by
  unfold mMeet
  rw [if_neg h]
theorem mCapE_dead {i : Int32} {t : MT} {r : MR} {S : MS} (h : ¬ S.2.2.2 = 0) : mCapE i t r S = S := by
  unfold mCapE
  split
  · rfl
  · rw [if_pos (mBeg_dead (k := 0) h).1]
    exact (mBeg_dead h).2
theorem mMakeL_dead {cl : Int32} {t : MT} {r : MR} {z : Int32} {n : Nat} {S : MS} (h : ¬ S.2.2.2 = 0) : ∀ {i : Int32}, mMakeL cl t r z n i S = S := by
  induction n with
  | zero => exact rfl
  | succ n ih =>
    intro i
    unfold mMakeL
    rw [mSide_dead h, mMeet_dead h, ih]
    split
    · rfl
    · split
      · split <;> rfl
      · rfl
theorem join_num {t : TP} {mt : MT} {a b : SG} {i j : Int32} {m2 : MR} (hT : RT t mt) (ha : SE a i mt m2) (hb : SE b j mt m2) :
    olTurn a b = mTurn i j m2 ∧ olOut a b = mOut i j m2 ∧ olCos a b = mCos i j mt m2 ∧ tpMitre (olCos a b) t = mMitre i j mt m2 ∧ mMeetS i j mt m2 ∧ (¬ mMitre i j mt m2 = 0 → tpReach (olCos a b) t = mReach i j mt m2) := by
  obtain ⟨a1, a2, a3, a4, a5, a6, a7, a8, a9, a10, a11, ⟨a12, a13⟩, a14, a15⟩ := ha
  obtain ⟨b1, b2, b3, b4, b5, b6, b7, b8, b9, b10, b11, ⟨b12, b13⟩, b14, b15⟩ := hb
  obtain ⟨t1, t2, t3, t4, t5, t6, t7, lm, t8, t9, t10, t11⟩ := hT
  have eT : olTurn a b = mTurn i j m2 := by
    unfold olTurn mTurn
    rw [a5, a6, b5, b6]
  have eO : olOut a b = mOut i j m2 := by
    unfold olOut mOut
    rw [eT]
  have eC : olCos a b = mCos i j mt m2 := by
    unfold olCos mCos
    rw [a8, a9, b8, b9]
  obtain ⟨H, hH⟩ : ∃ H : Nat, mt.1.toInt = (H : Int) := ⟨mt.1.toInt.toNat, by omega⟩
  rw [hH] at a12 a13 a14 a15 b12 b13 b14 b15 t2 t3
  have eh : mt.1.toInt64.toInt = (H : Int) := (Int32.toInt_toInt64 mt.1).trans hH
  have el : lm.toInt64.toInt = lm.toInt := Int32.toInt_toInt64 lm
  have q1 := ar_mul (x := (H : Int)) (y := (H : Int)) (A := 4194304) (B := 4194304) (by omega) (by omega) (by omega) (by omega)
  have q0 : (1 : Int) ≤ (H : Int) * (H : Int) := by
    have := Int.mul_le_mul (a := (1 : Int)) (b := (1 : Int)) (c := (H : Int)) (d := (H : Int)) t2 t2 (by omega) (by omega)
    omega
  have eq : (mSq mt).toInt = (H : Int) * (H : Int) := by
    unfold mSq
    rw [jn_mul (by rw [eh]; omega) (by rw [eh]; omega), eh]
  have l1 := ar_mul (x := lm.toInt) (y := lm.toInt) (A := 6553600) (B := 6553600) (by omega) (by omega) (by omega) (by omega)
  have l0 : (65536 : Int) * 65536 ≤ lm.toInt * lm.toInt := Int.mul_le_mul t9 t9 (by omega) (by omega)
  have ell : (lm.toInt64 * lm.toInt64).toInt = lm.toInt * lm.toInt := by rw [jn_mul (by rw [el]; omega) (by rw [el]; omega), el]
  have hllp : 0 < lm.toInt64 * lm.toInt64 := by
    rw [Int64.lt_iff_toInt_lt, ell]
    have : (0 : Int64).toInt = 0 := rfl
    omega
  have hlz : ¬ lm.toInt64 * lm.toInt64 = 0 := sq_pos hllp
  have ebd : t.2.2.2 = 562949953421312 / (lm.toInt64 * lm.toInt64) - 65536 := by
    rw [t11]
    unfold tpLeast
    rw [if_pos hllp]
  -- the bound on the cosine as a whole number
  have eK : (562949953421312 / (lm.toInt64 * lm.toInt64)).toInt = 562949953421312 / (lm.toInt * lm.toInt) := by
    have e1 : (562949953421312 : Int64).toInt = 562949953421312 := rfl
    rw [jn_div (by rw [ell]; omega), e1, ell]
    exact Int.tdiv_eq_ediv_of_nonneg (by decide)
  have k1 : 13 ≤ 562949953421312 / (lm.toInt * lm.toInt) := by
    rw [Int.le_ediv_iff_mul_le (by omega)]
    omega
  have k2 : 562949953421312 / (lm.toInt * lm.toInt) ≤ 131072 := by
    have h9 : 562949953421312 / (lm.toInt * lm.toInt) < 131073 := by
      rw [Int.ediv_lt_iff_lt_mul (by omega)]
      omega
    omega
  generalize hKK : 562949953421312 / (lm.toInt * lm.toInt) = K at eK k1 k2
  have eB : (562949953421312 / (lm.toInt64 * lm.toInt64) - 65536).toInt = K - 65536 := by
    have e1 : (65536 : Int64).toInt = 65536 := rfl
    rw [jn_sub (by rw [eK, e1]; omega) (by rw [eK, e1]; omega), eK, e1]
  generalize hsq : (H : Int) * (H : Int) = Q at q0 q1 eq
  have m1 := ar_mul (x := K - 65536) (y := Q) (A := 65536) (B := 17592186044416) (by omega) (by omega) (by omega) (by omega)
  have eBQ : ((562949953421312 / (lm.toInt64 * lm.toInt64) - 65536) * mSq mt).toInt = (K - 65536) * Q := by
    rw [jn_mul (by rw [eB, eq]; omega) (by rw [eB, eq]; omega), eB, eq]
  have n1 := ar_mul a12 a13 b12 b13
  have n2 := ar_mul a14 a15 b14 b15
  rw [hsq] at n1 n2
  have ec : (mCos i j mt m2).toInt = (mAcross i 0 mt m2).toInt * (mAcross j 0 mt m2).toInt + (mAcross i 1 mt m2).toInt * (mAcross j 1 mt m2).toInt := by
    unfold mCos
    have z1 : (mAcross i 0 mt m2 * mAcross j 0 mt m2).toInt = (mAcross i 0 mt m2).toInt * (mAcross j 0 mt m2).toInt := jn_mul (by omega) (by omega)
    have z2 : (mAcross i 1 mt m2 * mAcross j 1 mt m2).toInt = (mAcross i 1 mt m2).toInt * (mAcross j 1 mt m2).toInt := jn_mul (by omega) (by omega)
    rw [jn_add (by rw [z1, z2]; omega) (by rw [z1, z2]; omega), z1, z2]
  generalize hcc : (mAcross i 0 mt m2).toInt * (mAcross j 0 mt m2).toInt + (mAcross i 1 mt m2).toInt * (mAcross j 1 mt m2).toInt = cz at ec
  have hc1 : -(2 * Q) ≤ cz := by omega
  have hc2 : cz ≤ 2 * Q := by omega
  have e6 : (65536 : Int64).toInt = 65536 := rfl
  have ec6 : (mCos i j mt m2 * 65536).toInt = cz * 65536 := by
    rw [jn_mul (by rw [ec, e6]; omega) (by rw [ec, e6]; omega), ec, e6]
  have eM : tpMitre (olCos a b) t = mMitre i j mt m2 := by
    unfold tpMitre mMitre
    rw [eC, t6, ebd, t1, Int64.mul_assoc, t8]
    rfl
  have hposs : ¬ mMitre i j mt m2 = 0 → 0 < (mSq mt + mCos i j mt m2).toInt := by
    intro hm
    unfold mMitre at hm
    split at hm
    · split at hm
      · exact absurd rfl hm
      · next hlt =>
        rw [Int64.lt_iff_toInt_lt, ec6, t8, eBQ] at hlt
        have e7 : (K - 65536) * Q = K * Q - 65536 * Q := Int.sub_mul K 65536 Q
        have e8 : 13 * Q ≤ K * Q := Int.mul_le_mul_of_nonneg_right k1 (by omega)
        rw [jn_add (by rw [eq, ec]; omega) (by rw [eq, ec]; omega), eq, ec]
        omega
    · exact absurd rfl hm
  refine ⟨eT, eO, eC, eM, ⟨by rw [t8]; exact hlz, fun hm => sq_2nz (hposs hm)⟩, fun hm => ?_⟩
  unfold tpReach mReach
  rw [eC, t1]
  exact kr_eq (hposs hm)
theorem olSide_ri {a : SG} {i : Int32} {mt : MT} {m2 : MR} {P : PS} {S : MS} (h : RI P S) (ha : SE a i mt m2) : RI (olSide a P) (mSide i mt m2 S) := by
  obtain ⟨a1, a2, a3, a4, a5, a6, a7, a8, a9, a10, a11, -⟩ := ha
  unfold olSide mSide
  rw [a1, a2, a3, a4, a8, a9]
  exact ri_four h (Or.inl rfl)
theorem olBegin_ri {a : SG} {mt : MT} {m2 : MR} {P : PS} {S : MS} (h : RI P S) (hc : ¬ mt.2.1 = 0) (ha : SE a 0 mt m2) : RI (olBegin a P) (mCapB mt m2 S) := by
  obtain ⟨a1, a2, a3, a4, a5, a6, a7, a8, a9, a10, a11, -⟩ := ha
  unfold olBegin mCapB
  rw [a1, a2, a8, a9, a10, a11, if_neg hc]
  exact ri_four h (Or.inr (Or.inr (Or.inr rfl)))
theorem olEnd_ri {a : SG} {i : Int32} {mt : MT} {m2 : MR} {P : PS} {S : MS} (h : RI P S) (hc : ¬ mt.2.1 = 0) (ha : SE a i mt m2) : RI (olEnd a P) (mCapE i mt m2 S) := by
  obtain ⟨a1, a2, a3, a4, a5, a6, a7, a8, a9, a10, a11, -⟩ := ha
  unfold olEnd mCapE
  rw [a3, a4, a8, a9, a10, a11, if_neg hc]
  exact ri_four h (Or.inr (Or.inr (Or.inr rfl)))
theorem RI.alive {P : PS} {S : MS} (h : RI P S) (h0 : ¬ S.2.2.2 = 0) : ¬ P.2.2.2.2 = 0 := fun e => h0 (h.1.symm.trans e)
theorem olJoin_ri {t : TP} {a b : SG} {i j : Int32} {mt : MT} {m2 : MR} {P : PS} {S : MS} (hT : RT t mt) (h : RI P S) (ha : SE a i mt m2) (hb : SE b j mt m2) : RI (olJoin t a b P) (mMeet i j mt m2 S) := by
  by_cases h0 : S.2.2.2 = 0
  · obtain ⟨e1, e2, e3, e4, e5, e6⟩ := join_num hT ha hb
    obtain ⟨a1, a2, a3, a4, a5, a6, a7, a8, a9, a10, a11, -⟩ := ha
    obtain ⟨b1, b2, b3, b4, b5, b6, b7, b8, b9, b10, b11, -⟩ := hb
    unfold olJoin mMeet
    rw [if_pos h0, e1]
    by_cases h1 : mTurn i j m2 = 0
    · rw [if_pos h1, if_pos h1]
      exact h
    · rw [if_neg h1, if_neg h1]
      unfold olTip mMTip olTwo mMTwo
      rw [e2, e4, a3, a4, a8, a9, b8, b9]
      by_cases h2 : mMitre i j mt m2 = 0
      · rw [if_pos h2, if_pos h2, if_pos h2, if_pos h2]
        exact ri_three h
      · rw [if_neg h2, if_neg h2, if_neg h2, if_neg h2, e6 h2]
        rw [kr_eq (by decide), kr_eq (by decide)]
        exact ri_four h (Or.inr (Or.inr (Or.inl rfl)))
  · rw [olJoin_dead (h.alive h0), mMeet_dead h0]
    exact h
/-- all segments of a run, as the class and as the reference have them -/
def SEGS (r : RU) (cl z : Int32) (mt : MT) (m2 : MR) : Prop :=
  (∀ i : Int32, 0 ≤ i.toInt → ¬ z ≤ i → SE (sgMk r i mt.1.toInt64) i mt m2 ∧ mRunS i m2) ∧ (¬ cl = 0 → ∀ i : Int32, 0 ≤ i.toInt → ¬ z ≤ i → z ≤ i + 1 → SE (sgMk r 0 mt.1.toInt64) (i + 1) mt m2 ∧ mRunS (i + 1) m2)
theorem psGo {P : PS} {S : MS} (h : RI P S) : (psGoing P = 0 ↔ ¬ S.2.2.2 = 0) := by
  unfold psGoing
  rw [h.1]
  constructor
  · intro h1 h2
    rw [if_pos h2] at h1
    exact absurd h1 (by decide)
  · intro h1
    rw [if_neg h1]
theorem make_loop {t : TP} {mt : MT} {r : RU} {cl z : Int32} {m2 : MR} (hT : RT t mt) (hz : ruSegs r = z) (hz0 : 0 ≤ z.toInt ∧ z.toInt ≤ 2002) (hcl : cl = 0 ↔ r.2.2.2 = 0) (hS : SEGS r cl z mt m2) :
    ∀ (n : Nat) (i : Int32) (a : SG) (P : PS) (S : MS), 0 ≤ i.toInt → i.toInt ≤ 2003 → (¬ z ≤ i → SE a i mt m2) → (z ≤ i → cl = 0 → SE a (z - 1) mt m2) → RI P S → z.toInt < i.toInt + n →
      RI (olLoop t r n i a P).1 (mMakeL cl mt m2 z n i S) ∧ ((mMakeL cl mt m2 z n i S).2.2.2 = 0 → cl = 0 → SE (olLoop t r n i a P).2 (z - 1) mt m2) := by
  intro n
  induction n with
  | zero =>
    intro i a P S h1 h2 h3 h4 h5 h6
    have hle : z ≤ i := by rw [Int32.le_iff_toInt_le]; omega
    exact ⟨h5, fun _ hc => h4 hle hc⟩
  | succ n ih =>
    intro i a P S h1 h2 h3 h4 h5 h6
    unfold olLoop mMakeL
    rw [hz]
    by_cases hle : z ≤ i
    · rw [if_pos hle, if_pos hle]
      exact ⟨h5, fun _ hc => h4 hle hc⟩
    · rw [if_neg hle, if_neg hle]
      have hlt : i.toInt < z.toInt := by rw [Int32.le_iff_toInt_le] at hle; omega
      by_cases hd : S.2.2.2 = 0
      · rw [if_neg (fun e => (psGo h5).mp e hd)]
        have hsi := olSide_ri h5 (h3 hle)
        have hi1 : (i + 1).toInt = i.toInt + 1 := sq_succ h1 (by omega)
        have h1t := hT.1
        by_cases hn : i + 1 < z
        · have hnle : ¬ z ≤ i + 1 := Int32.not_le.mpr hn
          have hnx := (hS.1 (i + 1) (by omega) hnle).1
          rw [← h1t] at hnx
          have hj := olJoin_ri hT hsi (h3 hle) hnx
          rw [if_pos hn]
          have key := ih (i + 1) (sgMk r (i + 1) t.1) (olJoin t a (sgMk r (i + 1) t.1) (olSide a P)) (mMeet i (i + 1) mt m2 (mSide i mt m2 S)) (by omega) (by omega) (fun _ => hnx) (fun hq _ => absurd hq hnle) hj (by omega)
          by_cases hc : cl = 0
          · rw [if_pos hc, if_neg hnle]
            exact key
          · rw [if_neg hc]
            exact key
        · have hle1 : z ≤ i + 1 := Int32.not_lt.mp hn
          rw [if_neg hn]
          by_cases hc : cl = 0
          · rw [if_pos (hcl.mp hc), if_pos hc, if_pos hle1]
            have hzi : z.toInt = i.toInt + 1 := by rw [Int32.le_iff_toInt_le] at hle1; omega
            have ez : z - 1 = i := Int32.toInt_inj.mp (by rw [sq_pred (by omega)]; omega)
            exact ih (i + 1) a (olSide a P) (mSide i mt m2 S) (by omega) (by omega) (fun hq => absurd hle1 hq) (fun _ _ => by rw [ez]; exact h3 hle) hsi (by omega)
          · rw [if_neg (fun e => hc (hcl.mpr e)), if_neg hc]
            have hnx := (hS.2 hc i h1 hle hle1).1
            rw [← h1t] at hnx
            have hj := olJoin_ri hT hsi (h3 hle) hnx
            exact ih (i + 1) (sgMk r 0 t.1) (olJoin t a (sgMk r 0 t.1) (olSide a P)) (mMeet i (i + 1) mt m2 (mSide i mt m2 S)) (by omega) (by omega) (fun hq => absurd hle1 hq) (fun _ hq => absurd hq hc) hj (by omega)
      · rw [if_pos ((psGo h5).mpr hd), mSide_dead hd, mMeet_dead hd, mMakeL_dead hd]
        have hres : ∀ c : Prop, ∀ _ : Decidable c, (if c then (if z ≤ i + 1 then S else S) else S) = S := by
          intro c _
          split
          · split <;> rfl
          · rfl
        rw [hres]
        exact ⟨h5, fun hq => absurd hq hd⟩
theorem make_eq {t : TP} {mt : MT} {r : RU} {cl : Int32} {mr : MR} {P : PS} {S : MS} (hT : RT t mt) (h2 : 2 ≤ mr.2.2) (hz : ruSegs r = mSegs cl mr) (hz0 : 1 ≤ (mSegs cl mr).toInt ∧ (mSegs cl mr).toInt ≤ 2002) (hcl : cl = 0 ↔ r.2.2.2 = 0) (hS : SEGS r cl (mSegs cl mr) mt (mMakeR cl mr)) (h : RI P S) :
    RI (olMake t r P) (mMake cl mt mr S) := by
  have z0 : (0 : Int32).toInt = 0 := rfl
  have hzp : ¬ mSegs cl mr ≤ 0 := by rw [Int32.le_iff_toInt_le]; omega
  have hse := (hS.1 0 (by decide) hzp).1
  have h1t := hT.1
  have t4 := hT.2.2.2.1
  rw [← h1t] at hse
  have hne : ¬ ruSegs r = 0 := by
    rw [hz]
    intro e
    rw [e] at hz0
    omega
  have hdec : (mSegs cl mr).toInt < (0 : Int32).toInt + (2004 : Nat) := by omega
  unfold olMake mMake
  rw [if_neg hne, if_pos h2]
  by_cases hc : cl = 0
  · have hrg := hcl.mp hc
    have em : mMakeR cl mr = mr := by
      unfold mMakeR
      rw [if_pos h2, if_pos hc]
    rw [if_pos hc, if_pos hc]
    have e0 : olCapped t r = (if mt.2.1 = 0 then 0 else 1) := by
      unfold olCapped
      rw [t4, if_pos hrg]
    rw [e0]
    by_cases hcap : mt.2.1 = 0
    · have hb0 : mCapB mt mr S = S := by
        unfold mCapB
        rw [if_pos hcap]
      have he0 : ∀ X : MS, mCapE (mSegs cl mr - 1) mt (mMakeR cl mr) X = X := by
        intro X
        unfold mCapE
        rw [if_pos hcap]
      rw [if_pos hcap, he0, hb0]
      exact (make_loop hT hz ⟨by omega, by omega⟩ hcl hS 2004 0 _ P S (by decide) (by decide) (fun _ => hse) (fun hq _ => absurd hq hzp) h hdec).1
    · rw [if_neg hcap]
      have h10 : ¬ (1 : Int32) = 0 := by decide
      rw [if_neg h10, if_neg h10]
      have hse0 := hse
      rw [em] at hse0
      have hb := olBegin_ri h hcap hse0
      obtain ⟨k1, k2⟩ := make_loop hT hz ⟨by omega, by omega⟩ hcl hS 2004 0 (sgMk r 0 t.1) (olBegin (sgMk r 0 t.1) P) (mCapB mt mr S) (by decide) (by decide) (fun _ => hse) (fun hq _ => absurd hq hzp) hb hdec
      by_cases hd : (mMakeL cl mt (mMakeR cl mr) (mSegs cl mr) 2004 0 (mCapB mt mr S)).2.2.2 = 0
      · exact olEnd_ri k1 hcap (k2 hd hc)
      · rw [mCapE_dead hd]
        show RI (olEnd _ _) _
        rw [olEnd_dead (k1.alive hd)]
        exact k1
  · have hrg : ¬ r.2.2.2 = 0 := fun e => hc (hcl.mpr e)
    have e0 : olCapped t r = 0 := by
      unfold olCapped
      by_cases hq : t.2.1 = 0
      · rw [if_pos hq]
      · rw [if_neg hq, if_neg hrg]
    rw [e0, if_neg hc, if_neg hc]
    exact (make_loop hT hz ⟨by omega, by omega⟩ hcl hS 2004 0 _ P S (by decide) (by decide) (fun _ => hse) (fun hq _ => absurd hq hzp) h hdec).1
theorem make_safe {t : TP} {mt : MT} {r : RU} {cl : Int32} {mr : MR} (hT : RT t mt) (hn : mr.2.2.toInt ≤ 2002) (hz0 : (mSegs cl mr).toInt ≤ 2002) (hS : SEGS r cl (mSegs cl mr) mt (mMakeR cl mr)) : mMakeS cl mt mr := by
  intro h2
  refine ⟨hn, hz0, fun i h0 hi => (hS.1 i h0 hi).2, fun i h0 hi hc => ?_⟩
  have hi1 : (i + 1).toInt = i.toInt + 1 := by
    rw [Int32.le_iff_toInt_le] at hi
    exact sq_succ h0 (by omega)
  by_cases hle : mSegs cl mr ≤ i + 1
  · have hcn : ¬ cl = 0 := fun e => (hc e) hle
    obtain ⟨q1, q2⟩ := hS.2 hcn i h0 hi hle
    exact ⟨q2, (join_num hT (hS.1 i h0 hi).1 q1).2.2.2.2.1⟩
  · obtain ⟨q1, q2⟩ := hS.1 (i + 1) (by omega) hle
    exact ⟨q2, (join_num hT (hS.1 i h0 hi).1 q1).2.2.2.2.1⟩
