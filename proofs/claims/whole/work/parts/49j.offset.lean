/-! the dashes in use, and the state behind the offset -/
theorem pass_eq {U L1 : Nat → Int32} {a b fa fg : Int32} {fl : Int64} {Z : Int64} {M O T : Nat} (hU : RLn U) (hM : a.toInt = (M : Int)) (hM1 : 1 ≤ M) (hM8 : M ≤ 8) (hO : b.toInt = (O : Int)) (hO2 : O ≤ 536870912) (hZ : Z.toInt = (T : Int)) (hT1 : 1 ≤ T) (hT2 : T ≤ 4294967296) (hsum : pf (fun i => (U i).toInt) M M = (T : Int)) (hall : mAll (L1, U, a, b) = Z) (k : MK) :
    mStOk (L1, U, a, b) k ∧ mStart1 (L1, U, a, b) k = (k.1, (ptPass b Z (L1, U, a, fa, fl, fg)).2.2.2.1, (ptPass b Z (L1, U, a, fa, fl, fg)).2.2.2.2.1, (ptPass b Z (L1, U, a, fa, fl, fg)).2.2.2.2.2, k.2.2.2.2) ∧
    (0 ≤ (ptPass b Z (L1, U, a, fa, fl, fg)).2.2.2.1.toInt ∧ (ptPass b Z (L1, U, a, fa, fl, fg)).2.2.2.1.toInt < a.toInt) ∧ ((ptPass b Z (L1, U, a, fa, fl, fg)).2.2.2.2.2 = 0 ∨ (ptPass b Z (L1, U, a, fa, fl, fg)).2.2.2.2.2 = 1) ∧ 0 ≤ (ptPass b Z (L1, U, a, fa, fl, fg)).2.2.2.2.1.toInt ∧ (ptPass b Z (L1, U, a, fa, fl, fg)).2.2.2.2.1.toInt ≤ 536870912 := by
  have eb : b.toInt64.toInt = (O : Int) := (jn_ext b).trans hO
  have ea : a.toInt64.toInt = (M : Int) := (jn_ext a).trans hM
  have hZp : 0 < Z := by
    rw [Int64.lt_iff_toInt_lt]
    have : (0 : Int64).toInt = 0 := rfl
    omega
  have cdiv : ∀ x y : Nat, ((x : Int) / (y : Int)) = ((x / y : Nat) : Int) := fun x y => rfl
  have hdiv : (b.toInt64 / Z).toInt = ((O / T : Nat) : Int) := by
    rw [jn_div (by omega), eb, hZ, Int.tdiv_eq_ediv_of_nonneg (by omega), cdiv]
  have hdm : O / T * T + O % T = O := by rw [Nat.mul_comm]; exact Nat.div_add_mod O T
  have hdm2 : ((O / T * T : Nat) : Int) = ((O / T : Nat) : Int) * (T : Int) := by simp
  have hOT : O / T ≤ O := Nat.div_le_self O T
  have hmul : (b.toInt64 / Z * Z).toInt = ((O / T * T : Nat) : Int) := by
    rw [jn_mul (by rw [hdiv, hZ, ← hdm2]; omega) (by rw [hdiv, hZ, ← hdm2]; omega), hdiv, hZ, hdm2]
  have hrest : (b.toInt64 - b.toInt64 / Z * Z).toInt = ((O % T : Nat) : Int) := by
    rw [jn_sub (by rw [eb, hmul]; omega) (by rw [eb, hmul]; omega), eb, hmul]
    omega
  have hrT : O % T < T := Nat.mod_lt O (by omega)
  obtain ⟨K, s1, s2, s3, s4, s5⟩ := pt_skip_ok (f := U) (m := a) (M := M) (R := ((O % T : Nat) : Int)) hM hM8 (fun i => (hU i).1) (by rw [hsum]; omega) 9 0 0 (b.toInt64 - b.toInt64 / Z * Z) rfl (by omega) (by omega) (by rw [hrest]; omega) (by rw [hrest]; show (0 : Int) + _ = _; omega)
  have eP : ptPass b Z (L1, U, a, fa, fl, fg) = (L1, U, a, (ptSkip U a 9 0 (b.toInt64 - b.toInt64 / Z * Z)).1, (U (ptSkip U a 9 0 (b.toInt64 - b.toInt64 / Z * Z)).1.toNatClampNeg).toInt64 - (ptSkip U a 9 0 (b.toInt64 - b.toInt64 / Z * Z)).2,
      if (b.toInt64 / Z * a.toInt64 + (ptSkip U a 9 0 (b.toInt64 - b.toInt64 / Z * Z)).1.toInt64) &&& 1 = 1 then 1 else 0) := by
    unfold ptPass
    rw [if_pos hZp]
  rw [eP]
  generalize ptSkip U a 9 0 (b.toInt64 - b.toInt64 / Z * Z) = q at s1 s2 s3 s4 s5 ⊢
  have cq := rl_cl s1
  have hUK := hU K
  have eUK : (U K).toInt64.toInt = (U K).toInt := jn_ext _
  have hleft : ((U q.1.toNatClampNeg).toInt64 - q.2).toInt = (U K).toInt - q.2.toInt := by
    rw [cq, jn_sub (by rw [eUK]; omega) (by rw [eUK]; omega), eUK]
  -- the reference's way
  have h2Z : (2 * Z).toInt = ((2 * T : Nat) : Int) := by
    have e2 : (2 : Int64).toInt = 2 := rfl
    rw [jn_mul (by rw [e2, hZ]; omega) (by rw [e2, hZ]; omega), e2, hZ]
    omega
  have hdiv2 : (b.toInt64 / (2 * Z)).toInt = ((O / (2 * T) : Nat) : Int) := by
    rw [jn_div (by omega), eb, h2Z, Int.tdiv_eq_ediv_of_nonneg (by omega), cdiv]
  have hem : O / (2 * T) * (2 * T) + O % (2 * T) = O := by rw [Nat.mul_comm]; exact Nat.div_add_mod O (2 * T)
  have hem2 : ((O / (2 * T) * (2 * T) : Nat) : Int) = ((O / (2 * T) : Nat) : Int) * ((2 * T : Nat) : Int) := Int.natCast_mul _ _
  have hmul2 : (b.toInt64 / (2 * Z) * (2 * Z)).toInt = ((O / (2 * T) * (2 * T) : Nat) : Int) := by
    rw [jn_mul (by rw [hdiv2, h2Z, ← hem2]; omega) (by rw [hdiv2, h2Z, ← hem2]; omega), hdiv2, h2Z, hem2]
  have hmr : (mRest (L1, U, a, b)).toInt = ((O % (2 * T) : Nat) : Int) := by
    unfold mRest
    rw [hall]
    show (b.toInt64 - b.toInt64 / (2 * Z) * (2 * Z)).toInt = _
    rw [jn_sub (by rw [eb, hmul2]; omega) (by rw [eb, hmul2]; omega), eb, hmul2]
    omega
  have hr2 : O % (2 * T) < 2 * T := Nat.mod_lt O (by omega)
  have hp2 : pf (fun i => (U i).toInt) M (2 * M) = ((2 * T : Nat) : Int) := by
    have := pf_turns (f := fun i => (U i).toInt) (n := M) (i := 0) 2
    rw [Nat.add_zero] at this
    rw [this, hsum]
    show (2 : Int) * (T : Int) + 0 = _
    omega
  obtain ⟨g1, Q, g2, g3, g4, g5, g6, g7, g8, g9⟩ := st_loop (md := (L1, U, a, b)) (M := M) (R := ((O % (2 * T) : Nat) : Int)) hM hM1 hM8 hU (by show _ < pf (fun i => (U i).toInt) M (2 * M); rw [hp2]; omega) 17 0 (mRest (L1, U, a, b)) (mK0 (L1, U, a, b) k)
    (by show (0 : Int32).toInt = _; rw [Nat.zero_mod]; rfl) rfl (by show (U (0 : Int32).toNatClampNeg).toInt64 = (U (0 % M)).toInt64; rw [Nat.zero_mod]; rfl) (by rw [hmr]; omega) (by rw [hmr]; show (0 : Int) + _ = _; omega) (by omega) (by omega)
  have eS : mStart0 (L1, U, a, b) k = mStartL (L1, U, a, b) 17 (mRest (L1, U, a, b)) (mK0 (L1, U, a, b) k) := rfl
  rw [← eS] at g2 g3 g4 g5 g6 g7 g8 g9
  have g4 : (mStart0 (L1, U, a, b) k).2.2.2.1 = (U (Q % M)).toInt64 := g4
  have g6 : pf (fun i => (U i).toInt) M Q + (mStart0 (L1, U, a, b) k).1.toInt = ((O % (2 * T) : Nat) : Int) := g6
  have g7 : (mStart0 (L1, U, a, b) k).1.toInt < (U (Q % M)).toInt := g7
  have g8 : (mStart0 (L1, U, a, b) k).2.1 = k.1 := g8
  have g9 : (mStart0 (L1, U, a, b) k).2.2.2.2.2 = k.2.2.2.2 := g9
  -- turns
  obtain ⟨h, e, he, hqt⟩ : ∃ h e : Nat, e < 2 ∧ O / T = 2 * h + e := ⟨O / T / 2, O / T % 2, Nat.mod_lt _ (by decide), by omega⟩
  have hOm : O % (2 * T) = e * T + O % T := by
    have e1 : O = (e * T + O % T) + (2 * T) * h := by
      have : O / T * T = 2 * T * h + e * T := by rw [hqt, Nat.add_mul, Nat.mul_right_comm]
      omega
    have e2 : e * T + O % T < 2 * T := by
      have : e * T ≤ 1 * T := Nat.mul_le_mul_right T (by omega)
      omega
    calc O % (2 * T) = ((e * T + O % T) + (2 * T) * h) % (2 * T) := by rw [← e1]
      _ = (e * T + O % T) % (2 * T) := Nat.add_mul_mod_self_left _ _ _
      _ = e * T + O % T := Nat.mod_eq_of_lt e2
  have hpt := pf_turns (f := fun i => (U i).toInt) (n := M) (i := K) e
  rw [hsum] at hpt
  have hKM : (e * M + K) % M = K := by
    rw [Nat.mul_comm, Nat.mul_add_mod]
    exact Nat.mod_eq_of_lt s2
  have heT : ((e * T : Nat) : Int) = (e : Int) * (T : Int) := Int.natCast_mul _ _
  have hQ : Q = e * M + K := by
    refine pf_uniq (f := fun i => (U i).toInt) (n := M) (x := ((O % (2 * T) : Nat) : Int)) (fun i => (hU i).1) (by omega) ?_ ?_ ?_
    · show _ < pf (fun i => (U i).toInt) M Q + (U (Q % M)).toInt
      omega
    · rw [hpt, hOm]
      omega
    · show _ < pf (fun i => (U i).toInt) M (e * M + K) + (U ((e * M + K) % M)).toInt
      rw [hpt, hKM, hOm]
      omega
  rw [hQ, hKM] at g2 g4 g7
  rw [hQ] at g3 g6
  have hz9 : (mStart0 (L1, U, a, b) k).1 = q.2 := Int64.toInt_inj.mp (by rw [hpt, hOm] at g6; omega)
  have hx : (b.toInt64 / Z * a.toInt64 + q.1.toInt64).toInt = ((O / T * M + K : Nat) : Int) := by
    have e1 : ((O / T * M : Nat) : Int) = ((O / T : Nat) : Int) * (M : Int) := Int.natCast_mul _ _
    have e2 : O / T * M ≤ 536870912 * 8 := Nat.mul_le_mul (by omega) hM8
    have e3 : (b.toInt64 / Z * a.toInt64).toInt = ((O / T * M : Nat) : Int) := by
      rw [jn_mul (by rw [hdiv, ea, ← e1]; omega) (by rw [hdiv, ea, ← e1]; omega), hdiv, ea, e1]
    have e4 : q.1.toInt64.toInt = (K : Int) := (jn_ext _).trans s1
    rw [jn_add (by rw [e3, e4]; omega) (by rw [e3, e4]; omega), e3, e4]
    omega
  have hgap : (mStart0 (L1, U, a, b) k).2.2.2.2.1 = (if (b.toInt64 / Z * a.toInt64 + q.1.toInt64) &&& 1 = 1 then 1 else 0) := by
    rw [g3]
    have hpar : (O / T * M + K) % 2 = (e * M + K) % 2 := by
      have : O / T * M = 2 * (h * M) + e * M := by rw [hqt, Nat.add_mul, Nat.mul_assoc]
      omega
    by_cases hq : (e * M + K) % 2 = 0
    · rw [if_pos hq, if_neg (fun hc => by have := (odd_bit _).mp hc; rw [hx] at this; omega)]
    · rw [if_neg hq, if_pos ((odd_bit _).mpr (by rw [hx]; omega))]
  refine ⟨⟨by show a.toInt ≤ 8; omega, by rw [hall]; exact sq_2nz (by omega), g1⟩, ?_, ⟨by show 0 ≤ q.1.toInt; omega, by show q.1.toInt < a.toInt; omega⟩, ?_, by show 0 ≤ ((U q.1.toNatClampNeg).toInt64 - q.2).toInt; omega, by show ((U q.1.toNatClampNeg).toInt64 - q.2).toInt ≤ 536870912; omega⟩
  · unfold mStart1
    rw [g8, g9, hgap, g4, hz9, show (mStart0 (L1, U, a, b) k).2.2.1 = q.1 from Int32.toInt_inj.mp (by rw [g2, s1])]
    show (k.1, q.1, (U K).toInt64 - q.2, _, k.2.2.2.2) = (k.1, q.1, (U q.1.toNatClampNeg).toInt64 - q.2, _, k.2.2.2.2)
    rw [cq]
  · show (if (b.toInt64 / Z * a.toInt64 + q.1.toInt64) &&& 1 = 1 then (1 : Int32) else 0) = 0 ∨ (if (b.toInt64 / Z * a.toInt64 + q.1.toInt64) &&& 1 = 1 then (1 : Int32) else 0) = 1
    split
    · exact Or.inr rfl
    · exact Or.inl rfl
theorem pass_abc {b : Int32} {Z : Int64} {d : PT} : (ptPass b Z d).1 = d.1 ∧ (ptPass b Z d).2.1 = d.2.1 ∧ (ptPass b Z d).2.2.1 = d.2.2.1 ∧ (sq_bo d.2.2.2.2.2 → sq_bo (ptPass b Z d).2.2.2.2.2) := by
  unfold ptPass
  split
  · exact ⟨rfl, rfl, rfl, fun _ => sq_bi⟩
  · exact ⟨rfl, rfl, rfl, fun h => h⟩
theorem dashes_rd {d : PT} {md : MD} (h : RD d md) (a b : Int32) : ptUseOk a b d = mDashOk a b md ∧ RD (ptUse a b d) (mDash a b md) := by
  obtain ⟨d1, d2, d3, d4, d5, d6, d7, d8, d9, d10⟩ := h
  have e8 : (8 : Int32).toInt = 8 := rfl
  have z0 : (0 : Int32).toInt = 0 := rfl
  have hok : ptUseOk a b d = mDashOk a b md ∧ (mDashOk a b md = 0 ∨ ((0 ≤ a.toInt ∧ a.toInt ≤ 8) ∧ (0 ≤ b.toInt ∧ b.toInt ≤ 536870912) ∧ (a ≤ 0 ∨ ¬ ptSum md.1 a 9 0 0 = 0))) := by
    unfold ptUseOk mDashOk
    rw [d1]
    by_cases q1 : a < 0
    · rw [if_pos q1, if_pos q1]; exact ⟨rfl, Or.inl rfl⟩
    · rw [if_neg q1, if_neg q1]
      have h0 := sq_lo1 q1
      by_cases q2 : 8 < a
      · rw [if_pos q2, if_pos q2]; exact ⟨rfl, Or.inl rfl⟩
      · rw [if_neg q2, if_neg q2]
        rw [Int32.lt_iff_toInt_lt] at q2
        rcases units_eq b with ⟨u1, u2⟩ | ⟨u1, u2, u3, u4, u5⟩
        · rw [if_pos u1]
          by_cases q3 : b < 0
          · rw [if_pos q3]; exact ⟨rfl, Or.inl rfl⟩
          · rw [if_neg q3, if_neg (u2.resolve_left q3)]; exact ⟨rfl, Or.inl rfl⟩
        · rw [if_neg (by rw [u1]; decide), if_neg u2, if_pos u3]
          refine ⟨rfl, ?_⟩
          by_cases q4 : a ≤ 0
          · exact Or.inr ⟨⟨h0, by omega⟩, ⟨u4, u5⟩, Or.inl q4⟩
          · rw [if_neg q4]
            by_cases q5 : ptSum md.1 a 9 0 0 = 0
            · rw [if_pos q5]; exact Or.inl rfl
            · exact Or.inr ⟨⟨h0, by omega⟩, ⟨u4, u5⟩, Or.inr q5⟩
  refine ⟨hok.1, ?_⟩
  unfold ptUse mDash
  rw [hok.1]
  by_cases hq : mDashOk a b md = 0
  · rw [if_pos hq, if_pos hq]
    exact ⟨d1, d2, d3, d4, d5, d6, d7, d8, d9, d10⟩
  · rw [if_neg hq, if_neg hq]
    obtain ⟨⟨ha0, ha8⟩, ⟨hb0, hb1⟩, hs⟩ := hok.2.resolve_left hq
    rw [d1, d2]
    obtain ⟨p1, p2, p3, p4⟩ := pass_abc (b := b) (Z := ptSum md.1 a 9 0 0) (d := (md.1, ptCopy md.1 a 9 0 md.2.1, a, d.2.2.2.1, d.2.2.2.2.1, d.2.2.2.2.2))
    have hU : RLn (ptCopy md.1 a 9 0 md.2.1) := copy_ln d6 9 0 md.2.1 d7
    have hmain : ¬ a ≤ 0 → ∀ k : MK, mStOk (md.1, ptCopy md.1 a 9 0 md.2.1, a, b) k ∧ mStart1 (md.1, ptCopy md.1 a 9 0 md.2.1, a, b) k = (k.1, (ptPass b (ptSum md.1 a 9 0 0) (md.1, ptCopy md.1 a 9 0 md.2.1, a, d.2.2.2.1, d.2.2.2.2.1, d.2.2.2.2.2)).2.2.2.1, (ptPass b (ptSum md.1 a 9 0 0) (md.1, ptCopy md.1 a 9 0 md.2.1, a, d.2.2.2.1, d.2.2.2.2.1, d.2.2.2.2.2)).2.2.2.2.1, (ptPass b (ptSum md.1 a 9 0 0) (md.1, ptCopy md.1 a 9 0 md.2.1, a, d.2.2.2.1, d.2.2.2.2.1, d.2.2.2.2.2)).2.2.2.2.2, k.2.2.2.2) ∧
        (0 ≤ (ptPass b (ptSum md.1 a 9 0 0) (md.1, ptCopy md.1 a 9 0 md.2.1, a, d.2.2.2.1, d.2.2.2.2.1, d.2.2.2.2.2)).2.2.2.1.toInt ∧ (ptPass b (ptSum md.1 a 9 0 0) (md.1, ptCopy md.1 a 9 0 md.2.1, a, d.2.2.2.1, d.2.2.2.2.1, d.2.2.2.2.2)).2.2.2.1.toInt < a.toInt) ∧
        ((ptPass b (ptSum md.1 a 9 0 0) (md.1, ptCopy md.1 a 9 0 md.2.1, a, d.2.2.2.1, d.2.2.2.2.1, d.2.2.2.2.2)).2.2.2.2.2 = 0 ∨ (ptPass b (ptSum md.1 a 9 0 0) (md.1, ptCopy md.1 a 9 0 md.2.1, a, d.2.2.2.1, d.2.2.2.2.1, d.2.2.2.2.2)).2.2.2.2.2 = 1) ∧
        0 ≤ (ptPass b (ptSum md.1 a 9 0 0) (md.1, ptCopy md.1 a 9 0 md.2.1, a, d.2.2.2.1, d.2.2.2.2.1, d.2.2.2.2.2)).2.2.2.2.1.toInt ∧ (ptPass b (ptSum md.1 a 9 0 0) (md.1, ptCopy md.1 a 9 0 md.2.1, a, d.2.2.2.1, d.2.2.2.2.1, d.2.2.2.2.2)).2.2.2.2.1.toInt ≤ 536870912 := by
      intro hpos k
      have hsn := hs.resolve_left hpos
      rw [Int32.le_iff_toInt_le] at hpos
      obtain ⟨M, hM⟩ : ∃ M : Nat, a.toInt = (M : Int) := ⟨a.toInt.toNat, by omega⟩
      obtain ⟨O, hO⟩ : ∃ O : Nat, b.toInt = (O : Int) := ⟨b.toInt.toNat, by omega⟩
      obtain ⟨t1, t2, t3⟩ := pt_sum_ok (f := md.1) hM (by omega) (fun j => (d6 j).1) (fun j => (d6 j).2) 9 0 0 0 rfl (by omega) (by omega) rfl (by decide) (by decide)
      obtain ⟨v1, v2, v3⟩ := pt_sum_ok (f := ptCopy md.1 a 9 0 md.2.1) hM (by omega) (fun j => (hU j).1) (fun j => (hU j).2) 9 0 0 0 rfl (by omega) (by omega) rfl (by decide) (by decide)
      have hcg : pf (fun i => (ptCopy md.1 a 9 0 md.2.1 i).toInt) M M = pf (fun i => (md.1 i).toInt) M M := pf_congr (by omega) (fun i hi => by
        show (ptCopy md.1 a 9 0 md.2.1 i).toInt = (md.1 i).toInt
        rw [copy_at hM 9 0 0 md.2.1 rfl (by omega) (by omega) (by omega) (fun j hj => by omega) i hi]) M
      have hall : mAll (md.1, ptCopy md.1 a 9 0 md.2.1, a, b) = ptSum md.1 a 9 0 0 := Int64.toInt_inj.mp (by
        show (ptSum (ptCopy md.1 a 9 0 md.2.1) a 9 0 0).toInt = _
        rw [v1, t1, hcg])
      obtain ⟨T, hT⟩ : ∃ T : Nat, (ptSum md.1 a 9 0 0).toInt = (T : Int) := ⟨(ptSum md.1 a 9 0 0).toInt.toNat, by omega⟩
      have hT1 : 1 ≤ T := by
        rcases Nat.eq_zero_or_pos T with h9 | h9
        · exfalso
          apply hsn
          exact Int64.toInt_inj.mp (by rw [hT, h9]; rfl)
        · exact h9
      exact pass_eq hU hM (by omega) (by omega) hO (by omega) hT hT1 (by omega) (by rw [hcg, ← t1, hT]) hall k
    refine ⟨p1, p2, p3, ha0, ha8, d6, hU, p4 d8, fun hp k => ⟨(hmain hp k).1, (hmain hp k).2.1⟩, fun hp => ?_⟩
    exact (hmain hp (0, 0, 0, 0, 0)).2.2
