/-! sorts, corners, lengths, dashes -/
theorem sort_eq {P : PS} {S : MS} (h : RS P S) (i : Int32) : psKind i P = mSort i S := by
  obtain ⟨h1, h2, h3⟩ := h
  unfold psKind mSort
  rw [h2]
  by_cases q1 : i < 0
  · rw [if_pos q1, if_pos q1]
  · rw [if_neg q1, if_neg q1]
    by_cases q2 : S.2.2.1 ≤ i
    · rw [if_pos q2, if_pos q2]
    · rw [if_neg q2, if_neg q2]
      have z1 : (2000 : Int32).toInt = 2000 := rfl
      have h4 := h1.2
      have h5 := sq_lo1 q1
      have h6 := h1.1
      rw [Int32.le_iff_toInt_le] at q2
      rw [if_neg (by rw [Int32.le_iff_toInt_le]; omega)]
      refine (h3 i.toNatClampNeg ?_).1
      show i.toInt.toNat < S.2.2.1.toInt.toNat
      omega
theorem corner_eq {P : PS} {S : MS} (h : RS P S) (i a b : Int32) : psPlace i a b P = mCornV i a b S := by
  have hs := sort_eq h i
  obtain ⟨h1, h2, h3⟩ := h
  have z0 : (0 : Int32).toInt = 0 := rfl
  have z1 : (1 : Int32).toInt = 1 := rfl
  have z6 : (16000 : Int32).toInt = 16000 := rfl
  have h4 := h1.2
  have h6 := h1.1
  unfold psPlace mCornV
  rw [hs]
  by_cases q1 : i < 0
  · have e : mSort i S = (-1) := by unfold mSort; rw [if_pos q1]
    rw [e, if_pos rfl, if_pos q1]
  · by_cases q2 : S.2.2.1 ≤ i
    · have e : mSort i S = (-1) := by unfold mSort; rw [if_neg q1, if_pos q2]
      rw [e, if_pos rfl, if_neg q1, if_pos q2]
    · have h5 := sq_lo1 q1
      have q2' := q2
      rw [Int32.le_iff_toInt_le] at q2'
      obtain ⟨I, hI⟩ : ∃ I : Nat, i.toInt = (I : Int) := ⟨i.toInt.toNat, by omega⟩
      have cI := rl_cl hI
      obtain ⟨r1, r2, r3⟩ := h3 I (by show I < S.2.2.1.toInt.toNat; omega)
      have e : mSort i S = S.1 I := by unfold mSort; rw [if_neg q1, if_neg q2, cI]
      have hne : ¬ S.1 I = (-1) := by
        rw [← r1]
        rcases r2 with e2 | e2 | e2 | e2 <;> rw [e2] <;> decide
      rw [e, if_neg hne, if_neg q1, if_neg q2, cI]
      by_cases q3 : a < 0
      · rw [if_pos q3, if_pos q3]
      · rw [if_neg q3, if_neg q3]
        have h7 := sq_lo1 q3
        by_cases q4 : a < (if S.1 I = 1 then 3 else 4)
        · rw [if_pos q4, if_neg (Int32.not_le.mpr q4)]
          by_cases q5 : b < 0
          · rw [if_pos q5, if_pos q5]
          · rw [if_neg q5, if_neg q5]
            have h8 := sq_lo1 q5
            by_cases q6 : b ≤ 1
            · rw [if_pos q6, if_pos q6]
              rw [Int32.le_iff_toInt_le] at q6
              rw [Int32.lt_iff_toInt_lt] at q4
              have h9 : (if S.1 I = 1 then (3 : Int32) else 4).toInt = (if S.1 I = 1 then 3 else 4) := by split <;> rfl
              rw [h9] at q4
              obtain ⟨A, hA⟩ : ∃ A : Nat, a.toInt = (A : Int) := ⟨a.toInt.toNat, by omega⟩
              obtain ⟨B, hB⟩ : ∃ B : Nat, b.toInt = (B : Int) := ⟨b.toInt.toNat, by omega⟩
              have hA4 : A < 4 := by split at q4 <;> omega
              have hm := ms_at (k := a) (n := i) ⟨by omega, by omega⟩ ⟨by omega, by omega⟩
              have e1 : (2 : Nat) ^ 32 = 4294967296 := rfl
              have hix : (8 * i + 2 * a + b).toInt = ((8 * I + (2 * A + B) : Nat) : Int) := by
                rw [Int32.toInt_add, hm, e1, Int.bmod_def]
                split <;> omega
              rw [Int32.mul_comm i 8, if_neg (by rw [Int32.lt_iff_toInt_lt]; omega), if_neg (by rw [Int32.le_iff_toInt_le]; omega), rl_cl hix]
              refine r3 (2 * A + B) ?_
              rw [r1]
              split at q4
              · next e9 => rw [if_pos e9]; omega
              · next e9 => rw [if_neg e9]; omega
            · rw [if_neg q6, if_neg q6]
        · rw [if_neg q4, if_pos (Int32.not_lt.mp q4)]
/-- the state behind the offset doesn't see the lengths that are not in use -/
theorem start_congr {a a' : Nat → Int32} {e : (Nat → Int32) × Int32 × Int32} : ∀ (n : Nat) (z : Int64) (k : MK), mStartL (a, e) n z k = mStartL (a', e) n z k ∧ (mStartP (a, e) n z k ↔ mStartP (a', e) n z k) := by
  intro n
  induction n with
  | zero => intro z k; exact ⟨rfl, Iff.rfl⟩
  | succ n ih =>
    intro z k
    obtain ⟨i1, i2⟩ := ih (z - k.2.2.1) (mNext (a, e) k)
    refine ⟨?_, ?_⟩
    · show (if z < k.2.2.1 then (z, k) else mStartL (a, e) n (z - k.2.2.1) (mNext (a, e) k)) = (if z < k.2.2.1 then (z, k) else mStartL (a', e) n (z - k.2.2.1) (mNext (a, e) k))
      rw [i1]
    · show (z < k.2.2.1 ∨ (vp_in (mNextD (a, e) k) 8 ∧ mStartP (a, e) n (z - k.2.2.1) (mNext (a, e) k))) ↔ (z < k.2.2.1 ∨ (vp_in (mNextD (a, e) k) 8 ∧ mStartP (a', e) n (z - k.2.2.1) (mNext (a, e) k)))
      rw [i2]
theorem units_eq (v : Int32) : (kUnits v = 0 ∧ (v < 0 ∨ ¬ v.toInt64 ≤ 536870912)) ∨ (kUnits v = 1 ∧ ¬ v < 0 ∧ v.toInt64 ≤ 536870912 ∧ 0 ≤ v.toInt ∧ v.toInt ≤ 536870912) := by
  have e1 : (536870912 : Int64).toInt = 536870912 := rfl
  have e2 : (536870912 : Int32).toInt = 536870912 := rfl
  have e3 : v.toInt64.toInt = v.toInt := Int32.toInt_toInt64 v
  unfold kUnits
  by_cases h1 : v < 0
  · rw [if_pos h1]; exact Or.inl ⟨rfl, Or.inl h1⟩
  · rw [if_neg h1]
    have h0 := sq_lo1 h1
    by_cases h2 : 536870912 < v
    · rw [if_pos h2]
      rw [Int32.lt_iff_toInt_lt] at h2
      exact Or.inl ⟨rfl, Or.inr (by rw [Int64.le_iff_toInt_le]; omega)⟩
    · rw [if_neg h2]
      rw [Int32.lt_iff_toInt_lt] at h2
      exact Or.inr ⟨rfl, h1, by rw [Int64.le_iff_toInt_le]; omega, h0, by omega⟩
theorem RLn.upd {f : Nat → Int32} {k : Nat} {v : Int32} (h : RLn f) (hv : 0 ≤ v.toInt ∧ v.toInt ≤ 536870912) : RLn (upd f k v) := by
  intro j
  by_cases hq : j = k
  · subst hq; rw [upd_same]; exact hv
  · rw [upd_ne hq]; exact h j
theorem length_rd {d : PT} {md : MD} (h : RD d md) (a b : Int32) : ptGiveOk a b = mLenOk a b ∧ RD (ptGive a b d) (mLen a b md) := by
  have hok : ptGiveOk a b = mLenOk a b ∧ (mLenOk a b = 0 ∨ (0 ≤ b.toInt ∧ b.toInt ≤ 536870912)) := by
    have e7 : (7 : Int32).toInt = 7 := rfl
    have e8 : (8 : Int32).toInt = 8 := rfl
    unfold ptGiveOk mLenOk
    by_cases q1 : a < 0
    · rw [if_pos q1, if_pos q1]; exact ⟨rfl, Or.inl rfl⟩
    · rw [if_neg q1, if_neg q1]
      by_cases q2 : 7 < a
      · rw [if_pos q2, if_pos (by rw [Int32.lt_iff_toInt_lt] at q2; rw [Int32.le_iff_toInt_le]; omega)]; exact ⟨rfl, Or.inl rfl⟩
      · rw [if_neg q2, if_neg (by rw [Int32.lt_iff_toInt_lt] at q2; rw [Int32.le_iff_toInt_le]; omega)]
        rcases units_eq b with ⟨u1, u2⟩ | ⟨u1, u2, u3, u4, u5⟩
        · rw [if_pos u1]
          by_cases q3 : b < 0
          · rw [if_pos q3]; exact ⟨rfl, Or.inl rfl⟩
          · rw [if_neg q3, if_neg (u2.resolve_left q3)]; exact ⟨rfl, Or.inl rfl⟩
        · rw [if_neg (by rw [u1]; decide), if_neg u2, if_pos u3]; exact ⟨rfl, Or.inr ⟨u4, u5⟩⟩
  refine ⟨hok.1, ?_⟩
  unfold ptGive mLen
  rw [hok.1]
  by_cases hq : mLenOk a b = 0
  · rw [if_pos hq, if_pos hq]; exact h
  · rw [if_neg hq, if_neg hq]
    have hb := hok.2.resolve_left hq
    obtain ⟨d1, d2, d3, d4, d5, d6, d7, d8, d9, d10⟩ := h
    refine ⟨by show upd d.1 _ _ = upd md.1 _ _; rw [d1], d2, d3, d4, d5, d6.upd hb, d7, d8, fun hp k => ?_, d10⟩
    obtain ⟨⟨s1, s2, s3⟩, s4⟩ := d9 hp k
    obtain ⟨m1, m2⟩ := md
    have c := start_congr (a := m1) (a' := upd m1 a.toNatClampNeg b) (e := m2) 17 (mRest (m1, m2)) (mK0 (m1, m2) k)
    refine ⟨⟨s1, s2, c.2.mp s3⟩, ?_⟩
    rw [← s4]
    have e1 : mStart0 (upd m1 a.toNatClampNeg b, m2) k = mStart0 (m1, m2) k := c.1.symm
    show ((mStart0 (upd m1 a.toNatClampNeg b, m2) k).2.1, (mStart0 (upd m1 a.toNatClampNeg b, m2) k).2.2.1, (mStart0 (upd m1 a.toNatClampNeg b, m2) k).2.2.2.1 - (mStart0 (upd m1 a.toNatClampNeg b, m2) k).1, (mStart0 (upd m1 a.toNatClampNeg b, m2) k).2.2.2.2.1, (mStart0 (upd m1 a.toNatClampNeg b, m2) k).2.2.2.2.2) = _
    rw [e1]
    rfl
theorem pf_congr {f g : Nat → Int} {M : Nat} (hM : 0 < M) (h : ∀ i, i < M → f i = g i) : ∀ i, pf f M i = pf g M i
  | 0 => rfl
  | i + 1 => by
    show pf f M i + f (i % M) = pf g M i + g (i % M)
    rw [pf_congr hM h i, h (i % M) (Nat.mod_lt i hM)]
theorem copy_at {f : Nat → Int32} {m : Int32} {M : Nat} (hm : m.toInt = (M : Int)) : ∀ (n K : Nat) (k : Int32) (g : Nat → Int32), k.toInt = (K : Int) → K ≤ M → M < K + n → M ≤ 8 → (∀ j, j < K → g j = f j) → ∀ j, j < M → ptCopy f m n k g j = f j
  | 0, K, k, g => fun hk h1 h2 => by omega
  | n + 1, K, k, g => fun hk h1 h2 h3 h4 j hj => by
    have hcl : k.toNatClampNeg = K := rl_cl hk
    unfold ptCopy
    rw [hcl]
    split
    · next hc =>
      rw [Int32.le_iff_toInt_le] at hc
      exact h4 j (by omega)
    · next hc =>
      rw [Int32.le_iff_toInt_le] at hc
      refine copy_at hm n (K + 1) (k + 1) _ (by rw [sq_succ (by omega) (by omega)]; omega) (by omega) (by omega) h3 (fun i hi => ?_) j hj
      by_cases hq : i = K
      · subst hq; rw [upd_same]
      · rw [upd_ne hq]; exact h4 i (by omega)
theorem copy_ln {f : Nat → Int32} {m : Int32} (hf : RLn f) : ∀ (n : Nat) (k : Int32) (g : Nat → Int32), RLn g → RLn (ptCopy f m n k g)
  | 0, k, g => fun h => h
  | n + 1, k, g => fun h => by
    unfold ptCopy
    split
    · exact h
    · exact copy_ln hf n (k + 1) _ (h.upd (hf _))
/-- the reference passes the offset dash by dash -/
theorem st_loop {md : MD} {M : Nat} {R : Int} (hM : md.2.2.1.toInt = (M : Int)) (hM1 : 1 ≤ M) (hM8 : M ≤ 8) (hf : RLn md.2.1) (hR : R < pf (fun i => (md.2.1 i).toInt) M (2 * M)) : ∀ (n Q : Nat) (z : Int64) (k : MK), k.2.1.toInt = ((Q % M : Nat) : Int) → k.2.2.2.1 = (if Q % 2 = 0 then 0 else 1) → k.2.2.1 = (md.2.1 (Q % M)).toInt64 → 0 ≤ z.toInt → pf (fun i => (md.2.1 i).toInt) M Q + z.toInt = R → Q < 2 * M → 2 * M < Q + n →
    mStartP md n z k ∧ ∃ Q' : Nat, (mStartL md n z k).2.2.1.toInt = ((Q' % M : Nat) : Int) ∧ (mStartL md n z k).2.2.2.2.1 = (if Q' % 2 = 0 then 0 else 1) ∧ (mStartL md n z k).2.2.2.1 = (md.2.1 (Q' % M)).toInt64 ∧ 0 ≤ (mStartL md n z k).1.toInt ∧ pf (fun i => (md.2.1 i).toInt) M Q' + (mStartL md n z k).1.toInt = R ∧ (mStartL md n z k).1.toInt < (md.2.1 (Q' % M)).toInt ∧ (mStartL md n z k).2.1 = k.1 ∧ (mStartL md n z k).2.2.2.2.2 = k.2.2.2.2
  | 0, Q, z, k => fun h1 h2 h3 h4 h5 h6 h7 => by omega
  | n + 1, Q, z, k => fun h1 h2 h3 h4 h5 h6 h7 => by
    have hl : k.2.2.1.toInt = (md.2.1 (Q % M)).toInt := by rw [h3]; exact jn_ext _
    have hmod : Q % M < M := Nat.mod_lt Q (by omega)
    by_cases hc : z < k.2.2.1
    · have e1 : mStartL md (n + 1) z k = (z, k) := by
        unfold mStartL
        rw [if_pos hc]
      rw [e1]
      rw [Int64.lt_iff_toInt_lt, hl] at hc
      exact ⟨Or.inl (by rw [Int64.lt_iff_toInt_lt, hl]; exact hc), Q, h1, h2, h3, h4, h5, hc, rfl, rfl⟩
    · have e1 : mStartL md (n + 1) z k = mStartL md n (z - k.2.2.1) (mNext md k) := by
        show (if z < k.2.2.1 then _ else _) = _
        rw [if_neg hc]
      have hc2 := hc
      rw [Int64.lt_iff_toInt_lt, hl] at hc2
      have hfq := hf (Q % M)
      have hp : pf (fun i => (md.2.1 i).toInt) M (Q + 1) = pf (fun i => (md.2.1 i).toInt) M Q + (md.2.1 (Q % M)).toInt := rfl
      have hQ1 : Q + 1 < 2 * M := by
        by_cases hq : Q + 1 = 2 * M
        · exfalso
          rw [← hq] at hR
          omega
        · omega
      have hmod1 : (Q + 1) % M = if Q % M + 1 = M then 0 else Q % M + 1 := by
        rw [Nat.add_mod]
        by_cases h1M : M = 1
        · subst h1M
          have : Q % 1 = 0 := Nat.mod_one Q
          rw [this]
          rfl
        · rw [Nat.mod_eq_of_lt (show 1 < M by omega)]
          split
          · next e => rw [e]; exact Nat.mod_self M
          · next e => exact Nat.mod_eq_of_lt (by omega)
      have hD : (mNextD md k).toInt = (((Q + 1) % M : Nat) : Int) := by
        unfold mNextD
        have e2 : (k.2.1 + 1).toInt = ((Q % M : Nat) : Int) + 1 := by rw [sq_succ (by omega) (by omega), h1]
        rw [hmod1]
        by_cases hq : Q % M + 1 = M
        · rw [if_pos hq, if_pos (Int32.toInt_inj.mp (by omega))]
          rfl
        · rw [if_neg hq, if_neg (fun e => hq (by rw [e] at e2; omega)), e2]
          omega
      have hlt1 : (Q + 1) % M < M := Nat.mod_lt _ (by omega)
      have hzs : (z - k.2.2.1).toInt = z.toInt - (md.2.1 (Q % M)).toInt := by
        have := Int64.toInt_lt z
        rw [jn_sub (by omega) (by omega), hl]
      have hgap : (mNext md k).2.2.2.1 = (if (Q + 1) % 2 = 0 then 0 else 1) := by
        show (if k.2.2.2.1 = 0 then (1 : Int32) else 0) = _
        rw [h2]
        by_cases hq : Q % 2 = 0
        · rw [if_pos hq, if_pos rfl, if_neg (by omega)]
        · rw [if_neg hq, if_neg (by decide), if_pos (by omega)]
      have hleft : (mNext md k).2.2.1 = (md.2.1 ((Q + 1) % M)).toInt64 := by
        show (md.2.1 (mNextD md k).toNatClampNeg).toInt64 = _
        rw [rl_cl hD]
      obtain ⟨k1, Q', k2⟩ := st_loop hM hM1 hM8 hf hR n (Q + 1) (z - k.2.2.1) (mNext md k) hD hgap hleft (by omega) (by omega) hQ1 (by omega)
      rw [e1]
      exact ⟨Or.inr ⟨sq_in (by omega) (by omega), k1⟩, Q', k2⟩
theorem odd_bit (x : Int64) : (x &&& 1 = 1) ↔ x.toInt % 2 = 1 := by
  have h1 : (x &&& 1 = 1) ↔ (x.toBitVec &&& 1#64) = 1#64 := by
    constructor
    · intro h
      exact congrArg Int64.toBitVec h
    · intro h
      exact Int64.toBitVec_inj.mp h
  rw [h1]
  have h2 : ((x.toBitVec &&& 1#64) = 1#64) ↔ x.toBitVec.toNat % 2 = 1 := by
    rw [← BitVec.toNat_inj, BitVec.toNat_and]
    have e : (1#64).toNat = 1 := rfl
    rw [e, Nat.and_one_is_mod]
  rw [h2]
  have h3 : x.toInt = x.toBitVec.toInt := rfl
  rw [h3, BitVec.toInt_eq_toNat_cond]
  have h4 := x.toBitVec.isLt
  split <;> omega
