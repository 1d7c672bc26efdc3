/-! a piece is made alike on both sides -/
theorem rl_cl {x : Int32} {n : Nat} (h : x.toInt = (n : Int)) : x.toNatClampNeg = n := by
  show x.toInt.toNat = n
  omega
theorem rl_far (v : Int64) : (kPlace v = 0 ∧ ¬ mFar v = 0) ∨ (kPlace v = 1 ∧ mFar v = 0) := by
  unfold kPlace mFar
  by_cases h1 : v < -536870912
  · rw [if_pos h1, if_pos h1]; exact Or.inl ⟨rfl, by decide⟩
  · rw [if_neg h1, if_neg h1]
    by_cases h2 : v ≤ 536870912
    · rw [if_pos h2, if_neg (Int64.not_lt.mpr h2)]; exact Or.inr ⟨rfl, rfl⟩
    · rw [if_neg h2, if_pos (Int64.not_le.mp h2)]; exact Or.inl ⟨rfl, by decide⟩
/-- the numbers of sorts stay themselves in a byte -/
def kd4 (k : Int32) : Prop := k = 0 ∨ k = 1 ∨ k = 2 ∨ k = 3
theorem rl_byte {k : Int32} (h : kd4 k) : vp_nar .byte (k.toInt8.toInt32) = k := by
  rcases h with h | h | h | h <;> subst h <;> rfl
theorem upd_same (f : Nat → Int32) (k : Nat) (x : Int32) : upd f k x k = x := if_pos rfl
theorem upd_ne {f : Nat → Int32} {k j : Nat} {x : Int32} (h : j ≠ k) : upd f k x j = f j := if_neg h
theorem upd2_eq {f g : Nat → Int32} {a b m : Nat} {x y : Int32} (h : m ≠ a → m ≠ b → f m = g m) : upd (upd f a x) b y m = upd (upd g a x) b y m := by
  unfold upd
  by_cases h1 : m = b
  · rw [if_pos h1, if_pos h1]
  · rw [if_neg h1, if_neg h1]
    by_cases h2 : m = a
    · rw [if_pos h2, if_pos h2]
    · rw [if_neg h2, if_neg h2]
      exact h h2 h1
theorem psAdd_dead {x y : Int64} {P : PS} (h : ¬ P.2.2.2.2 = 0) : psAdd x y P = P := by
  unfold psAdd
  rw [if_neg h]
/-- within a piece: j corners are there -/
def RM (j : Nat) (kd : Int32) (P : PS) (S : MS) : Prop :=
  P.2.2.2.2 = S.2.2.2 ∧ msIn S ∧ (S.2.2.2 = 0 → P.2.2.1 = S.2.2.1 + 1 ∧ P.2.2.2.1.toInt = (j : Int) ∧ RC S.2.2.1.toNatClampNeg P.1 P.2.1 S.1 S.2.1 ∧ P.1 S.2.2.1.toNatClampNeg = kd ∧ S.1 S.2.2.1.toNatClampNeg = kd ∧ ∀ q, q < 2 * j → P.2.1 (8 * S.2.2.1.toNatClampNeg + q) = S.2.1 (8 * S.2.2.1.toNatClampNeg + q))
theorem rl_beg {S : MS} (h : ¬ mBegR S = 0) : S.2.2.2 = 0 ∧ ¬ S.2.2.1 = 2000 ∧ mBegT S = S := by
  unfold mBegR at h
  split at h
  · next hc =>
    unfold mBegT at hc ⊢
    split at hc
    · next h0 =>
      split at hc
      · exact absurd hc (show ¬ ((-3 : Int32) = 0) by decide)
      · next h1 =>
        rw [if_pos h0, if_neg h1]
        exact ⟨h0, h1, rfl⟩
    · next h0 => exact absurd hc h0
  · exact absurd rfl h
theorem rm_start {P : PS} {S : MS} {kd : Int32} (h : RI P S) (hk : kd4 kd) (hb : ¬ mBegR S = 0) : RM 0 kd (psStart kd P) (mBeg kd S) := by
  obtain ⟨h0, h1, h2⟩ := rl_beg hb
  obtain ⟨g1, g2, g3⟩ := h
  obtain ⟨g4, g5⟩ := g3 h0
  have hP0 : P.2.2.2.2 = 0 := g1.trans h0
  have hin := mBeg_in (k := kd) g2 hb
  obtain ⟨n, hn⟩ : ∃ n : Nat, S.2.2.1.toInt = (n : Int) := ⟨S.2.2.1.toInt.toNat, by have := g2.1; omega⟩
  have hcl := rl_cl hn
  have hn2 : n < 2000 := by
    have h5 := sq_ne h1
    have h6 : (2000 : Int32).toInt = 2000 := rfl
    have h7 := g2.2
    omega
  have e1 : mBeg kd S = (upd S.1 n kd, S.2.1, S.2.2.1, S.2.2.2) := by
    unfold mBeg
    rw [h2, if_pos h0, rl_byte hk, hcl]
  have e2 : psStart kd P = (upd P.1 n kd, P.2.1, S.2.2.1 + 1, 0, P.2.2.2.2) := by
    unfold psStart
    rw [if_pos hP0, g4, if_neg (by rw [Int32.lt_iff_toInt_lt]; have : (0 : Int32).toInt = 0 := rfl; omega), if_pos (by rw [Int32.lt_iff_toInt_lt]; have : (2000 : Int32).toInt = 2000 := rfl; omega), hcl]
  refine ⟨by rw [e1, e2]; exact g1, hin, ?_⟩
  rw [e1, e2]
  intro _
  refine ⟨rfl, (by decide : (0 : Int32).toInt = ((0 : Nat) : Int)), ?_, ?_, ?_, ?_⟩
  · show RC S.2.2.1.toNatClampNeg (upd P.1 n kd) P.2.1 (upd S.1 n kd) S.2.1
    rw [hcl] at g5 ⊢
    intro i hi
    rw [upd_ne (Nat.ne_of_lt hi), upd_ne (Nat.ne_of_lt hi)]
    exact g5 i hi
  · show upd P.1 n kd S.2.2.1.toNatClampNeg = kd
    rw [hcl]; exact upd_same _ _ _
  · show upd S.1 n kd S.2.2.1.toNatClampNeg = kd
    rw [hcl]; exact upd_same _ _ _
  · intro q hq
    omega
theorem rm_dead {P : PS} {S : MS} {kd : Int32} (h : RI P S) (hb : mBegR S = 0) : RI (psStart kd P) (mBeg kd S) ∧ ¬ (psStart kd P).2.2.2.2 = 0 := by
  obtain ⟨g1, g2, g3⟩ := h
  have hT : ¬ (mBegT S).2.2.2 = 0 := by
    intro hc
    unfold mBegR at hb
    rw [if_pos hc] at hb
    exact absurd hb (by decide)
  have e1 : mBeg kd S = mBegT S := by
    unfold mBeg
    rw [if_neg hT]
  have hok := mBeg_ok (k := kd) g2
  rw [e1] at hok ⊢
  by_cases h0 : S.2.2.2 = 0
  · have hP0 : P.2.2.2.2 = 0 := g1.trans h0
    have h1 : S.2.2.1 = 2000 := by
      by_cases h1 : S.2.2.1 = 2000
      · exact h1
      · exfalso
        apply hT
        unfold mBegT
        rw [if_pos h0, if_neg h1]
        exact h0
    have e2 : mBegT S = (S.1, S.2.1, S.2.2.1, (-3)) := by
      unfold mBegT
      rw [if_pos h0, if_pos h1]
    have e3 : psStart kd P = (P.1, P.2.1, P.2.2.1, P.2.2.2.1, (-3)) := by
      unfold psStart
      rw [if_pos hP0, (g3 h0).1, h1, if_neg (by decide), if_neg (by decide)]
      unfold psStop
      rw [if_pos hP0, (g3 h0).1, h1]
    rw [e2] at hok
    rw [e2, e3]
    exact ⟨⟨rfl, hok, fun hc => absurd hc (show ¬ ((-3 : Int32) = 0) by decide)⟩, (show ¬ ((-3 : Int32) = 0) by decide)⟩
  · have hP0 : ¬ P.2.2.2.2 = 0 := fun e => h0 (g1.symm.trans e)
    have e2 : mBegT S = S := by
      unfold mBegT
      rw [if_neg h0]
    have e3 : psStart kd P = P := by
      unfold psStart
      rw [if_neg hP0]
    rw [e2, e3]
    exact ⟨⟨g1, g2, g3⟩, hP0⟩
theorem rm_add {j : Nat} {kd K : Int32} {x y : Int64} {P : PS} {S : MS} (h : RM j kd P S) (hj : j < 4) (hK : K.toInt = (j : Int)) : RM (j + 1) kd (psAdd x y P) (mCorner K x y S) := by
  have hin := h.2.1.corner (k := K) (x := x) (y := y)
  obtain ⟨g1, g2, g3⟩ := h
  by_cases h0 : S.2.2.2 = 0
  · have hP0 : P.2.2.2.2 = 0 := g1.trans h0
    obtain ⟨a1, a2, a3, a4, a5, a6⟩ := g3 h0
    have far : (mFar x = 0 → ¬ mFar y = 0) → psAdd x y P = (P.1, P.2.1, P.2.2.1, P.2.2.2.1, (-4)) ∧ mCorner K x y S = (S.1, S.2.1, S.2.2.1, (-4)) := by
      intro hf
      have e1 : mCorT x y S = (S.1, S.2.1, S.2.2.1, (-4)) := by
        unfold mCorT
        by_cases hx : mFar x = 0
        · rw [if_pos hx, if_neg (hf hx), if_pos h0]
        · rw [if_neg hx, if_pos h0]
      refine ⟨?_, ?_⟩
      · unfold psAdd
        rw [if_pos hP0]
        rcases rl_far x with ⟨q1, q2⟩ | ⟨q1, q2⟩
        · rw [if_pos q1]; unfold psStop; rw [if_pos hP0]
        · rw [if_neg (by rw [q1]; decide)]
          rcases rl_far y with ⟨q3, q4⟩ | ⟨q3, q4⟩
          · rw [if_pos q3]; unfold psStop; rw [if_pos hP0]
          · exact absurd q4 (hf q2)
      · unfold mCorner
        rw [e1, if_neg (show ¬ ((-4 : Int32) = 0) by decide)]
    by_cases hx : mFar x = 0
    · by_cases hy : mFar y = 0
      · obtain ⟨n, hn⟩ : ∃ n : Nat, S.2.2.1.toInt = (n : Int) := ⟨S.2.2.1.toInt.toNat, by have := g2.1; omega⟩
        have hcl := rl_cl hn
        have hn2 : n < 2000 := by have := g2.2; omega
        rw [hcl] at a3 a4 a5 a6
        have e1 : mCorT x y S = S := by
          unfold mCorT
          rw [if_pos hx, if_pos hy]
        have i1 : (8 * S.2.2.1 + 2 * K).toNatClampNeg = 8 * n + 2 * j := by
          have h5 := ms_at (k := K) (n := S.2.2.1) ⟨by omega, by omega⟩ g2
          exact rl_cl (by omega)
        have i2 : (8 * S.2.2.1 + 2 * K + 1).toNatClampNeg = 8 * n + 2 * j + 1 := by
          have h5 := ms_at (k := K) (n := S.2.2.1) ⟨by omega, by omega⟩ g2
          exact rl_cl (by rw [sq_succ (by omega) (by omega)]; omega)
        have hat : (psAt P).toInt = ((8 * n + 2 * j : Nat) : Int) := by
          unfold psAt
          have h8 : (8 : Int32).toInt = 8 := rfl
          have h2 : (2 : Int32).toInt = 2 := rfl
          have hp : (P.2.2.1 - 1).toInt = (n : Int) := by
            rw [a1, sq_pred (by rw [sq_succ (by omega) (by omega)]; omega), sq_succ (by omega) (by omega)]
            omega
          have e3 : (2 : Nat) ^ 32 = 4294967296 := rfl
          rw [Int32.toInt_add, Int32.toInt_mul, Int32.toInt_mul, h8, h2, hp, a2, e3, Int.bmod_def, Int.bmod_def, Int.bmod_def]
          split <;> split <;> split <;> omega
        have hat1 : (psAt P + 1).toInt = ((8 * n + 2 * j + 1 : Nat) : Int) := by
          rw [sq_succ (by omega) (by omega)]
          omega
        have e2 : psAdd x y P = (P.1, upd (upd P.2.1 (8 * n + 2 * j) x.toInt32) (8 * n + 2 * j + 1) y.toInt32, P.2.2.1, P.2.2.2.1 + 1, P.2.2.2.2) := by
          unfold psAdd
          rcases rl_far x with ⟨q1, q2⟩ | ⟨q1, q2⟩
          · exact absurd hx q2
          · rcases rl_far y with ⟨q3, q4⟩ | ⟨q3, q4⟩
            · exact absurd hy q4
            · have z0 : (0 : Int32).toInt = 0 := rfl
              have z1 : (16000 : Int32).toInt = 16000 := rfl
              have z2 : (4 : Int32).toInt = 4 := rfl
              rw [if_pos hP0, if_neg (by rw [q1]; decide), if_neg (by rw [q3]; decide), if_neg (by rw [Int32.lt_iff_toInt_lt]; omega), if_neg (by rw [Int32.le_iff_toInt_le]; omega), if_pos (by rw [Int32.lt_iff_toInt_lt]; omega), rl_cl hat, rl_cl hat1]
        have e4 : mCorner K x y S = (S.1, upd (upd S.2.1 (8 * n + 2 * j) x.toInt32) (8 * n + 2 * j + 1) y.toInt32, S.2.2.1, S.2.2.2) := by
          unfold mCorner
          rw [e1, if_pos h0, i1, i2]
        rw [e4] at hin
        rw [e2, e4]
        refine ⟨g1, hin, fun _ => ⟨a1, ?_, ?_, ?_, ?_, ?_⟩⟩
        · show (P.2.2.2.1 + 1).toInt = ((j + 1 : Nat) : Int)
          rw [sq_succ (by omega) (by omega)]
          omega
        · show RC S.2.2.1.toNatClampNeg P.1 (upd (upd P.2.1 (8 * n + 2 * j) x.toInt32) (8 * n + 2 * j + 1) y.toInt32) S.1 (upd (upd S.2.1 (8 * n + 2 * j) x.toInt32) (8 * n + 2 * j + 1) y.toInt32)
          rw [hcl]
          intro i hi
          obtain ⟨b1, b2, b3⟩ := a3 i hi
          refine ⟨b1, b2, fun q hq => ?_⟩
          exact upd2_eq (fun _ _ => b3 q hq)
        · show P.1 S.2.2.1.toNatClampNeg = kd
          rw [hcl]; exact a4
        · show S.1 S.2.2.1.toNatClampNeg = kd
          rw [hcl]; exact a5
        · show ∀ q, q < 2 * (j + 1) → upd (upd P.2.1 (8 * n + 2 * j) x.toInt32) (8 * n + 2 * j + 1) y.toInt32 (8 * S.2.2.1.toNatClampNeg + q) = upd (upd S.2.1 (8 * n + 2 * j) x.toInt32) (8 * n + 2 * j + 1) y.toInt32 (8 * S.2.2.1.toNatClampNeg + q)
          rw [hcl]
          intro q hq
          exact upd2_eq (fun h1 h2 => a6 q (by omega))
      · obtain ⟨e1, e2⟩ := far (fun _ => hy)
        rw [e2] at hin
        rw [e1, e2]
        exact ⟨rfl, hin, fun hc => absurd hc (show ¬ ((-4 : Int32) = 0) by decide)⟩
    · obtain ⟨e1, e2⟩ := far (fun hc => absurd hc hx)
      rw [e2] at hin
      rw [e1, e2]
      exact ⟨rfl, hin, fun hc => absurd hc (show ¬ ((-4 : Int32) = 0) by decide)⟩
  · have hP0 : ¬ P.2.2.2.2 = 0 := fun e => h0 (g1.symm.trans e)
    have e1 : mCorT x y S = S := by
      unfold mCorT
      rw [if_neg h0]
      split
      · split <;> rfl
      · rfl
    have e2 : mCorner K x y S = S := by
      unfold mCorner
      rw [e1, if_neg h0]
    rw [psAdd_dead hP0, e2]
    exact ⟨g1, g2, fun hc => absurd hc h0⟩
theorem rm_end {j : Nat} {kd : Int32} {P : PS} {S : MS} (h : RM j kd P S) (hk : kd4 kd) (hj : j = 4 ∨ (j = 3 ∧ kd = 1)) : RI P (mEnd S) := by
  have hok := h.2.1.fin
  obtain ⟨g1, g2, g3⟩ := h
  refine ⟨g1, hok, fun h0 => ?_⟩
  have h0 : S.2.2.2 = 0 := h0
  obtain ⟨a1, a2, a3, a4, a5, a6⟩ := g3 h0
  have e1 : (mEnd S).2.2.1 = S.2.2.1 + 1 := by
    unfold mEnd
    show S.2.2.1 + (if S.2.2.2 = 0 then 1 else 0) = S.2.2.1 + 1
    rw [if_pos h0]
  obtain ⟨n, hn⟩ : ∃ n : Nat, S.2.2.1.toInt = (n : Int) := ⟨S.2.2.1.toInt.toNat, by have := g2.1; omega⟩
  have hcl := rl_cl hn
  have hcl2 : (S.2.2.1 + 1).toNatClampNeg = n + 1 := by
    have := g2.2
    exact rl_cl (by rw [sq_succ (by omega) (by omega)]; omega)
  rw [hcl] at a3 a4 a5 a6
  refine ⟨a1.trans e1.symm, ?_⟩
  show RC (mEnd S).2.2.1.toNatClampNeg P.1 P.2.1 S.1 S.2.1
  rw [e1, hcl2]
  intro i hi
  by_cases hin : i < n
  · exact a3 i hin
  · have e : i = n := by omega
    subst e
    refine ⟨a4.trans a5.symm, by rw [a4]; exact hk, fun q hq => a6 q ?_⟩
    rw [a4] at hq
    rcases hj with rfl | ⟨rfl, rfl⟩
    · split at hq <;> omega
    · rw [if_pos rfl] at hq; omega
theorem ri_four {kd : Int32} {x0 y0 x1 y1 x2 y2 x3 y3 : Int64} {P : PS} {S : MS} (h : RI P S) (hk : kd4 kd) :
    RI (psAdd x3 y3 (psAdd x2 y2 (psAdd x1 y1 (psAdd x0 y0 (psStart kd P))))) (if mBegR S = 0 then mBeg kd S else mEnd (mCorner 3 x3 y3 (mCorner 2 x2 y2 (mCorner 1 x1 y1 (mCorner 0 x0 y0 (mBeg kd S)))))) := by
  split
  · next hb =>
    obtain ⟨h1, h2⟩ := rm_dead (kd := kd) h hb
    rw [psAdd_dead h2, psAdd_dead h2, psAdd_dead h2, psAdd_dead h2]
    exact h1
  · next hb => exact rm_end (rm_add (rm_add (rm_add (rm_add (rm_start h hk hb) (by decide) (by decide)) (by decide) (by decide)) (by decide) (by decide)) (by decide) (by decide)) hk (Or.inl rfl)
theorem ri_three {x0 y0 x1 y1 x2 y2 : Int64} {P : PS} {S : MS} (h : RI P S) :
    RI (psAdd x2 y2 (psAdd x1 y1 (psAdd x0 y0 (psStart 1 P)))) (if mBegR S = 0 then mBeg 1 S else mEnd (mCorner 2 x2 y2 (mCorner 1 x1 y1 (mCorner 0 x0 y0 (mBeg 1 S))))) := by
  have hk : kd4 1 := Or.inr (Or.inl rfl)
  split
  · next hb =>
    obtain ⟨h1, h2⟩ := rm_dead (kd := 1) h hb
    rw [psAdd_dead h2, psAdd_dead h2, psAdd_dead h2]
    exact h1
  · next hb => exact rm_end (rm_add (rm_add (rm_add (rm_start h hk hb) (by decide) (by decide)) (by decide) (by decide)) (by decide) (by decide)) hk (Or.inr ⟨rfl, rfl⟩)
