/-! the walk of the law's body -/
def lwI (i : Int32) (n : Nat) : Prop := 0 ≤ i.toInt ∧ i.toInt ≤ 2565 ∧ 2565 < i.toInt + 5 * (n : Int)
theorem lwI.zero {i : Int32} (h : lwI i 0) : False := by
  obtain ⟨h1, h2, h3⟩ := h
  omega
theorem lw_len {L : Nat} (hL : L ≤ 2560) : (Int32.ofNat L - 5).toInt = (L : Int) - 5 := by
  have h1 : (Int32.ofNat L).toInt = (L : Int) := Int32.toInt_ofNat_of_lt (by omega)
  have h2 : (5 : Int32).toInt = 5 := rfl
  rw [Int32.toInt_sub, h1, h2, Int.bmod_def]
  split <;> omega
theorem lw_add {i : Int32} (k : Int32) (h : 0 ≤ i.toInt ∧ i.toInt ≤ 2565) (hk : 0 ≤ k.toInt ∧ k.toInt ≤ 5) : (i + k).toInt = i.toInt + k.toInt := by
  rw [Int32.toInt_add, Int.bmod_def]
  split <;> omega
theorem lwI.next {i : Int32} {n L : Nat} (h : lwI i (n + 1)) (hc : ¬ Int32.ofNat L - 5 < i) (hL : L ≤ 2560) : lwI (i + 5) n := by
  obtain ⟨h1, h2, h3⟩ := h
  rw [Int32.lt_iff_toInt_lt, lw_len hL] at hc
  have h5 : (5 : Int32).toInt = 5 := rfl
  unfold lwI
  rw [lw_add 5 ⟨h1, h2⟩ ⟨by decide, by decide⟩]
  omega
theorem lw_ix0 {i : Int32} {n L : Nat} (h : lwI i n) (hc : ¬ Int32.ofNat L - 5 < i) (hL : L ≤ 2560) : vp_in i L := by
  obtain ⟨h1, h2, h3⟩ := h
  rw [Int32.lt_iff_toInt_lt, lw_len hL] at hc
  exact sq_in h1 (by omega)
theorem lw_ix1 {i : Int32} {n L : Nat} (h : lwI i n) (hc : ¬ Int32.ofNat L - 5 < i) (hL : L ≤ 2560) : vp_in (i + 1) L := by
  obtain ⟨h1, h2, h3⟩ := h
  rw [Int32.lt_iff_toInt_lt, lw_len hL] at hc
  have h5 : (1 : Int32).toInt = 1 := rfl
  refine sq_in ?_ ?_ <;> rw [lw_add 1 ⟨h1, h2⟩ ⟨by decide, by decide⟩] <;> omega
theorem lw_ix2 {i : Int32} {n L : Nat} (h : lwI i n) (hc : ¬ Int32.ofNat L - 5 < i) (hL : L ≤ 2560) : vp_in (i + 2) L := by
  obtain ⟨h1, h2, h3⟩ := h
  rw [Int32.lt_iff_toInt_lt, lw_len hL] at hc
  have h5 : (2 : Int32).toInt = 2 := rfl
  refine sq_in ?_ ?_ <;> rw [lw_add 2 ⟨h1, h2⟩ ⟨by decide, by decide⟩] <;> omega
theorem lw_ix3 {i : Int32} {n L : Nat} (h : lwI i n) (hc : ¬ Int32.ofNat L - 5 < i) (hL : L ≤ 2560) : vp_in (i + 3) L := by
  obtain ⟨h1, h2, h3⟩ := h
  rw [Int32.lt_iff_toInt_lt, lw_len hL] at hc
  have h5 : (3 : Int32).toInt = 3 := rfl
  refine sq_in ?_ ?_ <;> rw [lw_add 3 ⟨h1, h2⟩ ⟨by decide, by decide⟩] <;> omega
theorem lw_ix4 {i : Int32} {n L : Nat} (h : lwI i n) (hc : ¬ Int32.ofNat L - 5 < i) (hL : L ≤ 2560) : vp_in (i + 4) L := by
  obtain ⟨h1, h2, h3⟩ := h
  rw [Int32.lt_iff_toInt_lt, lw_len hL] at hc
  have h5 : (4 : Int32).toInt = 4 := rfl
  refine sq_in ?_ ?_ <;> rw [lw_add 4 ⟨h1, h2⟩ ⟨by decide, by decide⟩] <;> omega
theorem lw_sw {x : Int32} (h0 : ¬ x = 0) (h1 : ¬ x = 1) (h2 : ¬ x = 2) (h3 : ¬ x = 3) (h4 : ¬ x = 4) (h5 : ¬ x = 5) (h6 : ¬ x = 6) (h7 : ¬ x = 7) (h8 : ¬ x = 8) (h9 : ¬ x = 9) (h10 : ¬ x = 10) (h11 : ¬ x = 11) : x.toInt < 0 ∨ 11 < x.toInt := by
  have g0 := sq_ne h0
  have e0 : (0 : Int32).toInt = 0 := rfl
  have g1 := sq_ne h1
  have e1 : (1 : Int32).toInt = 1 := rfl
  have g2 := sq_ne h2
  have e2 : (2 : Int32).toInt = 2 := rfl
  have g3 := sq_ne h3
  have e3 : (3 : Int32).toInt = 3 := rfl
  have g4 := sq_ne h4
  have e4 : (4 : Int32).toInt = 4 := rfl
  have g5 := sq_ne h5
  have e5 : (5 : Int32).toInt = 5 := rfl
  have g6 := sq_ne h6
  have e6 : (6 : Int32).toInt = 6 := rfl
  have g7 := sq_ne h7
  have e7 : (7 : Int32).toInt = 7 := rfl
  have g8 := sq_ne h8
  have e8 : (8 : Int32).toInt = 8 := rfl
  have g9 := sq_ne h9
  have e9 : (9 : Int32).toInt = 9 := rfl
  have g10 := sq_ne h10
  have e10 : (10 : Int32).toInt = 10 := rfl
  have g11 := sq_ne h11
  have e11 : (11 : Int32).toInt = 11 := rfl
  omega
theorem lw_arrI {s : State} {args : Array Value} (h : (Cond.arrayClass .int).before args s = true) : ∃ cA : ClassId, ArrOfT s cA .int ∧ va_RA s cA .int := by
  obtain ⟨cA, kA, comp, h1, h2, h3⟩ := Cond.arrayClass_spec h
  exact ⟨cA, fun n z => ⟨fun k h => (by cases h), kA, h2, comp, h3⟩, h1⟩
theorem lw_arrZ {s : State} {args : Array Value} (h : (Cond.arrayClass .boolean).before args s = true) : ∃ cA : ClassId, ArrOfT s cA .boolean ∧ va_RA s cA .boolean := by
  obtain ⟨cA, kA, comp, h1, h2, h3⟩ := Cond.arrayClass_spec h
  exact ⟨cA, fun n z => ⟨fun k h => (by cases h), kA, h2, comp, h3⟩, h1⟩
theorem lw_arrB {s : State} {args : Array Value} (h : (Cond.arrayClass .byte).before args s = true) : ∃ cA : ClassId, ArrOfT s cA .byte ∧ va_RA s cA .byte := by
  obtain ⟨cA, kA, comp, h1, h2, h3⟩ := Cond.arrayClass_spec h
  exact ⟨cA, fun n z => ⟨fun k h => (by cases h), kA, h2, comp, h3⟩, h1⟩
theorem lw_arrJ {s : State} {args : Array Value} (h : (Cond.arrayClass .long).before args s = true) : ∃ cA : ClassId, ArrOfT s cA .long ∧ va_RA s cA .long := by
  obtain ⟨cA, kA, comp, h1, h2, h3⟩ := Cond.arrayClass_spec h
  exact ⟨cA, fun n z => ⟨fun k h => (by cases h), kA, h2, comp, h3⟩, h1⟩
theorem lw_known {s : State} {args : Array Value} (hts : ∀ w ∈ sq_all, w.before args s = true) : ∃ (D : va_G) (cI cZ cB cJ : ClassId), va_K D vwCl (sq_T cI cZ cB cJ) s := by
  obtain ⟨c0, iS0, hK0⟩ := u_known (C := RX0) (T := TX0) (N := 6) (n := 6) hts inX0 (hts _ k_21)
  obtain ⟨c1, iS1, hK1⟩ := u_known (C := RX1) (T := TX1) (N := 4) (n := 4) hts inX1 (hts _ k_121)
  obtain ⟨c2, iS2, hK2⟩ := u_known (C := RX2) (T := TX2) (N := 6) (n := 6) hts inX2 (hts _ k_74)
  obtain ⟨c3, iS3, hK3⟩ := u_known (C := RX3) (T := TX3) (N := 5) (n := 5) hts inX3 (hts _ k_99)
  obtain ⟨c4, iS4, hK4⟩ := u_known (C := RX4) (T := TX4) (N := 4) (n := 4) hts inX4 (hts _ k_201)
  obtain ⟨c5, iS5, hK5⟩ := u_known (C := RX5) (T := TX5) (N := 11) (n := 11) hts inX5 (hts _ k_127)
  obtain ⟨c6, iS6, hK6⟩ := u_known (C := RX6) (T := TX6) (N := 4) (n := 4) hts inX6 (hts _ k_48)
  obtain ⟨c7, iS7, hK7⟩ := u_known (C := RX7) (T := TX7) (N := 9) (n := 9) hts inX7 (hts _ k_193)
  obtain ⟨c8, iS8, hK8⟩ := u_known (C := RX8) (T := TX8) (N := 7) (n := 7) hts inX8 (hts _ k_13)
  obtain ⟨c9, iS9, hK9⟩ := u_known (C := RX9) (T := TX9) (N := 28) (n := 28) hts inX9 (hts _ k_579)
  obtain ⟨cI, hI⟩ := lw_arrI (hts _ k_45)
  obtain ⟨cZ, hZ⟩ := lw_arrZ (hts _ k_46)
  obtain ⟨cB, hB⟩ := lw_arrB (hts _ k_671)
  obtain ⟨cJ, hJ⟩ := lw_arrJ (hts _ k_672)
  refine ⟨(fun k => if k = 0 then c0 else if k = 1 then c1 else if k = 2 then c2 else if k = 3 then c3 else if k = 4 then c4 else if k = 5 then c5 else if k = 6 then c6 else if k = 7 then c7 else if k = 8 then c8 else c9, fun k => if k = 0 then iS0 else if k = 1 then iS1 else if k = 2 then iS2 else if k = 3 then iS3 else if k = 4 then iS4 else if k = 5 then iS5 else if k = 6 then iS6 else if k = 7 then iS7 else if k = 8 then iS8 else iS9), cI, cZ, cB, cJ, ?_, ?_⟩
  · intro k q hq
    match k, hq with
    | 0, hq => cases hq; exact hK0
    | 1, hq => cases hq; exact hK1
    | 2, hq => cases hq; exact hK2
    | 3, hq => cases hq; exact hK3
    | 4, hq => cases hq; exact hK4
    | 5, hq => cases hq; exact hK5
    | 6, hq => cases hq; exact hK6
    | 7, hq => cases hq; exact hK7
    | 8, hq => cases hq; exact hK8
    | 9, hq => cases hq; exact hK9
    | k + 10, hq => simp [vwCl] at hq
  · intro k q hq
    match k, hq with
    | 0, hq => cases hq; exact hI
    | 1, hq => cases hq; exact hZ
    | 2, hq => cases hq; exact hB
    | 3, hq => cases hq; exact hJ
    | k + 4, hq => simp [sq_T] at hq
