set_option maxHeartbeats 600000 in
set_option maxRecDepth 100000 in
theorem c_X8_isPlace (l : Launch) (D : va_G) (cI cZ cB cJ : ClassId) (sz : Nat) (v : Int64) : sq_Mi l yX8_isPlace wsX8_isPlace { frames := 0, cells := 0, slots := 0, locals := 0 } D (sq_T cI cZ cB cJ) sz [.long v] [] (fun (v9 : Int32) => (fun (_ : Unit) => v9 = kPlace v)) (fun (_ : Unit) => []) 0 0 := by
  refine sq_enterz cX8_isPlace 2 (plainFor_of_name (by decide)) rfl (Nat.le_of_ble_eq_true rfl) ?_
  intro p e s m below meth c ls args A Q hargs hx hb hml hown hts hnm hN hP hK hD hA hS hl hend
  have hl : lv_has ls 2 [(0, .long v)] := hl
  refine lv_lload_n hx hb dX8_isPlace_0 rfl (lv_at hl 0 rfl) ?_
  refine lv_ldc2 hx hb hown (hts _ k_282) dX8_isPlace_1 ?_
  refine sq_llt (tgt := 20) hx hb dX8_isPlace_4 dX8_isPlace_5 (by decide) (fun c_1 => ?_) (fun c_1 => ?_)
  · refine lv_iconst (v := 0) hx hb dX8_isPlace_20 (by decide) ?_
    have hP9 := hP.sub (ws' := []) [] rfl
    have hD9 := hD.sub (ws' := []) [] (by decide) rfl
    exact hend () 0 _ _ _ _ dX8_isPlace_21 hP9 hD9 hS (show 0 = (kPlace v) from by (first | (simp only [kPlace, c_1, ↓reduceIte, eq_self, not_true_eq_false, not_false_eq_true, and_true, true_and, and_false, false_and]; done) | (simp [kPlace, c_1]; done))) rfl
  · refine lv_lload_n hx hb dX8_isPlace_8 rfl (lv_at hl 0 rfl) ?_
    refine lv_ldc2 hx hb hown (hts _ k_283) dX8_isPlace_9 ?_
    refine sq_lgt (tgt := 20) hx hb dX8_isPlace_12 dX8_isPlace_13 (by decide) (fun c_2 => ?_) (fun c_2 => ?_)
    · refine lv_iconst (v := 0) hx hb dX8_isPlace_20 (by decide) ?_
      have hP9 := hP.sub (ws' := []) [] rfl
      have hD9 := hD.sub (ws' := []) [] (by decide) rfl
      exact hend () 0 _ _ _ _ dX8_isPlace_21 hP9 hD9 hS (show 0 = (kPlace v) from by (first | (simp only [kPlace, c_1, c_2, ↓reduceIte, eq_self, not_true_eq_false, not_false_eq_true, and_true, true_and, and_false, false_and]; done) | (simp [kPlace, c_1, c_2]; done))) rfl
    · refine lv_iconst (v := 1) hx hb dX8_isPlace_16 (by decide) ?_
      refine lv_goto (tgt := 21) hx hb dX8_isPlace_17 (by decide) ?_
      have hP9 := hP.sub (ws' := []) [] rfl
      have hD9 := hD.sub (ws' := []) [] (by decide) rfl
      exact hend () 1 _ _ _ _ dX8_isPlace_21 hP9 hD9 hS (show 1 = (kPlace v) from by (first | (simp only [kPlace, c_1, c_2, ↓reduceIte, eq_self, not_true_eq_false, not_false_eq_true, and_true, true_and, and_false, false_and]; done) | (simp [kPlace, c_1, c_2]; done))) rfl

set_option maxHeartbeats 600000 in
set_option maxRecDepth 100000 in
theorem c_X8_isUnits (l : Launch) (D : va_G) (cI cZ cB cJ : ClassId) (sz : Nat) (v : Int32) : sq_Mi l yX8_isUnits wsX8_isUnits { frames := 0, cells := 0, slots := 0, locals := 0 } D (sq_T cI cZ cB cJ) sz [.int v] [] (fun (v9 : Int32) => (fun (_ : Unit) => v9 = kUnits v)) (fun (_ : Unit) => []) 0 0 := by
  refine sq_enterz cX8_isUnits 1 (plainFor_of_name (by decide)) rfl (Nat.le_of_ble_eq_true rfl) ?_
  intro p e s m below meth c ls args A Q hargs hx hb hml hown hts hnm hN hP hK hD hA hS hl hend
  have hl : lv_has ls 1 [(0, .int v)] := hl
  refine lv_iload_n hx hb dX8_isUnits_0 rfl (lv_at hl 0 rfl) ?_
  refine lv_if_lt (tgt := 14) hx hb dX8_isUnits_1 (by decide) (fun c_1 => ?_) (fun c_1 => ?_)
  · refine lv_iconst (v := 0) hx hb dX8_isUnits_14 (by decide) ?_
    have hP9 := hP.sub (ws' := []) [] rfl
    have hD9 := hD.sub (ws' := []) [] (by decide) rfl
    exact hend () 0 _ _ _ _ dX8_isUnits_15 hP9 hD9 hS (show 0 = (kUnits v) from by (first | (simp only [kUnits, c_1, ↓reduceIte, eq_self, not_true_eq_false, not_false_eq_true, and_true, true_and, and_false, false_and]; done) | (simp [kUnits, c_1]; done))) rfl
  · refine lv_iload_n hx hb dX8_isUnits_4 rfl (lv_at hl 0 rfl) ?_
    refine lv_ldc hx hb hown (hts _ k_338) dX8_isUnits_5 ?_
    refine lv_icmp_gt (tgt := 14) hx hb dX8_isUnits_7 (by decide) (fun c_2 => ?_) (fun c_2 => ?_)
    · refine lv_iconst (v := 0) hx hb dX8_isUnits_14 (by decide) ?_
      have hP9 := hP.sub (ws' := []) [] rfl
      have hD9 := hD.sub (ws' := []) [] (by decide) rfl
      exact hend () 0 _ _ _ _ dX8_isUnits_15 hP9 hD9 hS (show 0 = (kUnits v) from by (first | (simp only [kUnits, c_1, c_2, ↓reduceIte, eq_self, not_true_eq_false, not_false_eq_true, and_true, true_and, and_false, false_and]; done) | (simp [kUnits, c_1, c_2]; done))) rfl
    · refine lv_iconst (v := 1) hx hb dX8_isUnits_10 (by decide) ?_
      refine lv_goto (tgt := 15) hx hb dX8_isUnits_11 (by decide) ?_
      have hP9 := hP.sub (ws' := []) [] rfl
      have hD9 := hD.sub (ws' := []) [] (by decide) rfl
      exact hend () 1 _ _ _ _ dX8_isUnits_15 hP9 hD9 hS (show 1 = (kUnits v) from by (first | (simp only [kUnits, c_1, c_2, ↓reduceIte, eq_self, not_true_eq_false, not_false_eq_true, and_true, true_and, and_false, false_and]; done) | (simp [kUnits, c_1, c_2]; done))) rfl

set_option maxHeartbeats 600000 in
set_option maxRecDepth 100000 in
theorem c_J9_floorDiv (l : Launch) (D : va_G) (cI cZ cB cJ : ClassId) (sz : Nat) (x : Int64) (y : Int64) (hy : ¬ y = 0) : sq_Ml l yJ9_floorDiv wsJ9_floorDiv { frames := 0, cells := 0, slots := 0, locals := 0 } D (sq_T cI cZ cB cJ) sz [.long x, .long y] [] (fun (v9 : Int64) => (fun (_ : Unit) => v9 = kFloor x y)) (fun (_ : Unit) => []) 0 0 := by
  refine sq_enterl cJ9_floorDiv 6 (by decide +kernel) rfl (Nat.le_of_ble_eq_true rfl) ?_
  intro p e s m below meth c ls args A Q hargs hx hb hml hown hts hnm hN hP hK hD hA hS hl hend
  have hl : lv_has ls 6 [(0, .long x), (2, .long y)] := hl
  refine lv_lload_n hx hb dJ9_floorDiv_0 rfl (lv_at hl 0 rfl) ?_
  refine lv_lload_n hx hb dJ9_floorDiv_1 rfl (lv_at hl 1 rfl) ?_
  refine lv_ldiv hx hb dJ9_floorDiv_2 (by assumption) ?_
  refine lv_lstore (lv' := [(4, .long (x / y)), (0, .long x), (2, .long y)]) hx hb dJ9_floorDiv_3 hl (by decide) rfl (fun ls hl => ?_)
  refine lv_lload_n hx hb dJ9_floorDiv_5 rfl (lv_at hl 1 rfl) ?_
  refine lv_lload_n hx hb dJ9_floorDiv_6 rfl (lv_at hl 2 rfl) ?_
  refine lv_lxor hx hb dJ9_floorDiv_7 ?_
  refine lv_lconst (v := 0) hx hb dJ9_floorDiv_8 (by decide) ?_
  refine sq_lge (tgt := 27) hx hb dJ9_floorDiv_9 dJ9_floorDiv_10 (by decide) (fun c_1 => ?_) (fun c_1 => ?_)
  · refine lv_lload hx hb dJ9_floorDiv_27 (lv_at hl 0 rfl) ?_
    have hP9 := hP.sub (ws' := []) [] rfl
    have hD9 := hD.sub (ws' := []) [] (by decide) rfl
    exact hend () (x / y) _ _ _ _ dJ9_floorDiv_29 hP9 hD9 hS (show (x / y) = (kFloor x y) from by (first | (simp only [kFloor, c_1, ↓reduceIte, eq_self, not_true_eq_false, not_false_eq_true, and_true, true_and, and_false, false_and]; done) | (simp [kFloor, c_1]; done)))
  · refine lv_lload hx hb dJ9_floorDiv_13 (lv_at hl 0 rfl) ?_
    refine lv_lload_n hx hb dJ9_floorDiv_15 rfl (lv_at hl 2 rfl) ?_
    refine lv_lmul hx hb dJ9_floorDiv_16 ?_
    refine lv_lload_n hx hb dJ9_floorDiv_17 rfl (lv_at hl 1 rfl) ?_
    refine sq_leq (tgt := 27) hx hb dJ9_floorDiv_18 dJ9_floorDiv_19 (by decide) (fun c_2 => ?_) (fun c_2 => ?_)
    · refine lv_lload hx hb dJ9_floorDiv_27 (lv_at hl 0 rfl) ?_
      have hP9 := hP.sub (ws' := []) [] rfl
      have hD9 := hD.sub (ws' := []) [] (by decide) rfl
      exact hend () (x / y) _ _ _ _ dJ9_floorDiv_29 hP9 hD9 hS (show (x / y) = (kFloor x y) from by (first | (simp only [kFloor, c_1, c_2, ↓reduceIte, eq_self, not_true_eq_false, not_false_eq_true, and_true, true_and, and_false, false_and]; done) | (simp [kFloor, c_1, c_2]; done)))
    · refine lv_lload hx hb dJ9_floorDiv_22 (lv_at hl 0 rfl) ?_
      refine lv_lconst (v := 1) hx hb dJ9_floorDiv_24 (by decide) ?_
      refine lv_lsub hx hb dJ9_floorDiv_25 ?_
      have hP9 := hP.sub (ws' := []) [] rfl
      have hD9 := hD.sub (ws' := []) [] (by decide) rfl
      exact hend () ((x / y) - 1) _ _ _ _ dJ9_floorDiv_26 hP9 hD9 hS (show ((x / y) - 1) = (kFloor x y) from by (first | (simp only [kFloor, c_1, c_2, ↓reduceIte, eq_self, not_true_eq_false, not_false_eq_true, and_true, true_and, and_false, false_and]; done) | (simp [kFloor, c_1, c_2]; done)))

set_option maxHeartbeats 600000 in
set_option maxRecDepth 100000 in
theorem c_X8_rounded (l : Launch) (D : va_G) (cI cZ cB cJ : ClassId) (sz : Nat) (a : Int64) (b : Int64) : sq_Ml l yX8_rounded wsX8_rounded { frames := 1, cells := 0, slots := 0, locals := 25 } D (sq_T cI cZ cB cJ) sz [.long a, .long b] [] (fun (v9 : Int64) => (fun (_ : Unit) => v9 = kRound a b)) (fun (_ : Unit) => []) 0 0 := by
  refine sq_enterl cX8_rounded 4 (plainFor_of_name (by decide)) rfl (Nat.le_of_ble_eq_true rfl) ?_
  intro p e s m below meth c ls args A Q hargs hx hb hml hown hts hnm hN hP hK hD hA hS hl hend
  have hl : lv_has ls 4 [(0, .long a), (2, .long b)] := hl
  refine lv_lload_n hx hb dX8_rounded_0 rfl (lv_at hl 1 rfl) ?_
  refine lv_lconst (v := 0) hx hb dX8_rounded_1 (by decide) ?_
  refine sq_lgt (tgt := 8) hx hb dX8_rounded_2 dX8_rounded_3 (by decide) (fun c_1 => ?_) (fun c_1 => ?_)
  · refine lv_ldc2 hx hb hown (hts _ k_455) dX8_rounded_8 ?_
    refine lv_lload_n hx hb dX8_rounded_11 rfl (lv_at hl 0 rfl) ?_
    refine lv_lmul hx hb dX8_rounded_12 ?_
    refine lv_lload_n hx hb dX8_rounded_13 rfl (lv_at hl 1 rfl) ?_
    refine lv_ladd hx hb dX8_rounded_14 ?_
    refine lv_ldc2 hx hb hown (hts _ k_455) dX8_rounded_15 ?_
    refine lv_lload_n hx hb dX8_rounded_18 rfl (lv_at hl 1 rfl) ?_
    refine lv_lmul hx hb dX8_rounded_19 ?_
    refine sq_gol (wc := []) (wr := []) [] [] hP hD hS hA rfl rfl (by decide) (by decide) (by decide) (fun hPc hDc => va_runS (As := [.long ((2 * a) + b), .long (2 * b)]) (rest := []) ⟨hx, hb, hml, hown, hts⟩ (c_J9_floorDiv l D cI cZ cB cJ _ ((2 * a) + b) (2 * b) (sq_dbl (by assumption))) ⟨callB_of 2 hts (sq_gi k_458) rfl rfl rfl (hts _ k_11) (hts _ k_456) hdJ9_floorDiv ⟨Nat.le_of_ble_eq_true rfl, Nat.le_of_ble_eq_true rfl⟩, (hts _ k_457)⟩ (sq_preS hPc hDc hK hN) rfl rfl hl.1 rfl (lv_room (Nat.le_of_ble_eq_true rfl)) dX8_rounded_20 ⟨Nat.le_of_ble_eq_true rfl, Nat.le_of_ble_eq_true rfl⟩) (fun r_2 u H locs hw_3 hP hD hS => ?_)
    have hw_3 : r_2 = kFloor ((2 * a) + b) (2 * b) := hw_3
    have e_4 := hw_3
    clear hw_3
    subst e_4
    have hP : va_P D vwCl [] H := hP
    have hD : va_D A [] := hD
    have hP9 := hP.sub (ws' := []) [] rfl
    have hD9 := hD.sub (ws' := []) [] (by decide) rfl
    exact hend () (kFloor ((2 * a) + b) (2 * b)) _ _ _ _ dX8_rounded_23 hP9 hD9 hS (show (kFloor ((2 * a) + b) (2 * b)) = (kRound a b) from by (first | (simp only [kRound, c_1, ↓reduceIte, eq_self, not_true_eq_false, not_false_eq_true, and_true, true_and, and_false, false_and]; done) | (simp [kRound, c_1]; done)))
  · refine lv_lconst (v := 0) hx hb dX8_rounded_6 (by decide) ?_
    have hP9 := hP.sub (ws' := []) [] rfl
    have hD9 := hD.sub (ws' := []) [] (by decide) rfl
    exact hend () 0 _ _ _ _ dX8_rounded_7 hP9 hD9 hS (show 0 = (kRound a b) from by (first | (simp only [kRound, c_1, ↓reduceIte, eq_self, not_true_eq_false, not_false_eq_true, and_true, true_and, and_false, false_and]; done) | (simp [kRound, c_1]; done)))

set_option maxHeartbeats 600000 in
set_option maxRecDepth 100000 in
theorem c_X8_root (l : Launch) (D : va_G) (cI cZ cB cJ : ClassId) (sz : Nat) (v : Int64) : sq_Ml l yX8_root wsX8_root { frames := 0, cells := 0, slots := 0, locals := 0 } D (sq_T cI cZ cB cJ) sz [.long v] [] (fun (v9 : Int64) => (fun (_ : Unit) => v9 = kRoot v)) (fun (_ : Unit) => []) 0 0 := by
  refine sq_enterl cX8_root 8 (plainFor_of_name (by decide)) rfl (Nat.le_of_ble_eq_true rfl) ?_
  intro p e s m below meth c ls args A Q hargs hx hb hml hown hts hnm hN hP hK hD hA hS hl hend
  have hl : lv_has ls 8 [(0, .long v)] := hl
  refine lv_lload_n hx hb dX8_root_0 rfl (lv_at hl 0 rfl) ?_
  refine lv_lstore_n (lv' := [(2, .long v), (0, .long v)]) hx hb dX8_root_1 rfl hl (by decide) rfl (fun ls hl => ?_)
  refine lv_lconst (v := 0) hx hb dX8_root_2 (by decide) ?_
  refine lv_lstore (lv' := [(4, .long 0), (2, .long v), (0, .long v)]) hx hb dX8_root_3 hl (by decide) rfl (fun ls hl => ?_)
  refine lv_ldc2 hx hb hown (hts _ k_443) dX8_root_5 ?_
  refine lv_lstore (lv' := [(6, .long 1152921504606846976), (4, .long 0), (2, .long v), (0, .long v)]) hx hb dX8_root_8 hl (by decide) rfl (fun ls hl => ?_)
  have L10 : ∀ (n : Nat) (rest : Int64) (found : Int64) (bit : Int64) (hn : kRootL n rest found bit = kRoot v) (hm : ∃ k, n = k + 1 ∧ bit.toInt < ((4 ^ k : Nat) : Int)) (H : Heap) (locs : List Loc), va_P D vwCl [] H → va_D A [] → va_S A s.heap H locs → ∀ ls : Array Slot, lv_has ls 8 [(0, .long v), (2, .long rest), (4, .long found), (6, .long bit)] → W p l e ({ frames := 0, cells := 0, slots := 0, locals := 0 } : Room) s m args below meth c H locs 0 0 Q (F0 m 10 ls []) := by
    intro n
    induction n with
    | zero =>
      intro rest found bit hn hm
      exact (by obtain ⟨k, e9, _⟩ := hm; exact absurd e9 (by omega) : False).elim
    | succ n ih =>
      intro rest found bit hn hm H locs hP hD hS ls hl
      refine lv_lload hx hb dX8_root_10 (lv_at hl 3 rfl) ?_
      refine lv_lconst (v := 0) hx hb dX8_root_12 (by decide) ?_
      refine sq_lle (tgt := 62) hx hb dX8_root_13 dX8_root_14 (by decide) (fun c_1 => ?_) (fun c_1 => ?_)
      · refine lv_lload hx hb dX8_root_62 (lv_at hl 2 rfl) ?_
        have hP9 := hP.sub (ws' := []) [] rfl
        have hD9 := hD.sub (ws' := []) [] (by decide) rfl
        exact hend () found _ _ _ _ dX8_root_64 hP9 hD9 hS (show found = (kRoot v) from by rw [← hn]; (first | (simp only [kRootL, c_1, ↓reduceIte, eq_self, not_true_eq_false, not_false_eq_true, and_true, true_and, and_false, false_and]; done) | (simp [kRootL, c_1]; done)))
      · refine lv_lload_n hx hb dX8_root_17 rfl (lv_at hl 1 rfl) ?_
        refine lv_lload hx hb dX8_root_18 (lv_at hl 2 rfl) ?_
        refine lv_lload hx hb dX8_root_20 (lv_at hl 3 rfl) ?_
        refine lv_ladd hx hb dX8_root_22 ?_
        refine sq_llt (tgt := 47) hx hb dX8_root_23 dX8_root_24 (by decide) (fun c_2 => ?_) (fun c_2 => ?_)
        · refine lv_lload hx hb dX8_root_47 (lv_at hl 2 rfl) ?_
          refine lv_iconst (v := 1) hx hb dX8_root_49 (by decide) ?_
          refine lv_lshr hx hb dX8_root_50 rfl ?_
          refine lv_lstore (lv' := [(4, .long (found >>> ((1 : Int32).toInt64 &&& 63))), (0, .long v), (2, .long rest), (6, .long bit)]) hx hb dX8_root_51 hl (by decide) rfl (fun ls hl => ?_)
          refine lv_lload hx hb dX8_root_53 (lv_at hl 3 rfl) ?_
          refine lv_iconst (v := 2) hx hb dX8_root_55 (by decide) ?_
          refine lv_lshr hx hb dX8_root_56 rfl ?_
          refine lv_lstore (lv' := [(6, .long (bit >>> ((2 : Int32).toInt64 &&& 63))), (4, .long (found >>> ((1 : Int32).toInt64 &&& 63))), (0, .long v), (2, .long rest)]) hx hb dX8_root_57 hl (by decide) rfl (fun ls hl => ?_)
          refine lv_goto (tgt := 10) hx hb dX8_root_59 (by decide) ?_
          exact ih rest (found >>> ((1 : Int32).toInt64 &&& 63)) (bit >>> ((2 : Int32).toInt64 &&& 63)) (by rw [← hn]; (first | (simp only [kRootL, hn, hm, c_1, c_2, ↓reduceIte, eq_self, not_true_eq_false, not_false_eq_true, and_true, true_and, and_false, false_and]; done) | (simp [kRootL, hn, hm, c_1, c_2]; done))) (sq_bit hm (by assumption)) _ _ (hP.sub [] rfl) (hD.sub [] (by decide) rfl) hS ls (lv_sub hl [2, 3, 1, 0] rfl)
        · refine lv_lload_n hx hb dX8_root_27 rfl (lv_at hl 1 rfl) ?_
          refine lv_lload hx hb dX8_root_28 (lv_at hl 2 rfl) ?_
          refine lv_lload hx hb dX8_root_30 (lv_at hl 3 rfl) ?_
          refine lv_ladd hx hb dX8_root_32 ?_
          refine lv_lsub hx hb dX8_root_33 ?_
          refine lv_lstore_n (lv' := [(2, .long (rest - (found + bit))), (0, .long v), (4, .long found), (6, .long bit)]) hx hb dX8_root_34 rfl hl (by decide) rfl (fun ls hl => ?_)
          refine lv_lload hx hb dX8_root_35 (lv_at hl 2 rfl) ?_
          refine lv_iconst (v := 1) hx hb dX8_root_37 (by decide) ?_
          refine lv_lshr hx hb dX8_root_38 rfl ?_
          refine lv_lload hx hb dX8_root_39 (lv_at hl 3 rfl) ?_
          refine lv_ladd hx hb dX8_root_41 ?_
          refine lv_lstore (lv' := [(4, .long ((found >>> ((1 : Int32).toInt64 &&& 63)) + bit)), (2, .long (rest - (found + bit))), (0, .long v), (6, .long bit)]) hx hb dX8_root_42 hl (by decide) rfl (fun ls hl => ?_)
          refine lv_goto (tgt := 53) hx hb dX8_root_44 (by decide) ?_
          refine lv_lload hx hb dX8_root_53 (lv_at hl 3 rfl) ?_
          refine lv_iconst (v := 2) hx hb dX8_root_55 (by decide) ?_
          refine lv_lshr hx hb dX8_root_56 rfl ?_
          refine lv_lstore (lv' := [(6, .long (bit >>> ((2 : Int32).toInt64 &&& 63))), (4, .long ((found >>> ((1 : Int32).toInt64 &&& 63)) + bit)), (2, .long (rest - (found + bit))), (0, .long v)]) hx hb dX8_root_57 hl (by decide) rfl (fun ls hl => ?_)
          refine lv_goto (tgt := 10) hx hb dX8_root_59 (by decide) ?_
          exact ih (rest - (found + bit)) ((found >>> ((1 : Int32).toInt64 &&& 63)) + bit) (bit >>> ((2 : Int32).toInt64 &&& 63)) (by rw [← hn]; (first | (simp only [kRootL, hn, hm, c_1, c_2, ↓reduceIte, eq_self, not_true_eq_false, not_false_eq_true, and_true, true_and, and_false, false_and]; done) | (simp [kRootL, hn, hm, c_1, c_2]; done))) (sq_bit hm (by assumption)) _ _ (hP.sub [] rfl) (hD.sub [] (by decide) rfl) hS ls (lv_sub hl [3, 2, 1, 0] rfl)
  exact L10 (32) v 0 1152921504606846976 (rfl) (⟨31, rfl, by decide⟩) _ _ (hP.sub [] rfl) (hD.sub [] (by decide) rfl) hS ls (lv_sub hl [3, 2, 1, 0] rfl)
