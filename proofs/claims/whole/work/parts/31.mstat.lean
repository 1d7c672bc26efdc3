set_option maxHeartbeats 600000 in
set_option maxRecDepth 100000 in
theorem c_X9_isFar (l : Launch) (D : va_G) (cI cZ cB cJ : ClassId) (sz : Nat) (v : Int64) : sq_Mi l yX9_isFar wsX9_isFar { frames := 0, cells := 0, slots := 0, locals := 0 } D (sq_T cI cZ cB cJ) sz [.long v] [] (fun (v9 : Int32) => (fun (_ : Unit) => v9 = mFar v)) (fun (_ : Unit) => []) 0 0 := by
  refine sq_enterz cX9_isFar 2 (plainFor_of_name (by decide)) rfl (Nat.le_of_ble_eq_true rfl) ?_
  intro p e s m below meth c ls args A Q hargs hx hb hml hown hts hnm hN hP hK hD hA hS hl hend
  have hl : lv_has ls 2 [(0, .long v)] := hl
  refine lv_lload_n hx hb dX9_isFar_0 rfl (lv_at hl 0 rfl) ?_
  refine lv_ldc2 hx hb hown (hts _ k_680) dX9_isFar_1 ?_
  refine sq_llt (tgt := 16) hx hb dX9_isFar_4 dX9_isFar_5 (by decide) (fun c_1 => ?_) (fun c_1 => ?_)
  · refine lv_iconst (v := 1) hx hb dX9_isFar_16 (by decide) ?_
    refine lv_goto (tgt := 21) hx hb dX9_isFar_17 (by decide) ?_
    have hP9 := hP.sub (ws' := []) [] rfl
    have hD9 := hD.sub (ws' := []) [] (by decide) rfl
    exact hend () 1 _ _ _ _ dX9_isFar_21 hP9 hD9 hS (show 1 = (mFar v) from by (first | (simp only [mFar, c_1, ↓reduceIte, eq_self, not_true_eq_false, not_false_eq_true, and_true, true_and, and_false, false_and]; done) | (simp [mFar, c_1]; done))) rfl
  · refine lv_lload_n hx hb dX9_isFar_8 rfl (lv_at hl 0 rfl) ?_
    refine lv_ldc2 hx hb hown (hts _ k_681) dX9_isFar_9 ?_
    refine sq_lle (tgt := 20) hx hb dX9_isFar_12 dX9_isFar_13 (by decide) (fun c_2 => ?_) (fun c_2 => ?_)
    · refine lv_iconst (v := 0) hx hb dX9_isFar_20 (by decide) ?_
      have hP9 := hP.sub (ws' := []) [] rfl
      have hD9 := hD.sub (ws' := []) [] (by decide) rfl
      exact hend () 0 _ _ _ _ dX9_isFar_21 hP9 hD9 hS (show 0 = (mFar v) from by (first | (simp only [mFar, c_1, c_2, ↓reduceIte, eq_self, not_true_eq_false, not_false_eq_true, and_true, true_and, and_false, false_and]; done) | (simp [mFar, c_1, c_2]; done))) rfl
    · refine lv_iconst (v := 1) hx hb dX9_isFar_16 (by decide) ?_
      refine lv_goto (tgt := 21) hx hb dX9_isFar_17 (by decide) ?_
      have hP9 := hP.sub (ws' := []) [] rfl
      have hD9 := hD.sub (ws' := []) [] (by decide) rfl
      exact hend () 1 _ _ _ _ dX9_isFar_21 hP9 hD9 hS (show 1 = (mFar v) from by (first | (simp only [mFar, c_1, c_2, ↓reduceIte, eq_self, not_true_eq_false, not_false_eq_true, and_true, true_and, and_false, false_and]; done) | (simp [mFar, c_1, c_2]; done))) rfl

set_option maxHeartbeats 600000 in
set_option maxRecDepth 100000 in
theorem c_X9_rounded (l : Launch) (D : va_G) (cI cZ cB cJ : ClassId) (sz : Nat) (a : Int64) (b : Int64) (hdz : ¬ 2 * b = 0) : sq_Ml l yX9_rounded wsX9_rounded { frames := 1, cells := 0, slots := 0, locals := 25 } D (sq_T cI cZ cB cJ) sz [.long a, .long b] [] (fun (v9 : Int64) => (fun (_ : Unit) => v9 = mRound a b)) (fun (_ : Unit) => []) 0 0 := by
  refine sq_enterl cX9_rounded 4 (plainFor_of_name (by decide)) rfl (Nat.le_of_ble_eq_true rfl) ?_
  intro p e s m below meth c ls args A Q hargs hx hb hml hown hts hnm hN hP hK hD hA hS hl hend
  have hl : lv_has ls 4 [(0, .long a), (2, .long b)] := hl
  refine lv_ldc2 hx hb hown (hts _ k_733) dX9_rounded_0 ?_
  refine lv_lload_n hx hb dX9_rounded_3 rfl (lv_at hl 0 rfl) ?_
  refine lv_lmul hx hb dX9_rounded_4 ?_
  refine lv_lload_n hx hb dX9_rounded_5 rfl (lv_at hl 1 rfl) ?_
  refine lv_ladd hx hb dX9_rounded_6 ?_
  refine lv_ldc2 hx hb hown (hts _ k_733) dX9_rounded_7 ?_
  refine lv_lload_n hx hb dX9_rounded_10 rfl (lv_at hl 1 rfl) ?_
  refine lv_lmul hx hb dX9_rounded_11 ?_
  refine sq_gol (wc := []) (wr := []) [] [] hP hD hS hA rfl rfl (by decide) (by decide) (by decide) (fun hPc hDc => va_runS (As := [.long ((2 * a) + b), .long (2 * b)]) (rest := []) ⟨hx, hb, hml, hown, hts⟩ (c_J9_floorDiv l D cI cZ cB cJ _ ((2 * a) + b) (2 * b) hdz) ⟨callB_of 2 hts (sq_gi k_458) rfl rfl rfl (hts _ k_11) (hts _ k_764) hdJ9_floorDiv ⟨Nat.le_of_ble_eq_true rfl, Nat.le_of_ble_eq_true rfl⟩, (hts _ k_457)⟩ (sq_preS hPc hDc hK hN) rfl rfl hl.1 rfl (lv_room (Nat.le_of_ble_eq_true rfl)) dX9_rounded_12 ⟨Nat.le_of_ble_eq_true rfl, Nat.le_of_ble_eq_true rfl⟩) (fun r_1 u H locs hw_2 hP hD hS => ?_)
  have hw_2 : r_1 = kFloor ((2 * a) + b) (2 * b) := hw_2
  have e_3 := hw_2
  clear hw_2
  subst e_3
  have hP : va_P D vwCl [] H := hP
  have hD : va_D A [] := hD
  have hP9 := hP.sub (ws' := []) [] rfl
  have hD9 := hD.sub (ws' := []) [] (by decide) rfl
  exact hend () (kFloor ((2 * a) + b) (2 * b)) _ _ _ _ dX9_rounded_15 hP9 hD9 hS (show (kFloor ((2 * a) + b) (2 * b)) = (mRound a b) from rfl)

set_option maxHeartbeats 600000 in
set_option maxRecDepth 100000 in
theorem c_X9_root (l : Launch) (D : va_G) (cI cZ cB cJ : ClassId) (sz : Nat) (v : Int64) : sq_Ml l yX9_root wsX9_root { frames := 0, cells := 0, slots := 0, locals := 0 } D (sq_T cI cZ cB cJ) sz [.long v] [] (fun (v9 : Int64) => (fun (_ : Unit) => v9 = mRoot v)) (fun (_ : Unit) => []) 0 0 := by
  refine sq_enterl cX9_root 8 (plainFor_of_name (by decide)) rfl (Nat.le_of_ble_eq_true rfl) ?_
  intro p e s m below meth c ls args A Q hargs hx hb hml hown hts hnm hN hP hK hD hA hS hl hend
  have hl : lv_has ls 8 [(0, .long v)] := hl
  refine lv_lconst (v := 0) hx hb dX9_root_0 (by decide) ?_
  refine lv_lstore_n (lv' := [(2, .long 0), (0, .long v)]) hx hb dX9_root_1 rfl hl (by decide) rfl (fun ls hl => ?_)
  refine lv_ldc2 hx hb hown (hts _ k_760) dX9_root_2 ?_
  refine lv_lstore (lv' := [(4, .long 2147483648), (2, .long 0), (0, .long v)]) hx hb dX9_root_5 hl (by decide) rfl (fun ls hl => ?_)
  have L7 : ∀ (n : Nat) (lo : Int64) (hi : Int64) (hq : mRootL v n lo hi = mRoot v) (hm : mRootI n lo hi) (H : Heap) (locs : List Loc), va_P D vwCl [] H → va_D A [] → va_S A s.heap H locs → ∀ ls : Array Slot, lv_has ls 8 [(0, .long v), (2, .long lo), (4, .long hi)] → W p l e ({ frames := 0, cells := 0, slots := 0, locals := 0 } : Room) s m args below meth c H locs 0 0 Q (F0 m 7 ls []) := by
    intro n
    induction n with
    | zero =>
      intro lo hi hq hm
      exact (by obtain ⟨k, e9, _⟩ := hm; exact absurd e9 (by omega) : False).elim
    | succ n ih =>
      intro lo hi hq hm H locs hP hD hS ls hl
      refine lv_lload hx hb dX9_root_7 (lv_at hl 2 rfl) ?_
      refine lv_lload_n hx hb dX9_root_9 rfl (lv_at hl 1 rfl) ?_
      refine lv_lsub hx hb dX9_root_10 ?_
      refine lv_lconst (v := 1) hx hb dX9_root_11 (by decide) ?_
      refine sq_lle (tgt := 47) hx hb dX9_root_12 dX9_root_13 (by decide) (fun c_1 => ?_) (fun c_1 => ?_)
      · refine lv_lload_n hx hb dX9_root_47 rfl (lv_at hl 1 rfl) ?_
        have hP9 := hP.sub (ws' := []) [] rfl
        have hD9 := hD.sub (ws' := []) [] (by decide) rfl
        exact hend () lo _ _ _ _ dX9_root_48 hP9 hD9 hS (show lo = (mRoot v) from by rw [← hq]; (first | (simp only [mRootL, c_1, ↓reduceIte, eq_self, not_true_eq_false, not_false_eq_true, and_true, true_and, and_false, false_and]; done) | (simp [mRootL, c_1]; done)))
      · refine lv_lload_n hx hb dX9_root_16 rfl (lv_at hl 1 rfl) ?_
        refine lv_lload hx hb dX9_root_17 (lv_at hl 2 rfl) ?_
        refine lv_ladd hx hb dX9_root_19 ?_
        refine lv_iconst (v := 1) hx hb dX9_root_20 (by decide) ?_
        refine lv_lshr hx hb dX9_root_21 rfl ?_
        refine lv_lstore (lv' := [(6, .long ((lo + hi) >>> ((1 : Int32).toInt64 &&& 63))), (0, .long v), (2, .long lo), (4, .long hi)]) hx hb dX9_root_22 hl (by decide) rfl (fun ls hl => ?_)
        refine lv_lload hx hb dX9_root_24 (lv_at hl 0 rfl) ?_
        refine lv_lload hx hb dX9_root_26 (lv_at hl 0 rfl) ?_
        refine lv_lmul hx hb dX9_root_28 ?_
        refine lv_lload_n hx hb dX9_root_29 rfl (lv_at hl 1 rfl) ?_
        refine sq_lgt (tgt := 40) hx hb dX9_root_30 dX9_root_31 (by decide) (fun c_2 => ?_) (fun c_2 => ?_)
        · refine lv_lload hx hb dX9_root_40 (lv_at hl 0 rfl) ?_
          refine lv_lstore (lv' := [(4, .long ((lo + hi) >>> ((1 : Int32).toInt64 &&& 63))), (6, .long ((lo + hi) >>> ((1 : Int32).toInt64 &&& 63))), (0, .long v), (2, .long lo)]) hx hb dX9_root_42 hl (by decide) rfl (fun ls hl => ?_)
          refine lv_goto (tgt := 7) hx hb dX9_root_44 (by decide) ?_
          exact ih lo ((lo + hi) >>> ((1 : Int32).toInt64 &&& 63)) (by rw [← hq]; (first | (simp only [mRootL, mMid, hq, hm, c_1, c_2, ↓reduceIte, eq_self, not_true_eq_false, not_false_eq_true, and_true, true_and, and_false, false_and]; done) | (simp [mRootL, mMid, hq, hm, c_1, c_2]; done))) (by first | exact (mRootI.mid hm (by assumption)).1 | exact (mRootI.mid hm (by assumption)).2) _ _ (hP.sub [] rfl) (hD.sub [] (by decide) rfl) hS ls (lv_sub hl [2, 3, 0] rfl)
        · refine lv_lload hx hb dX9_root_34 (lv_at hl 0 rfl) ?_
          refine lv_lstore_n (lv' := [(2, .long ((lo + hi) >>> ((1 : Int32).toInt64 &&& 63))), (6, .long ((lo + hi) >>> ((1 : Int32).toInt64 &&& 63))), (0, .long v), (4, .long hi)]) hx hb dX9_root_36 rfl hl (by decide) rfl (fun ls hl => ?_)
          refine lv_goto (tgt := 44) hx hb dX9_root_37 (by decide) ?_
          refine lv_goto (tgt := 7) hx hb dX9_root_44 (by decide) ?_
          exact ih ((lo + hi) >>> ((1 : Int32).toInt64 &&& 63)) hi (by rw [← hq]; (first | (simp only [mRootL, mMid, hq, hm, c_1, c_2, ↓reduceIte, eq_self, not_true_eq_false, not_false_eq_true, and_true, true_and, and_false, false_and]; done) | (simp [mRootL, mMid, hq, hm, c_1, c_2]; done))) (by first | exact (mRootI.mid hm (by assumption)).1 | exact (mRootI.mid hm (by assumption)).2) _ _ (hP.sub [] rfl) (hD.sub [] (by decide) rfl) hS ls (lv_sub hl [2, 0, 3] rfl)
  exact L7 (32) 0 2147483648 (rfl) (⟨31, rfl, by decide, by decide, by decide⟩) _ _ (hP.sub [] rfl) (hD.sub [] (by decide) rfl) hS ls (lv_sub hl [2, 1, 0] rfl)

set_option maxHeartbeats 600000 in
set_option maxRecDepth 100000 in
theorem c_X9_lengthOf (l : Launch) (D : va_G) (cI cZ cB cJ : ClassId) (sz : Nat) (x : Int64) (y : Int64) : sq_Ml l yX9_lengthOf wsX9_lengthOf { frames := 1, cells := 0, slots := 0, locals := 27 } D (sq_T cI cZ cB cJ) sz [.long x, .long y] [] (fun (v9 : Int64) => (fun (_ : Unit) => v9 = mLenOf x y)) (fun (_ : Unit) => []) 0 0 := by
  refine sq_enterl cX9_lengthOf 4 (plainFor_of_name (by decide)) rfl (Nat.le_of_ble_eq_true rfl) ?_
  intro p e s m below meth c ls args A Q hargs hx hb hml hown hts hnm hN hP hK hD hA hS hl hend
  have hl : lv_has ls 4 [(0, .long x), (2, .long y)] := hl
  refine lv_lload_n hx hb dX9_lengthOf_0 rfl (lv_at hl 0 rfl) ?_
  refine lv_lload_n hx hb dX9_lengthOf_1 rfl (lv_at hl 0 rfl) ?_
  refine lv_lmul hx hb dX9_lengthOf_2 ?_
  refine lv_lload_n hx hb dX9_lengthOf_3 rfl (lv_at hl 1 rfl) ?_
  refine lv_lload_n hx hb dX9_lengthOf_4 rfl (lv_at hl 1 rfl) ?_
  refine lv_lmul hx hb dX9_lengthOf_5 ?_
  refine lv_ladd hx hb dX9_lengthOf_6 ?_
  refine sq_gol (wc := []) (wr := []) [] [] hP hD hS hA rfl rfl (by decide) (by decide) (by decide) (fun hPc hDc => va_runS (As := [.long ((x * x) + (y * y))]) (rest := []) ⟨hx, hb, hml, hown, hts⟩ (c_X9_root l D cI cZ cB cJ _ ((x * x) + (y * y)) ) ⟨callB_of 1 hts (sq_gi k_759) rfl rfl rfl (hts _ k_10) (hts _ k_757) hdX9_root ⟨Nat.le_of_ble_eq_true rfl, Nat.le_of_ble_eq_true rfl⟩, (hts _ k_758)⟩ (sq_preS hPc hDc hK hN) rfl rfl hl.1 rfl (lv_room (Nat.le_of_ble_eq_true rfl)) dX9_lengthOf_7 ⟨Nat.le_of_ble_eq_true rfl, Nat.le_of_ble_eq_true rfl⟩) (fun r_1 u H locs hw_2 hP hD hS => ?_)
  have hw_2 : r_1 = mRoot ((x * x) + (y * y)) := hw_2
  have e_3 := hw_2
  clear hw_2
  subst e_3
  have hP : va_P D vwCl [] H := hP
  have hD : va_D A [] := hD
  have hP9 := hP.sub (ws' := []) [] rfl
  have hD9 := hD.sub (ws' := []) [] (by decide) rfl
  exact hend () (mRoot ((x * x) + (y * y))) _ _ _ _ dX9_lengthOf_10 hP9 hD9 hS (show (mRoot ((x * x) + (y * y))) = (mLenOf x y) from rfl)
