set_option maxHeartbeats 600000 in
set_option maxRecDepth 100000 in
theorem c_X3_empty (l : Launch) (D : va_G) (cI cZ cB cJ : ClassId) (sz : Nat) (h : Nat) (h1 : Nat) (h2 : Nat) (P : PS) : sq_Mv l yX3_empty wsX3_empty { frames := 0, cells := 0, slots := 0, locals := 0 } D (sq_T cI cZ cB cJ) sz [.ref h] [(h, .inr (3, [.ref h1, .ref h2, .int P.2.2.1, .int P.2.2.2.1, .int P.2.2.2.2])), (h1, .inl (cI, 2000, .inl P.1)), (h2, .inl (cI, 16000, .inl P.2.1))] (fun (u1 : PS) => u1 = psEmpty P) (fun (u1 : PS) => [(h, .inr (3, [.ref h1, .ref h2, .int u1.2.2.1, .int u1.2.2.2.1, .int u1.2.2.2.2])), (h1, .inl (cI, 2000, .inl u1.1)), (h2, .inl (cI, 16000, .inl u1.2.1))]) 0 0 := by
  refine sq_enterv cX3_empty 1 (plainFor_of_name (by decide)) rfl (Nat.le_of_ble_eq_true rfl) ?_
  intro p e s m below meth c ls args A Q hargs hx hb hml hown hts hnm hN hP hK hD hA hS hl hend
  have hl : lv_has ls 1 [(0, .ref h)] := hl
  refine lv_aload_n hx hb dX3_empty_0 rfl (lv_at hl 0 rfl) ?_
  refine lv_iconst (v := 0) hx hb dX3_empty_1 (by decide) ?_
  refine va_put (ci := 3) (v := .int 0) (ty := .int) (C := RX3) (T := TX3) (N := 5) hx hb hts inX3 tyX3 tyX3_ok nmX3 hown hK hP hD hS 0 rfl rfl 2 (by decide) (hts _ k_106) (fun _ h9 => h9) rfl (by decide +kernel) rfl rfl (Nat.le_of_ble_eq_true rfl) dX3_empty_2 (fun H locs hP hD hS => ?_)
  have hP : va_P D vwCl [(h, .inr (3, [.ref h1, .ref h2, .int 0, .int P.2.2.2.1, .int P.2.2.2.2])), (h1, .inl (cI, 2000, .inl P.1)), (h2, .inl (cI, 16000, .inl P.2.1))] H := hP
  have hD : va_D A [(h, .inr (3, [.ref h1, .ref h2, .int 0, .int P.2.2.2.1, .int P.2.2.2.2])), (h1, .inl (cI, 2000, .inl P.1)), (h2, .inl (cI, 16000, .inl P.2.1))] := hD
  refine lv_aload_n hx hb dX3_empty_5 rfl (lv_at hl 0 rfl) ?_
  refine lv_iconst (v := 0) hx hb dX3_empty_6 (by decide) ?_
  refine va_put (ci := 3) (v := .int 0) (ty := .int) (C := RX3) (T := TX3) (N := 5) hx hb hts inX3 tyX3 tyX3_ok nmX3 hown hK hP hD hS 0 rfl rfl 3 (by decide) (hts _ k_107) (fun _ h9 => h9) rfl (by decide +kernel) rfl rfl (Nat.le_of_ble_eq_true rfl) dX3_empty_7 (fun H locs hP hD hS => ?_)
  have hP : va_P D vwCl [(h, .inr (3, [.ref h1, .ref h2, .int 0, .int 0, .int P.2.2.2.2])), (h1, .inl (cI, 2000, .inl P.1)), (h2, .inl (cI, 16000, .inl P.2.1))] H := hP
  have hD : va_D A [(h, .inr (3, [.ref h1, .ref h2, .int 0, .int 0, .int P.2.2.2.2])), (h1, .inl (cI, 2000, .inl P.1)), (h2, .inl (cI, 16000, .inl P.2.1))] := hD
  refine lv_aload_n hx hb dX3_empty_10 rfl (lv_at hl 0 rfl) ?_
  refine lv_iconst (v := 0) hx hb dX3_empty_11 (by decide) ?_
  refine va_put (ci := 3) (v := .int 0) (ty := .int) (C := RX3) (T := TX3) (N := 5) hx hb hts inX3 tyX3 tyX3_ok nmX3 hown hK hP hD hS 0 rfl rfl 4 (by decide) (hts _ k_108) (fun _ h9 => h9) rfl (by decide +kernel) rfl rfl (Nat.le_of_ble_eq_true rfl) dX3_empty_12 (fun H locs hP hD hS => ?_)
  have hP : va_P D vwCl [(h, .inr (3, [.ref h1, .ref h2, .int 0, .int 0, .int 0])), (h1, .inl (cI, 2000, .inl P.1)), (h2, .inl (cI, 16000, .inl P.2.1))] H := hP
  have hD : va_D A [(h, .inr (3, [.ref h1, .ref h2, .int 0, .int 0, .int 0])), (h1, .inl (cI, 2000, .inl P.1)), (h2, .inl (cI, 16000, .inl P.2.1))] := hD
  have hP9 := hP.sub (ws' := [(h, .inr (3, [.ref h1, .ref h2, .int 0, .int 0, .int 0])), (h1, .inl (cI, 2000, .inl P.1)), (h2, .inl (cI, 16000, .inl P.2.1))]) [0, 1, 2] rfl
  have hD9 := hD.sub (ws' := [(h, .inr (3, [.ref h1, .ref h2, .int 0, .int 0, .int 0])), (h1, .inl (cI, 2000, .inl P.1)), (h2, .inl (cI, 16000, .inl P.2.1))]) [0, 1, 2] (by decide) rfl
  have hP9 : va_P D vwCl [(h, .inr (3, [.ref h1, .ref h2, .int ((P.1, P.2.1, 0, 0, 0).2.2.1), .int ((P.1, P.2.1, 0, 0, 0).2.2.2.1), .int ((P.1, P.2.1, 0, 0, 0).2.2.2.2)])), (h1, .inl (cI, 2000, .inl ((P.1, P.2.1, 0, 0, 0).1))), (h2, .inl (cI, 16000, .inl ((P.1, P.2.1, 0, 0, 0).2.1)))] H := hP9
  have hD9 : va_D A [(h, .inr (3, [.ref h1, .ref h2, .int ((P.1, P.2.1, 0, 0, 0).2.2.1), .int ((P.1, P.2.1, 0, 0, 0).2.2.2.1), .int ((P.1, P.2.1, 0, 0, 0).2.2.2.2)])), (h1, .inl (cI, 2000, .inl ((P.1, P.2.1, 0, 0, 0).1))), (h2, .inl (cI, 16000, .inl ((P.1, P.2.1, 0, 0, 0).2.1)))] := hD9
  exact hend (P.1, P.2.1, 0, 0, 0) _ _ _ _ dX3_empty_15 hP9 hD9 hS (show (P.1, P.2.1, 0, 0, 0) = psEmpty P from by (first | (simp only [psEmpty, ↓reduceIte, eq_self, not_true_eq_false, not_false_eq_true, and_true, true_and, and_false, false_and]; done) | (simp [psEmpty]; done)))

set_option maxHeartbeats 600000 in
set_option maxRecDepth 100000 in
theorem c_X3_isGoing (l : Launch) (D : va_G) (cI cZ cB cJ : ClassId) (sz : Nat) (h : Nat) (h1 : Nat) (h2 : Nat) (P : PS) : sq_Mi l yX3_isGoing wsX3_isGoing { frames := 0, cells := 0, slots := 0, locals := 0 } D (sq_T cI cZ cB cJ) sz [.ref h] [(h, .inr (3, [.ref h1, .ref h2, .int P.2.2.1, .int P.2.2.2.1, .int P.2.2.2.2])), (h1, .inl (cI, 2000, .inl P.1)), (h2, .inl (cI, 16000, .inl P.2.1))] (fun (v9 : Int32) => (fun (_ : Unit) => v9 = psGoing P)) (fun (_ : Unit) => [(h, .inr (3, [.ref h1, .ref h2, .int P.2.2.1, .int P.2.2.2.1, .int P.2.2.2.2])), (h1, .inl (cI, 2000, .inl P.1)), (h2, .inl (cI, 16000, .inl P.2.1))]) 0 0 := by
  refine sq_enterz cX3_isGoing 1 (plainFor_of_name (by decide)) rfl (Nat.le_of_ble_eq_true rfl) ?_
  intro p e s m below meth c ls args A Q hargs hx hb hml hown hts hnm hN hP hK hD hA hS hl hend
  have hl : lv_has ls 1 [(0, .ref h)] := hl
  refine lv_aload_n hx hb dX3_isGoing_0 rfl (lv_at hl 0 rfl) ?_
  refine va_get (ci := 3) (v := .int P.2.2.2.2) (C := RX3) (T := TX3) (N := 5) hx hb hts inX3 hown hK hP 0 rfl rfl 4 (by decide) (hts _ k_108) (fun _ h9 => h9) rfl dX3_isGoing_1 ?_
  refine lv_if_ne (tgt := 11) hx hb dX3_isGoing_4 (by decide) (fun c_1 => ?_) (fun c_1 => ?_)
  · refine lv_iconst (v := 0) hx hb dX3_isGoing_11 (by decide) ?_
    have hP9 := hP.sub (ws' := [(h, .inr (3, [.ref h1, .ref h2, .int P.2.2.1, .int P.2.2.2.1, .int P.2.2.2.2])), (h1, .inl (cI, 2000, .inl P.1)), (h2, .inl (cI, 16000, .inl P.2.1))]) [0, 1, 2] rfl
    have hD9 := hD.sub (ws' := [(h, .inr (3, [.ref h1, .ref h2, .int P.2.2.1, .int P.2.2.2.1, .int P.2.2.2.2])), (h1, .inl (cI, 2000, .inl P.1)), (h2, .inl (cI, 16000, .inl P.2.1))]) [0, 1, 2] (by decide) rfl
    exact hend () 0 _ _ _ _ dX3_isGoing_12 hP9 hD9 hS (show 0 = (psGoing P) from by (first | (simp only [psGoing, c_1, ↓reduceIte, eq_self, not_true_eq_false, not_false_eq_true, and_true, true_and, and_false, false_and]; done) | (simp [psGoing, c_1]; done))) rfl
  · refine lv_iconst (v := 1) hx hb dX3_isGoing_7 (by decide) ?_
    refine lv_goto (tgt := 12) hx hb dX3_isGoing_8 (by decide) ?_
    have hP9 := hP.sub (ws' := [(h, .inr (3, [.ref h1, .ref h2, .int P.2.2.1, .int P.2.2.2.1, .int P.2.2.2.2])), (h1, .inl (cI, 2000, .inl P.1)), (h2, .inl (cI, 16000, .inl P.2.1))]) [0, 1, 2] rfl
    have hD9 := hD.sub (ws' := [(h, .inr (3, [.ref h1, .ref h2, .int P.2.2.1, .int P.2.2.2.1, .int P.2.2.2.2])), (h1, .inl (cI, 2000, .inl P.1)), (h2, .inl (cI, 16000, .inl P.2.1))]) [0, 1, 2] (by decide) rfl
    exact hend () 1 _ _ _ _ dX3_isGoing_12 hP9 hD9 hS (show 1 = (psGoing P) from by (first | (simp only [psGoing, c_1, ↓reduceIte, eq_self, not_true_eq_false, not_false_eq_true, and_true, true_and, and_false, false_and]; done) | (simp [psGoing, c_1]; done))) rfl

set_option maxHeartbeats 600000 in
set_option maxRecDepth 100000 in
theorem c_X3_state (l : Launch) (D : va_G) (cI cZ cB cJ : ClassId) (sz : Nat) (h : Nat) (h1 : Nat) (h2 : Nat) (P : PS) : sq_Mi l yX3_state wsX3_state { frames := 0, cells := 0, slots := 0, locals := 0 } D (sq_T cI cZ cB cJ) sz [.ref h] [(h, .inr (3, [.ref h1, .ref h2, .int P.2.2.1, .int P.2.2.2.1, .int P.2.2.2.2])), (h1, .inl (cI, 2000, .inl P.1)), (h2, .inl (cI, 16000, .inl P.2.1))] (fun (v9 : Int32) => (fun (_ : Unit) => v9 = P.2.2.2.2)) (fun (_ : Unit) => [(h, .inr (3, [.ref h1, .ref h2, .int P.2.2.1, .int P.2.2.2.1, .int P.2.2.2.2])), (h1, .inl (cI, 2000, .inl P.1)), (h2, .inl (cI, 16000, .inl P.2.1))]) 0 0 := by
  refine sq_enteri cX3_state 1 (plainFor_of_name (by decide)) rfl (Nat.le_of_ble_eq_true rfl) ?_
  intro p e s m below meth c ls args A Q hargs hx hb hml hown hts hnm hN hP hK hD hA hS hl hend
  have hl : lv_has ls 1 [(0, .ref h)] := hl
  refine lv_aload_n hx hb dX3_state_0 rfl (lv_at hl 0 rfl) ?_
  refine va_get (ci := 3) (v := .int P.2.2.2.2) (C := RX3) (T := TX3) (N := 5) hx hb hts inX3 hown hK hP 0 rfl rfl 4 (by decide) (hts _ k_108) (fun _ h9 => h9) rfl dX3_state_1 ?_
  have hP9 := hP.sub (ws' := [(h, .inr (3, [.ref h1, .ref h2, .int P.2.2.1, .int P.2.2.2.1, .int P.2.2.2.2])), (h1, .inl (cI, 2000, .inl P.1)), (h2, .inl (cI, 16000, .inl P.2.1))]) [0, 1, 2] rfl
  have hD9 := hD.sub (ws' := [(h, .inr (3, [.ref h1, .ref h2, .int P.2.2.1, .int P.2.2.2.1, .int P.2.2.2.2])), (h1, .inl (cI, 2000, .inl P.1)), (h2, .inl (cI, 16000, .inl P.2.1))]) [0, 1, 2] (by decide) rfl
  exact hend () P.2.2.2.2 _ _ _ _ dX3_state_4 hP9 hD9 hS (show P.2.2.2.2 = P.2.2.2.2 from rfl)

set_option maxHeartbeats 600000 in
set_option maxRecDepth 100000 in
theorem c_X3_count (l : Launch) (D : va_G) (cI cZ cB cJ : ClassId) (sz : Nat) (h : Nat) (h1 : Nat) (h2 : Nat) (P : PS) : sq_Mi l yX3_count wsX3_count { frames := 0, cells := 0, slots := 0, locals := 0 } D (sq_T cI cZ cB cJ) sz [.ref h] [(h, .inr (3, [.ref h1, .ref h2, .int P.2.2.1, .int P.2.2.2.1, .int P.2.2.2.2])), (h1, .inl (cI, 2000, .inl P.1)), (h2, .inl (cI, 16000, .inl P.2.1))] (fun (v9 : Int32) => (fun (_ : Unit) => v9 = P.2.2.1)) (fun (_ : Unit) => [(h, .inr (3, [.ref h1, .ref h2, .int P.2.2.1, .int P.2.2.2.1, .int P.2.2.2.2])), (h1, .inl (cI, 2000, .inl P.1)), (h2, .inl (cI, 16000, .inl P.2.1))]) 0 0 := by
  refine sq_enteri cX3_count 1 (plainFor_of_name (by decide)) rfl (Nat.le_of_ble_eq_true rfl) ?_
  intro p e s m below meth c ls args A Q hargs hx hb hml hown hts hnm hN hP hK hD hA hS hl hend
  have hl : lv_has ls 1 [(0, .ref h)] := hl
  refine lv_aload_n hx hb dX3_count_0 rfl (lv_at hl 0 rfl) ?_
  refine va_get (ci := 3) (v := .int P.2.2.1) (C := RX3) (T := TX3) (N := 5) hx hb hts inX3 hown hK hP 0 rfl rfl 2 (by decide) (hts _ k_106) (fun _ h9 => h9) rfl dX3_count_1 ?_
  have hP9 := hP.sub (ws' := [(h, .inr (3, [.ref h1, .ref h2, .int P.2.2.1, .int P.2.2.2.1, .int P.2.2.2.2])), (h1, .inl (cI, 2000, .inl P.1)), (h2, .inl (cI, 16000, .inl P.2.1))]) [0, 1, 2] rfl
  have hD9 := hD.sub (ws' := [(h, .inr (3, [.ref h1, .ref h2, .int P.2.2.1, .int P.2.2.2.1, .int P.2.2.2.2])), (h1, .inl (cI, 2000, .inl P.1)), (h2, .inl (cI, 16000, .inl P.2.1))]) [0, 1, 2] (by decide) rfl
  exact hend () P.2.2.1 _ _ _ _ dX3_count_4 hP9 hD9 hS (show P.2.2.1 = P.2.2.1 from rfl)

set_option maxHeartbeats 600000 in
set_option maxRecDepth 100000 in
theorem c_X3_stop (l : Launch) (D : va_G) (cI cZ cB cJ : ClassId) (sz : Nat) (h : Nat) (h1 : Nat) (h2 : Nat) (P : PS) (why : Int32) : sq_Mv l yX3_stop wsX3_stop { frames := 0, cells := 0, slots := 0, locals := 0 } D (sq_T cI cZ cB cJ) sz [.ref h, .int why] [(h, .inr (3, [.ref h1, .ref h2, .int P.2.2.1, .int P.2.2.2.1, .int P.2.2.2.2])), (h1, .inl (cI, 2000, .inl P.1)), (h2, .inl (cI, 16000, .inl P.2.1))] (fun (u1 : PS) => u1 = psStop why P) (fun (u1 : PS) => [(h, .inr (3, [.ref h1, .ref h2, .int u1.2.2.1, .int u1.2.2.2.1, .int u1.2.2.2.2])), (h1, .inl (cI, 2000, .inl u1.1)), (h2, .inl (cI, 16000, .inl u1.2.1))]) 0 0 := by
  refine sq_enterv cX3_stop 2 (plainFor_of_name (by decide)) rfl (Nat.le_of_ble_eq_true rfl) ?_
  intro p e s m below meth c ls args A Q hargs hx hb hml hown hts hnm hN hP hK hD hA hS hl hend
  have hl : lv_has ls 2 [(0, .ref h), (1, .int why)] := hl
  refine lv_aload_n hx hb dX3_stop_0 rfl (lv_at hl 0 rfl) ?_
  refine va_get (ci := 3) (v := .int P.2.2.2.2) (C := RX3) (T := TX3) (N := 5) hx hb hts inX3 hown hK hP 0 rfl rfl 4 (by decide) (hts _ k_108) (fun _ h9 => h9) rfl dX3_stop_1 ?_
  refine lv_if_ne (tgt := 12) hx hb dX3_stop_4 (by decide) (fun c_1 => ?_) (fun c_1 => ?_)
  · have hP9 := hP.sub (ws' := [(h, .inr (3, [.ref h1, .ref h2, .int P.2.2.1, .int P.2.2.2.1, .int P.2.2.2.2])), (h1, .inl (cI, 2000, .inl P.1)), (h2, .inl (cI, 16000, .inl P.2.1))]) [0, 1, 2] rfl
    have hD9 := hD.sub (ws' := [(h, .inr (3, [.ref h1, .ref h2, .int P.2.2.1, .int P.2.2.2.1, .int P.2.2.2.2])), (h1, .inl (cI, 2000, .inl P.1)), (h2, .inl (cI, 16000, .inl P.2.1))]) [0, 1, 2] (by decide) rfl
    exact hend P _ _ _ _ dX3_stop_12 hP9 hD9 hS (show P = psStop why P from by (first | (simp only [psStop, c_1, ↓reduceIte, eq_self, not_true_eq_false, not_false_eq_true, and_true, true_and, and_false, false_and]; done) | (simp [psStop, c_1]; done)))
  · refine lv_aload_n hx hb dX3_stop_7 rfl (lv_at hl 0 rfl) ?_
    refine lv_iload_n hx hb dX3_stop_8 rfl (lv_at hl 1 rfl) ?_
    refine va_put (ci := 3) (v := .int why) (ty := .int) (C := RX3) (T := TX3) (N := 5) hx hb hts inX3 tyX3 tyX3_ok nmX3 hown hK hP hD hS 0 rfl rfl 4 (by decide) (hts _ k_108) (fun _ h9 => h9) rfl (by decide +kernel) rfl rfl (Nat.le_of_ble_eq_true rfl) dX3_stop_9 (fun H locs hP hD hS => ?_)
    have hP : va_P D vwCl [(h, .inr (3, [.ref h1, .ref h2, .int P.2.2.1, .int P.2.2.2.1, .int why])), (h1, .inl (cI, 2000, .inl P.1)), (h2, .inl (cI, 16000, .inl P.2.1))] H := hP
    have hD : va_D A [(h, .inr (3, [.ref h1, .ref h2, .int P.2.2.1, .int P.2.2.2.1, .int why])), (h1, .inl (cI, 2000, .inl P.1)), (h2, .inl (cI, 16000, .inl P.2.1))] := hD
    have hP9 := hP.sub (ws' := [(h, .inr (3, [.ref h1, .ref h2, .int P.2.2.1, .int P.2.2.2.1, .int why])), (h1, .inl (cI, 2000, .inl P.1)), (h2, .inl (cI, 16000, .inl P.2.1))]) [0, 1, 2] rfl
    have hD9 := hD.sub (ws' := [(h, .inr (3, [.ref h1, .ref h2, .int P.2.2.1, .int P.2.2.2.1, .int why])), (h1, .inl (cI, 2000, .inl P.1)), (h2, .inl (cI, 16000, .inl P.2.1))]) [0, 1, 2] (by decide) rfl
    have hP9 : va_P D vwCl [(h, .inr (3, [.ref h1, .ref h2, .int ((P.1, P.2.1, P.2.2.1, P.2.2.2.1, why).2.2.1), .int ((P.1, P.2.1, P.2.2.1, P.2.2.2.1, why).2.2.2.1), .int ((P.1, P.2.1, P.2.2.1, P.2.2.2.1, why).2.2.2.2)])), (h1, .inl (cI, 2000, .inl ((P.1, P.2.1, P.2.2.1, P.2.2.2.1, why).1))), (h2, .inl (cI, 16000, .inl ((P.1, P.2.1, P.2.2.1, P.2.2.2.1, why).2.1)))] H := hP9
    have hD9 : va_D A [(h, .inr (3, [.ref h1, .ref h2, .int ((P.1, P.2.1, P.2.2.1, P.2.2.2.1, why).2.2.1), .int ((P.1, P.2.1, P.2.2.1, P.2.2.2.1, why).2.2.2.1), .int ((P.1, P.2.1, P.2.2.1, P.2.2.2.1, why).2.2.2.2)])), (h1, .inl (cI, 2000, .inl ((P.1, P.2.1, P.2.2.1, P.2.2.2.1, why).1))), (h2, .inl (cI, 16000, .inl ((P.1, P.2.1, P.2.2.1, P.2.2.2.1, why).2.1)))] := hD9
    exact hend (P.1, P.2.1, P.2.2.1, P.2.2.2.1, why) _ _ _ _ dX3_stop_12 hP9 hD9 hS (show (P.1, P.2.1, P.2.2.1, P.2.2.2.1, why) = psStop why P from by (first | (simp only [psStop, c_1, ↓reduceIte, eq_self, not_true_eq_false, not_false_eq_true, and_true, true_and, and_false, false_and]; done) | (simp [psStop, c_1]; done)))

set_option maxHeartbeats 600000 in
set_option maxRecDepth 100000 in
theorem c_X3_start (l : Launch) (D : va_G) (cI cZ cB cJ : ClassId) (sz : Nat) (h : Nat) (h1 : Nat) (h2 : Nat) (P : PS) (k : Int32) : sq_Mv l yX3_start wsX3_start { frames := 1, cells := 0, slots := 0, locals := 21 } D (sq_T cI cZ cB cJ) sz [.ref h, .int k] [(h, .inr (3, [.ref h1, .ref h2, .int P.2.2.1, .int P.2.2.2.1, .int P.2.2.2.2])), (h1, .inl (cI, 2000, .inl P.1)), (h2, .inl (cI, 16000, .inl P.2.1))] (fun (u1 : PS) => u1 = psStart k P) (fun (u1 : PS) => [(h, .inr (3, [.ref h1, .ref h2, .int u1.2.2.1, .int u1.2.2.2.1, .int u1.2.2.2.2])), (h1, .inl (cI, 2000, .inl u1.1)), (h2, .inl (cI, 16000, .inl u1.2.1))]) 0 0 := by
  refine sq_enterv cX3_start 2 (plainFor_of_name (by decide)) rfl (Nat.le_of_ble_eq_true rfl) ?_
  intro p e s m below meth c ls args A Q hargs hx hb hml hown hts hnm hN hP hK hD hA hS hl hend
  have hl : lv_has ls 2 [(0, .ref h), (1, .int k)] := hl
  refine lv_aload_n hx hb dX3_start_0 rfl (lv_at hl 0 rfl) ?_
  refine va_get (ci := 3) (v := .int P.2.2.2.2) (C := RX3) (T := TX3) (N := 5) hx hb hts inX3 hown hK hP 0 rfl rfl 4 (by decide) (hts _ k_108) (fun _ h9 => h9) rfl dX3_start_1 ?_
  refine lv_if_eq (tgt := 8) hx hb dX3_start_4 (by decide) (fun c_1 => ?_) (fun c_1 => ?_)
  · refine lv_aload_n hx hb dX3_start_8 rfl (lv_at hl 0 rfl) ?_
    refine va_get (ci := 3) (v := .int P.2.2.1) (C := RX3) (T := TX3) (N := 5) hx hb hts inX3 hown hK hP 0 rfl rfl 2 (by decide) (hts _ k_106) (fun _ h9 => h9) rfl dX3_start_9 ?_
    refine lv_if_lt (tgt := 25) hx hb dX3_start_12 (by decide) (fun c_2 => ?_) (fun c_2 => ?_)
    · refine lv_aload_n hx hb dX3_start_25 rfl (lv_at hl 0 rfl) ?_
      refine lv_bipush (v := (-3)) hx hb dX3_start_26 (by decide) ?_
      refine sq_gov (wc := [(h, .inr (3, [.ref h1, .ref h2, .int P.2.2.1, .int P.2.2.2.1, .int P.2.2.2.2])), (h1, .inl (cI, 2000, .inl P.1)), (h2, .inl (cI, 16000, .inl P.2.1))]) (wr := []) [0, 1, 2] [] hP hD hS hA rfl rfl (by decide) (by decide) (by decide) (fun hPc hDc => va_runV (As := [.int (-3)]) (rest := []) ⟨hx, hb, hml, hown, hts⟩ (c_X3_stop l D cI cZ cB cJ _ h h1 h2 P (-3) ) ⟨callB_of 1 hts (sq_gi k_414) rfl rfl rfl (hts _ k_5) (hts _ k_493) hdX3_stop ⟨Nat.le_of_ble_eq_true rfl, Nat.le_of_ble_eq_true rfl⟩, (hts _ k_412), (hts _ k_413)⟩ (sq_preV hPc hDc hK hN (q0 := 0) (ci := 3) rfl rfl) rfl rfl hl.1 rfl (lv_room (Nat.le_of_ble_eq_true rfl)) dX3_start_28 ⟨Nat.le_of_ble_eq_true rfl, Nat.le_of_ble_eq_true rfl⟩) (fun  P_5 H locs hw_4 hP hD hS => ?_)
      have hw_4 : P_5 = psStop (-3) P := hw_4
      have e_6 := hw_4
      clear hw_4
      have hP : va_P D vwCl [(h, .inr (3, [.ref h1, .ref h2, .int P_5.2.2.1, .int P_5.2.2.2.1, .int P_5.2.2.2.2])), (h1, .inl (cI, 2000, .inl P_5.1)), (h2, .inl (cI, 16000, .inl P_5.2.1))] H := hP
      have hD : va_D A [(h, .inr (3, [.ref h1, .ref h2, .int P_5.2.2.1, .int P_5.2.2.2.1, .int P_5.2.2.2.2])), (h1, .inl (cI, 2000, .inl P_5.1)), (h2, .inl (cI, 16000, .inl P_5.2.1))] := hD
      have hP9 := hP.sub (ws' := [(h, .inr (3, [.ref h1, .ref h2, .int P_5.2.2.1, .int P_5.2.2.2.1, .int P_5.2.2.2.2])), (h1, .inl (cI, 2000, .inl P_5.1)), (h2, .inl (cI, 16000, .inl P_5.2.1))]) [0, 1, 2] rfl
      have hD9 := hD.sub (ws' := [(h, .inr (3, [.ref h1, .ref h2, .int P_5.2.2.1, .int P_5.2.2.2.1, .int P_5.2.2.2.2])), (h1, .inl (cI, 2000, .inl P_5.1)), (h2, .inl (cI, 16000, .inl P_5.2.1))]) [0, 1, 2] (by decide) rfl
      exact hend P_5 _ _ _ _ dX3_start_31 hP9 hD9 hS (show P_5 = psStart k P from by (first | (simp only [psStart, ← e_6, c_1, c_2, ↓reduceIte, eq_self, not_true_eq_false, not_false_eq_true, and_true, true_and, and_false, false_and]; done) | (simp only [psStart, ← e_6]; simp only [psStart, ← e_6, c_1, c_2, ↓reduceIte, eq_self, not_true_eq_false, not_false_eq_true, and_true, true_and, and_false, false_and]; done) | (simp [psStart, ← e_6, c_1, c_2]; done)))
    · refine lv_aload_n hx hb dX3_start_15 rfl (lv_at hl 0 rfl) ?_
      refine va_get (ci := 3) (v := .int P.2.2.1) (C := RX3) (T := TX3) (N := 5) hx hb hts inX3 hown hK hP 0 rfl rfl 2 (by decide) (hts _ k_106) (fun _ h9 => h9) rfl dX3_start_16 ?_
      refine lv_sipush (v := 2000) hx hb dX3_start_19 (by decide) ?_
      refine lv_icmp_lt (tgt := 32) hx hb dX3_start_22 (by decide) (fun c_7 => ?_) (fun c_7 => ?_)
      · refine lv_aload_n hx hb dX3_start_32 rfl (lv_at hl 0 rfl) ?_
        refine va_get (ci := 3) (v := .ref h1) (C := RX3) (T := TX3) (N := 5) hx hb hts inX3 hown hK hP 0 rfl rfl 0 (by decide) (hts _ k_104) (fun _ h9 => h9) rfl dX3_start_33 ?_
        refine lv_aload_n hx hb dX3_start_36 rfl (lv_at hl 0 rfl) ?_
        refine va_get (ci := 3) (v := .int P.2.2.1) (C := RX3) (T := TX3) (N := 5) hx hb hts inX3 hown hK hP 0 rfl rfl 2 (by decide) (hts _ k_106) (fun _ h9 => h9) rfl dX3_start_37 ?_
        refine lv_iload_n hx hb dX3_start_40 rfl (lv_at hl 1 rfl) ?_
        refine va_iast hx hb hK hP hD hS 1 0 rfl rfl (sq_in (sq_lo1 c_2) (sq_hi2 (n := 2000) c_7 (by decide))) dX3_start_41 (fun H locs hP hD hS => ?_)
        have hP : va_P D vwCl [(h, .inr (3, [.ref h1, .ref h2, .int P.2.2.1, .int P.2.2.2.1, .int P.2.2.2.2])), (h1, .inl (cI, 2000, .inl (upd P.1 P.2.2.1.toNatClampNeg k))), (h2, .inl (cI, 16000, .inl P.2.1))] H := hP
        have hD : va_D A [(h, .inr (3, [.ref h1, .ref h2, .int P.2.2.1, .int P.2.2.2.1, .int P.2.2.2.2])), (h1, .inl (cI, 2000, .inl (upd P.1 P.2.2.1.toNatClampNeg k))), (h2, .inl (cI, 16000, .inl P.2.1))] := hD
        refine lv_aload_n hx hb dX3_start_42 rfl (lv_at hl 0 rfl) ?_
        refine lv_dup hx hb dX3_start_43 rfl ?_
        refine va_get (ci := 3) (v := .int P.2.2.1) (C := RX3) (T := TX3) (N := 5) hx hb hts inX3 hown hK hP 0 rfl rfl 2 (by decide) (hts _ k_106) (fun _ h9 => h9) rfl dX3_start_44 ?_
        refine lv_iconst (v := 1) hx hb dX3_start_47 (by decide) ?_
        refine lv_iadd hx hb dX3_start_48 ?_
        refine va_put (ci := 3) (v := .int (P.2.2.1 + 1)) (ty := .int) (C := RX3) (T := TX3) (N := 5) hx hb hts inX3 tyX3 tyX3_ok nmX3 hown hK hP hD hS 0 rfl rfl 2 (by decide) (hts _ k_106) (fun _ h9 => h9) rfl (by decide +kernel) rfl rfl (Nat.le_of_ble_eq_true rfl) dX3_start_49 (fun H locs hP hD hS => ?_)
        have hP : va_P D vwCl [(h, .inr (3, [.ref h1, .ref h2, .int (P.2.2.1 + 1), .int P.2.2.2.1, .int P.2.2.2.2])), (h1, .inl (cI, 2000, .inl (upd P.1 P.2.2.1.toNatClampNeg k))), (h2, .inl (cI, 16000, .inl P.2.1))] H := hP
        have hD : va_D A [(h, .inr (3, [.ref h1, .ref h2, .int (P.2.2.1 + 1), .int P.2.2.2.1, .int P.2.2.2.2])), (h1, .inl (cI, 2000, .inl (upd P.1 P.2.2.1.toNatClampNeg k))), (h2, .inl (cI, 16000, .inl P.2.1))] := hD
        refine lv_aload_n hx hb dX3_start_52 rfl (lv_at hl 0 rfl) ?_
        refine lv_iconst (v := 0) hx hb dX3_start_53 (by decide) ?_
        refine va_put (ci := 3) (v := .int 0) (ty := .int) (C := RX3) (T := TX3) (N := 5) hx hb hts inX3 tyX3 tyX3_ok nmX3 hown hK hP hD hS 0 rfl rfl 3 (by decide) (hts _ k_107) (fun _ h9 => h9) rfl (by decide +kernel) rfl rfl (Nat.le_of_ble_eq_true rfl) dX3_start_54 (fun H locs hP hD hS => ?_)
        have hP : va_P D vwCl [(h, .inr (3, [.ref h1, .ref h2, .int (P.2.2.1 + 1), .int 0, .int P.2.2.2.2])), (h1, .inl (cI, 2000, .inl (upd P.1 P.2.2.1.toNatClampNeg k))), (h2, .inl (cI, 16000, .inl P.2.1))] H := hP
        have hD : va_D A [(h, .inr (3, [.ref h1, .ref h2, .int (P.2.2.1 + 1), .int 0, .int P.2.2.2.2])), (h1, .inl (cI, 2000, .inl (upd P.1 P.2.2.1.toNatClampNeg k))), (h2, .inl (cI, 16000, .inl P.2.1))] := hD
        have hP9 := hP.sub (ws' := [(h, .inr (3, [.ref h1, .ref h2, .int (P.2.2.1 + 1), .int 0, .int P.2.2.2.2])), (h1, .inl (cI, 2000, .inl (upd P.1 P.2.2.1.toNatClampNeg k))), (h2, .inl (cI, 16000, .inl P.2.1))]) [0, 1, 2] rfl
        have hD9 := hD.sub (ws' := [(h, .inr (3, [.ref h1, .ref h2, .int (P.2.2.1 + 1), .int 0, .int P.2.2.2.2])), (h1, .inl (cI, 2000, .inl (upd P.1 P.2.2.1.toNatClampNeg k))), (h2, .inl (cI, 16000, .inl P.2.1))]) [0, 1, 2] (by decide) rfl
        have hP9 : va_P D vwCl [(h, .inr (3, [.ref h1, .ref h2, .int ((upd P.1 P.2.2.1.toNatClampNeg k, P.2.1, P.2.2.1 + 1, 0, P.2.2.2.2).2.2.1), .int ((upd P.1 P.2.2.1.toNatClampNeg k, P.2.1, P.2.2.1 + 1, 0, P.2.2.2.2).2.2.2.1), .int ((upd P.1 P.2.2.1.toNatClampNeg k, P.2.1, P.2.2.1 + 1, 0, P.2.2.2.2).2.2.2.2)])), (h1, .inl (cI, 2000, .inl ((upd P.1 P.2.2.1.toNatClampNeg k, P.2.1, P.2.2.1 + 1, 0, P.2.2.2.2).1))), (h2, .inl (cI, 16000, .inl ((upd P.1 P.2.2.1.toNatClampNeg k, P.2.1, P.2.2.1 + 1, 0, P.2.2.2.2).2.1)))] H := hP9
        have hD9 : va_D A [(h, .inr (3, [.ref h1, .ref h2, .int ((upd P.1 P.2.2.1.toNatClampNeg k, P.2.1, P.2.2.1 + 1, 0, P.2.2.2.2).2.2.1), .int ((upd P.1 P.2.2.1.toNatClampNeg k, P.2.1, P.2.2.1 + 1, 0, P.2.2.2.2).2.2.2.1), .int ((upd P.1 P.2.2.1.toNatClampNeg k, P.2.1, P.2.2.1 + 1, 0, P.2.2.2.2).2.2.2.2)])), (h1, .inl (cI, 2000, .inl ((upd P.1 P.2.2.1.toNatClampNeg k, P.2.1, P.2.2.1 + 1, 0, P.2.2.2.2).1))), (h2, .inl (cI, 16000, .inl ((upd P.1 P.2.2.1.toNatClampNeg k, P.2.1, P.2.2.1 + 1, 0, P.2.2.2.2).2.1)))] := hD9
        exact hend (upd P.1 P.2.2.1.toNatClampNeg k, P.2.1, P.2.2.1 + 1, 0, P.2.2.2.2) _ _ _ _ dX3_start_57 hP9 hD9 hS (show (upd P.1 P.2.2.1.toNatClampNeg k, P.2.1, P.2.2.1 + 1, 0, P.2.2.2.2) = psStart k P from by (first | (simp only [psStart, c_1, c_2, c_7, ↓reduceIte, eq_self, not_true_eq_false, not_false_eq_true, and_true, true_and, and_false, false_and]; done) | (simp [psStart, c_1, c_2, c_7]; done)))
      · refine lv_aload_n hx hb dX3_start_25 rfl (lv_at hl 0 rfl) ?_
        refine lv_bipush (v := (-3)) hx hb dX3_start_26 (by decide) ?_
        refine sq_gov (wc := [(h, .inr (3, [.ref h1, .ref h2, .int P.2.2.1, .int P.2.2.2.1, .int P.2.2.2.2])), (h1, .inl (cI, 2000, .inl P.1)), (h2, .inl (cI, 16000, .inl P.2.1))]) (wr := []) [0, 1, 2] [] hP hD hS hA rfl rfl (by decide) (by decide) (by decide) (fun hPc hDc => va_runV (As := [.int (-3)]) (rest := []) ⟨hx, hb, hml, hown, hts⟩ (c_X3_stop l D cI cZ cB cJ _ h h1 h2 P (-3) ) ⟨callB_of 1 hts (sq_gi k_414) rfl rfl rfl (hts _ k_5) (hts _ k_493) hdX3_stop ⟨Nat.le_of_ble_eq_true rfl, Nat.le_of_ble_eq_true rfl⟩, (hts _ k_412), (hts _ k_413)⟩ (sq_preV hPc hDc hK hN (q0 := 0) (ci := 3) rfl rfl) rfl rfl hl.1 rfl (lv_room (Nat.le_of_ble_eq_true rfl)) dX3_start_28 ⟨Nat.le_of_ble_eq_true rfl, Nat.le_of_ble_eq_true rfl⟩) (fun  P_10 H locs hw_9 hP hD hS => ?_)
        have hw_9 : P_10 = psStop (-3) P := hw_9
        have e_11 := hw_9
        clear hw_9
        have hP : va_P D vwCl [(h, .inr (3, [.ref h1, .ref h2, .int P_10.2.2.1, .int P_10.2.2.2.1, .int P_10.2.2.2.2])), (h1, .inl (cI, 2000, .inl P_10.1)), (h2, .inl (cI, 16000, .inl P_10.2.1))] H := hP
        have hD : va_D A [(h, .inr (3, [.ref h1, .ref h2, .int P_10.2.2.1, .int P_10.2.2.2.1, .int P_10.2.2.2.2])), (h1, .inl (cI, 2000, .inl P_10.1)), (h2, .inl (cI, 16000, .inl P_10.2.1))] := hD
        have hP9 := hP.sub (ws' := [(h, .inr (3, [.ref h1, .ref h2, .int P_10.2.2.1, .int P_10.2.2.2.1, .int P_10.2.2.2.2])), (h1, .inl (cI, 2000, .inl P_10.1)), (h2, .inl (cI, 16000, .inl P_10.2.1))]) [0, 1, 2] rfl
        have hD9 := hD.sub (ws' := [(h, .inr (3, [.ref h1, .ref h2, .int P_10.2.2.1, .int P_10.2.2.2.1, .int P_10.2.2.2.2])), (h1, .inl (cI, 2000, .inl P_10.1)), (h2, .inl (cI, 16000, .inl P_10.2.1))]) [0, 1, 2] (by decide) rfl
        exact hend P_10 _ _ _ _ dX3_start_31 hP9 hD9 hS (show P_10 = psStart k P from by (first | (simp only [psStart, ← e_11, c_1, c_2, c_7, ↓reduceIte, eq_self, not_true_eq_false, not_false_eq_true, and_true, true_and, and_false, false_and]; done) | (simp only [psStart, ← e_11]; simp only [psStart, ← e_11, c_1, c_2, c_7, ↓reduceIte, eq_self, not_true_eq_false, not_false_eq_true, and_true, true_and, and_false, false_and]; done) | (simp [psStart, ← e_11, c_1, c_2, c_7]; done)))
  · have hP9 := hP.sub (ws' := [(h, .inr (3, [.ref h1, .ref h2, .int P.2.2.1, .int P.2.2.2.1, .int P.2.2.2.2])), (h1, .inl (cI, 2000, .inl P.1)), (h2, .inl (cI, 16000, .inl P.2.1))]) [0, 1, 2] rfl
    have hD9 := hD.sub (ws' := [(h, .inr (3, [.ref h1, .ref h2, .int P.2.2.1, .int P.2.2.2.1, .int P.2.2.2.2])), (h1, .inl (cI, 2000, .inl P.1)), (h2, .inl (cI, 16000, .inl P.2.1))]) [0, 1, 2] (by decide) rfl
    exact hend P _ _ _ _ dX3_start_7 hP9 hD9 hS (show P = psStart k P from by (first | (simp only [psStart, c_1, ↓reduceIte, eq_self, not_true_eq_false, not_false_eq_true, and_true, true_and, and_false, false_and]; done) | (simp [psStart, c_1]; done)))

set_option maxHeartbeats 600000 in
set_option maxRecDepth 100000 in
theorem c_X3_add (l : Launch) (D : va_G) (cI cZ cB cJ : ClassId) (sz : Nat) (h : Nat) (h1 : Nat) (h2 : Nat) (P : PS) (px : Int64) (py : Int64) : sq_Mv l yX3_add wsX3_add { frames := 1, cells := 0, slots := 0, locals := 21 } D (sq_T cI cZ cB cJ) sz [.ref h, .long px, .long py] [(h, .inr (3, [.ref h1, .ref h2, .int P.2.2.1, .int P.2.2.2.1, .int P.2.2.2.2])), (h1, .inl (cI, 2000, .inl P.1)), (h2, .inl (cI, 16000, .inl P.2.1))] (fun (u1 : PS) => u1 = psAdd px py P) (fun (u1 : PS) => [(h, .inr (3, [.ref h1, .ref h2, .int u1.2.2.1, .int u1.2.2.2.1, .int u1.2.2.2.2])), (h1, .inl (cI, 2000, .inl u1.1)), (h2, .inl (cI, 16000, .inl u1.2.1))]) 0 0 := by
  refine sq_enterv cX3_add 6 (plainFor_of_name (by decide)) rfl (Nat.le_of_ble_eq_true rfl) ?_
  intro p e s m below meth c ls args A Q hargs hx hb hml hown hts hnm hN hP hK hD hA hS hl hend
  have hl : lv_has ls 6 [(0, .ref h), (1, .long px), (3, .long py)] := hl
  refine lv_aload_n hx hb dX3_add_0 rfl (lv_at hl 0 rfl) ?_
  refine va_get (ci := 3) (v := .int P.2.2.2.2) (C := RX3) (T := TX3) (N := 5) hx hb hts inX3 hown hK hP 0 rfl rfl 4 (by decide) (hts _ k_108) (fun _ h9 => h9) rfl dX3_add_1 ?_
  refine lv_if_eq (tgt := 8) hx hb dX3_add_4 (by decide) (fun c_1 => ?_) (fun c_1 => ?_)
  · refine lv_lload_n hx hb dX3_add_8 rfl (lv_at hl 1 rfl) ?_
    refine sq_goi (wc := []) (wr := [(h, .inr (3, [.ref h1, .ref h2, .int P.2.2.1, .int P.2.2.2.1, .int P.2.2.2.2])), (h1, .inl (cI, 2000, .inl P.1)), (h2, .inl (cI, 16000, .inl P.2.1))]) [] [0, 1, 2] hP hD hS hA rfl rfl (by decide) (by decide) (by decide) (fun hPc hDc => va_runSN (As := [.long px]) (rest := []) ⟨hx, hb, hml, hown, hts⟩ (c_X8_isPlace l D cI cZ cB cJ _ px ) ⟨va_cnB 1 hts (sq_gi k_281) rfl rfl rfl (va_Nw.of rfl (hN.at (args := args) 25 rfl)) (hts _ k_1) hdX8_isPlace ⟨Nat.le_of_ble_eq_true rfl, Nat.le_of_ble_eq_true rfl⟩, (hts _ k_280), trivial⟩ (sq_preS hPc hDc hK hN) rfl rfl hl.1 rfl (lv_room (Nat.le_of_ble_eq_true rfl)) dX3_add_9 ⟨Nat.le_of_ble_eq_true rfl, Nat.le_of_ble_eq_true rfl⟩) (fun r_2 u H locs hw_3 hP hD hS => ?_)
    have hw_3 : r_2 = kPlace px := hw_3
    have e_4 := hw_3
    clear hw_3
    subst e_4
    have hP : va_P D vwCl [(h, .inr (3, [.ref h1, .ref h2, .int P.2.2.1, .int P.2.2.2.1, .int P.2.2.2.2])), (h1, .inl (cI, 2000, .inl P.1)), (h2, .inl (cI, 16000, .inl P.2.1))] H := hP
    have hD : va_D A [(h, .inr (3, [.ref h1, .ref h2, .int P.2.2.1, .int P.2.2.2.1, .int P.2.2.2.2])), (h1, .inl (cI, 2000, .inl P.1)), (h2, .inl (cI, 16000, .inl P.2.1))] := hD
    refine lv_if_eq (tgt := 22) hx hb dX3_add_12 (by decide) (fun c_5 => ?_) (fun c_5 => ?_)
    · refine lv_aload_n hx hb dX3_add_22 rfl (lv_at hl 0 rfl) ?_
      refine lv_bipush (v := (-4)) hx hb dX3_add_23 (by decide) ?_
      refine sq_gov (wc := [(h, .inr (3, [.ref h1, .ref h2, .int P.2.2.1, .int P.2.2.2.1, .int P.2.2.2.2])), (h1, .inl (cI, 2000, .inl P.1)), (h2, .inl (cI, 16000, .inl P.2.1))]) (wr := []) [0, 1, 2] [] hP hD hS hA rfl rfl (by decide) (by decide) (by decide) (fun hPc hDc => va_runV (As := [.int (-4)]) (rest := []) ⟨hx, hb, hml, hown, hts⟩ (c_X3_stop l D cI cZ cB cJ _ h h1 h2 P (-4) ) ⟨callB_of 1 hts (sq_gi k_414) rfl rfl rfl (hts _ k_5) (hts _ k_493) hdX3_stop ⟨Nat.le_of_ble_eq_true rfl, Nat.le_of_ble_eq_true rfl⟩, (hts _ k_412), (hts _ k_413)⟩ (sq_preV hPc hDc hK hN (q0 := 0) (ci := 3) rfl rfl) rfl rfl hl.1 rfl (lv_room (Nat.le_of_ble_eq_true rfl)) dX3_add_25 ⟨Nat.le_of_ble_eq_true rfl, Nat.le_of_ble_eq_true rfl⟩) (fun  P_8 H locs hw_7 hP hD hS => ?_)
      have hw_7 : P_8 = psStop (-4) P := hw_7
      have e_9 := hw_7
      clear hw_7
      have hP : va_P D vwCl [(h, .inr (3, [.ref h1, .ref h2, .int P_8.2.2.1, .int P_8.2.2.2.1, .int P_8.2.2.2.2])), (h1, .inl (cI, 2000, .inl P_8.1)), (h2, .inl (cI, 16000, .inl P_8.2.1))] H := hP
      have hD : va_D A [(h, .inr (3, [.ref h1, .ref h2, .int P_8.2.2.1, .int P_8.2.2.2.1, .int P_8.2.2.2.2])), (h1, .inl (cI, 2000, .inl P_8.1)), (h2, .inl (cI, 16000, .inl P_8.2.1))] := hD
      have hP9 := hP.sub (ws' := [(h, .inr (3, [.ref h1, .ref h2, .int P_8.2.2.1, .int P_8.2.2.2.1, .int P_8.2.2.2.2])), (h1, .inl (cI, 2000, .inl P_8.1)), (h2, .inl (cI, 16000, .inl P_8.2.1))]) [0, 1, 2] rfl
      have hD9 := hD.sub (ws' := [(h, .inr (3, [.ref h1, .ref h2, .int P_8.2.2.1, .int P_8.2.2.2.1, .int P_8.2.2.2.2])), (h1, .inl (cI, 2000, .inl P_8.1)), (h2, .inl (cI, 16000, .inl P_8.2.1))]) [0, 1, 2] (by decide) rfl
      exact hend P_8 _ _ _ _ dX3_add_28 hP9 hD9 hS (show P_8 = psAdd px py P from by (first | (simp only [psAdd, psAt, ← e_9, c_1, c_5, ↓reduceIte, eq_self, not_true_eq_false, not_false_eq_true, and_true, true_and, and_false, false_and]; done) | (simp only [psAdd, psAt, ← e_9]; simp only [psAdd, psAt, ← e_9, c_1, c_5, ↓reduceIte, eq_self, not_true_eq_false, not_false_eq_true, and_true, true_and, and_false, false_and]; done) | (simp [psAdd, psAt, ← e_9, c_1, c_5]; done)))
    · refine lv_lload_n hx hb dX3_add_15 rfl (lv_at hl 2 rfl) ?_
      refine sq_goi (wc := []) (wr := [(h, .inr (3, [.ref h1, .ref h2, .int P.2.2.1, .int P.2.2.2.1, .int P.2.2.2.2])), (h1, .inl (cI, 2000, .inl P.1)), (h2, .inl (cI, 16000, .inl P.2.1))]) [] [0, 1, 2] hP hD hS hA rfl rfl (by decide) (by decide) (by decide) (fun hPc hDc => va_runSN (As := [.long py]) (rest := []) ⟨hx, hb, hml, hown, hts⟩ (c_X8_isPlace l D cI cZ cB cJ _ py ) ⟨va_cnB 1 hts (sq_gi k_281) rfl rfl rfl (va_Nw.of rfl (hN.at (args := args) 25 rfl)) (hts _ k_1) hdX8_isPlace ⟨Nat.le_of_ble_eq_true rfl, Nat.le_of_ble_eq_true rfl⟩, (hts _ k_280), trivial⟩ (sq_preS hPc hDc hK hN) rfl rfl hl.1 rfl (lv_room (Nat.le_of_ble_eq_true rfl)) dX3_add_16 ⟨Nat.le_of_ble_eq_true rfl, Nat.le_of_ble_eq_true rfl⟩) (fun r_10 u H locs hw_11 hP hD hS => ?_)
      have hw_11 : r_10 = kPlace py := hw_11
      have e_12 := hw_11
      clear hw_11
      subst e_12
      have hP : va_P D vwCl [(h, .inr (3, [.ref h1, .ref h2, .int P.2.2.1, .int P.2.2.2.1, .int P.2.2.2.2])), (h1, .inl (cI, 2000, .inl P.1)), (h2, .inl (cI, 16000, .inl P.2.1))] H := hP
      have hD : va_D A [(h, .inr (3, [.ref h1, .ref h2, .int P.2.2.1, .int P.2.2.2.1, .int P.2.2.2.2])), (h1, .inl (cI, 2000, .inl P.1)), (h2, .inl (cI, 16000, .inl P.2.1))] := hD
      refine lv_if_ne (tgt := 29) hx hb dX3_add_19 (by decide) (fun c_13 => ?_) (fun c_13 => ?_)
      · refine lv_aload_n hx hb dX3_add_29 rfl (lv_at hl 0 rfl) ?_
        refine va_get (ci := 3) (v := .int P.2.2.1) (C := RX3) (T := TX3) (N := 5) hx hb hts inX3 hown hK hP 0 rfl rfl 2 (by decide) (hts _ k_106) (fun _ h9 => h9) rfl dX3_add_30 ?_
        refine lv_iconst (v := 1) hx hb dX3_add_33 (by decide) ?_
        refine lv_isub hx hb dX3_add_34 ?_
        refine lv_bipush (v := 8) hx hb dX3_add_35 (by decide) ?_
        refine lv_imul hx hb dX3_add_37 ?_
        refine lv_iconst (v := 2) hx hb dX3_add_38 (by decide) ?_
        refine lv_aload_n hx hb dX3_add_39 rfl (lv_at hl 0 rfl) ?_
        refine va_get (ci := 3) (v := .int P.2.2.2.1) (C := RX3) (T := TX3) (N := 5) hx hb hts inX3 hown hK hP 0 rfl rfl 3 (by decide) (hts _ k_107) (fun _ h9 => h9) rfl dX3_add_40 ?_
        refine lv_imul hx hb dX3_add_43 ?_
        refine lv_iadd hx hb dX3_add_44 ?_
        refine lv_istore (lv' := [(5, .int (((P.2.2.1 - 1) * 8) + (2 * P.2.2.2.1))), (0, .ref h), (1, .long px), (3, .long py)]) hx hb dX3_add_45 hl (by decide) rfl (fun ls hl => ?_)
        refine lv_iload hx hb dX3_add_47 (lv_at hl 0 rfl) ?_
        refine lv_if_lt (tgt := 72) hx hb dX3_add_49 (by decide) (fun c_14 => ?_) (fun c_14 => ?_)
        · have hP9 := hP.sub (ws' := [(h, .inr (3, [.ref h1, .ref h2, .int P.2.2.1, .int P.2.2.2.1, .int P.2.2.2.2])), (h1, .inl (cI, 2000, .inl P.1)), (h2, .inl (cI, 16000, .inl P.2.1))]) [0, 1, 2] rfl
          have hD9 := hD.sub (ws' := [(h, .inr (3, [.ref h1, .ref h2, .int P.2.2.1, .int P.2.2.2.1, .int P.2.2.2.2])), (h1, .inl (cI, 2000, .inl P.1)), (h2, .inl (cI, 16000, .inl P.2.1))]) [0, 1, 2] (by decide) rfl
          exact hend P _ _ _ _ dX3_add_72 hP9 hD9 hS (show P = psAdd px py P from by (first | (simp only [psAdd, psAt, c_1, c_5, c_13, c_14, ↓reduceIte, eq_self, not_true_eq_false, not_false_eq_true, and_true, true_and, and_false, false_and]; done) | (simp [psAdd, psAt, c_1, c_5, c_13, c_14]; done)))
        · refine lv_iload hx hb dX3_add_52 (lv_at hl 0 rfl) ?_
          refine lv_iconst (v := 1) hx hb dX3_add_54 (by decide) ?_
          refine lv_iadd hx hb dX3_add_55 ?_
          refine lv_aload_n hx hb dX3_add_56 rfl (lv_at hl 1 rfl) ?_
          refine va_get (ci := 3) (v := .ref h2) (C := RX3) (T := TX3) (N := 5) hx hb hts inX3 hown hK hP 0 rfl rfl 1 (by decide) (hts _ k_105) (fun _ h9 => h9) rfl dX3_add_57 ?_
          refine va_alen hx hb hK hP 2 0 rfl rfl (v := 16000) rfl dX3_add_60 ?_
          refine lv_icmp_ge (tgt := 72) hx hb dX3_add_61 (by decide) (fun c_15 => ?_) (fun c_15 => ?_)
          · have hP9 := hP.sub (ws' := [(h, .inr (3, [.ref h1, .ref h2, .int P.2.2.1, .int P.2.2.2.1, .int P.2.2.2.2])), (h1, .inl (cI, 2000, .inl P.1)), (h2, .inl (cI, 16000, .inl P.2.1))]) [0, 1, 2] rfl
            have hD9 := hD.sub (ws' := [(h, .inr (3, [.ref h1, .ref h2, .int P.2.2.1, .int P.2.2.2.1, .int P.2.2.2.2])), (h1, .inl (cI, 2000, .inl P.1)), (h2, .inl (cI, 16000, .inl P.2.1))]) [0, 1, 2] (by decide) rfl
            exact hend P _ _ _ _ dX3_add_72 hP9 hD9 hS (show P = psAdd px py P from by (first | (simp only [psAdd, psAt, c_1, c_5, c_13, c_14, c_15, ↓reduceIte, eq_self, not_true_eq_false, not_false_eq_true, and_true, true_and, and_false, false_and]; done) | (simp [psAdd, psAt, c_1, c_5, c_13, c_14, c_15]; done)))
          · refine lv_aload_n hx hb dX3_add_64 rfl (lv_at hl 1 rfl) ?_
            refine va_get (ci := 3) (v := .int P.2.2.2.1) (C := RX3) (T := TX3) (N := 5) hx hb hts inX3 hown hK hP 0 rfl rfl 3 (by decide) (hts _ k_107) (fun _ h9 => h9) rfl dX3_add_65 ?_
            refine lv_iconst (v := 4) hx hb dX3_add_68 (by decide) ?_
            refine lv_icmp_lt (tgt := 73) hx hb dX3_add_69 (by decide) (fun c_16 => ?_) (fun c_16 => ?_)
            · refine lv_aload_n hx hb dX3_add_73 rfl (lv_at hl 1 rfl) ?_
              refine va_get (ci := 3) (v := .ref h2) (C := RX3) (T := TX3) (N := 5) hx hb hts inX3 hown hK hP 0 rfl rfl 1 (by decide) (hts _ k_105) (fun _ h9 => h9) rfl dX3_add_74 ?_
              refine lv_iload hx hb dX3_add_77 (lv_at hl 0 rfl) ?_
              refine lv_lload_n hx hb dX3_add_79 rfl (lv_at hl 2 rfl) ?_
              refine lv_l2i hx hb dX3_add_80 rfl ?_
              refine va_iast hx hb hK hP hD hS 2 0 rfl rfl (sq_in (sq_lo1 (by assumption)) (by have h9 := sq_hi1 (n := 16000) (by assumption) (by decide); exact sq_p1 (sq_lo1 (by assumption)) (psAt_even P) h9)) dX3_add_81 (fun H locs hP hD hS => ?_)
              have hP : va_P D vwCl [(h, .inr (3, [.ref h1, .ref h2, .int P.2.2.1, .int P.2.2.2.1, .int P.2.2.2.2])), (h1, .inl (cI, 2000, .inl P.1)), (h2, .inl (cI, 16000, .inl (upd P.2.1 (((P.2.2.1 - 1) * 8) + (2 * P.2.2.2.1)).toNatClampNeg px.toInt32)))] H := hP
              have hD : va_D A [(h, .inr (3, [.ref h1, .ref h2, .int P.2.2.1, .int P.2.2.2.1, .int P.2.2.2.2])), (h1, .inl (cI, 2000, .inl P.1)), (h2, .inl (cI, 16000, .inl (upd P.2.1 (((P.2.2.1 - 1) * 8) + (2 * P.2.2.2.1)).toNatClampNeg px.toInt32)))] := hD
              refine lv_aload_n hx hb dX3_add_82 rfl (lv_at hl 1 rfl) ?_
              refine va_get (ci := 3) (v := .ref h2) (C := RX3) (T := TX3) (N := 5) hx hb hts inX3 hown hK hP 0 rfl rfl 1 (by decide) (hts _ k_105) (fun _ h9 => h9) rfl dX3_add_83 ?_
              refine lv_iload hx hb dX3_add_86 (lv_at hl 0 rfl) ?_
              refine lv_iconst (v := 1) hx hb dX3_add_88 (by decide) ?_
              refine lv_iadd hx hb dX3_add_89 ?_
              refine lv_lload_n hx hb dX3_add_90 rfl (lv_at hl 3 rfl) ?_
              refine lv_l2i hx hb dX3_add_91 rfl ?_
              refine va_iast hx hb hK hP hD hS 2 0 rfl rfl (sq_in (sq_p2 (sq_lo1 (by assumption)) (psAt_even P)) (sq_hi1 (n := 16000) (by assumption) (by decide))) dX3_add_92 (fun H locs hP hD hS => ?_)
              have hP : va_P D vwCl [(h, .inr (3, [.ref h1, .ref h2, .int P.2.2.1, .int P.2.2.2.1, .int P.2.2.2.2])), (h1, .inl (cI, 2000, .inl P.1)), (h2, .inl (cI, 16000, .inl (upd (upd P.2.1 (((P.2.2.1 - 1) * 8) + (2 * P.2.2.2.1)).toNatClampNeg px.toInt32) ((((P.2.2.1 - 1) * 8) + (2 * P.2.2.2.1)) + 1).toNatClampNeg py.toInt32)))] H := hP
              have hD : va_D A [(h, .inr (3, [.ref h1, .ref h2, .int P.2.2.1, .int P.2.2.2.1, .int P.2.2.2.2])), (h1, .inl (cI, 2000, .inl P.1)), (h2, .inl (cI, 16000, .inl (upd (upd P.2.1 (((P.2.2.1 - 1) * 8) + (2 * P.2.2.2.1)).toNatClampNeg px.toInt32) ((((P.2.2.1 - 1) * 8) + (2 * P.2.2.2.1)) + 1).toNatClampNeg py.toInt32)))] := hD
              refine lv_aload_n hx hb dX3_add_93 rfl (lv_at hl 1 rfl) ?_
              refine lv_dup hx hb dX3_add_94 rfl ?_
              refine va_get (ci := 3) (v := .int P.2.2.2.1) (C := RX3) (T := TX3) (N := 5) hx hb hts inX3 hown hK hP 0 rfl rfl 3 (by decide) (hts _ k_107) (fun _ h9 => h9) rfl dX3_add_95 ?_
              refine lv_iconst (v := 1) hx hb dX3_add_98 (by decide) ?_
              refine lv_iadd hx hb dX3_add_99 ?_
              refine va_put (ci := 3) (v := .int (P.2.2.2.1 + 1)) (ty := .int) (C := RX3) (T := TX3) (N := 5) hx hb hts inX3 tyX3 tyX3_ok nmX3 hown hK hP hD hS 0 rfl rfl 3 (by decide) (hts _ k_107) (fun _ h9 => h9) rfl (by decide +kernel) rfl rfl (Nat.le_of_ble_eq_true rfl) dX3_add_100 (fun H locs hP hD hS => ?_)
              have hP : va_P D vwCl [(h, .inr (3, [.ref h1, .ref h2, .int P.2.2.1, .int (P.2.2.2.1 + 1), .int P.2.2.2.2])), (h1, .inl (cI, 2000, .inl P.1)), (h2, .inl (cI, 16000, .inl (upd (upd P.2.1 (((P.2.2.1 - 1) * 8) + (2 * P.2.2.2.1)).toNatClampNeg px.toInt32) ((((P.2.2.1 - 1) * 8) + (2 * P.2.2.2.1)) + 1).toNatClampNeg py.toInt32)))] H := hP
              have hD : va_D A [(h, .inr (3, [.ref h1, .ref h2, .int P.2.2.1, .int (P.2.2.2.1 + 1), .int P.2.2.2.2])), (h1, .inl (cI, 2000, .inl P.1)), (h2, .inl (cI, 16000, .inl (upd (upd P.2.1 (((P.2.2.1 - 1) * 8) + (2 * P.2.2.2.1)).toNatClampNeg px.toInt32) ((((P.2.2.1 - 1) * 8) + (2 * P.2.2.2.1)) + 1).toNatClampNeg py.toInt32)))] := hD
              have hP9 := hP.sub (ws' := [(h, .inr (3, [.ref h1, .ref h2, .int P.2.2.1, .int (P.2.2.2.1 + 1), .int P.2.2.2.2])), (h1, .inl (cI, 2000, .inl P.1)), (h2, .inl (cI, 16000, .inl (upd (upd P.2.1 (((P.2.2.1 - 1) * 8) + (2 * P.2.2.2.1)).toNatClampNeg px.toInt32) ((((P.2.2.1 - 1) * 8) + (2 * P.2.2.2.1)) + 1).toNatClampNeg py.toInt32)))]) [0, 1, 2] rfl
              have hD9 := hD.sub (ws' := [(h, .inr (3, [.ref h1, .ref h2, .int P.2.2.1, .int (P.2.2.2.1 + 1), .int P.2.2.2.2])), (h1, .inl (cI, 2000, .inl P.1)), (h2, .inl (cI, 16000, .inl (upd (upd P.2.1 (((P.2.2.1 - 1) * 8) + (2 * P.2.2.2.1)).toNatClampNeg px.toInt32) ((((P.2.2.1 - 1) * 8) + (2 * P.2.2.2.1)) + 1).toNatClampNeg py.toInt32)))]) [0, 1, 2] (by decide) rfl
              have hP9 : va_P D vwCl [(h, .inr (3, [.ref h1, .ref h2, .int ((P.1, upd (upd P.2.1 (((P.2.2.1 - 1) * 8) + (2 * P.2.2.2.1)).toNatClampNeg px.toInt32) ((((P.2.2.1 - 1) * 8) + (2 * P.2.2.2.1)) + 1).toNatClampNeg py.toInt32, P.2.2.1, P.2.2.2.1 + 1, P.2.2.2.2).2.2.1), .int ((P.1, upd (upd P.2.1 (((P.2.2.1 - 1) * 8) + (2 * P.2.2.2.1)).toNatClampNeg px.toInt32) ((((P.2.2.1 - 1) * 8) + (2 * P.2.2.2.1)) + 1).toNatClampNeg py.toInt32, P.2.2.1, P.2.2.2.1 + 1, P.2.2.2.2).2.2.2.1), .int ((P.1, upd (upd P.2.1 (((P.2.2.1 - 1) * 8) + (2 * P.2.2.2.1)).toNatClampNeg px.toInt32) ((((P.2.2.1 - 1) * 8) + (2 * P.2.2.2.1)) + 1).toNatClampNeg py.toInt32, P.2.2.1, P.2.2.2.1 + 1, P.2.2.2.2).2.2.2.2)])), (h1, .inl (cI, 2000, .inl ((P.1, upd (upd P.2.1 (((P.2.2.1 - 1) * 8) + (2 * P.2.2.2.1)).toNatClampNeg px.toInt32) ((((P.2.2.1 - 1) * 8) + (2 * P.2.2.2.1)) + 1).toNatClampNeg py.toInt32, P.2.2.1, P.2.2.2.1 + 1, P.2.2.2.2).1))), (h2, .inl (cI, 16000, .inl ((P.1, upd (upd P.2.1 (((P.2.2.1 - 1) * 8) + (2 * P.2.2.2.1)).toNatClampNeg px.toInt32) ((((P.2.2.1 - 1) * 8) + (2 * P.2.2.2.1)) + 1).toNatClampNeg py.toInt32, P.2.2.1, P.2.2.2.1 + 1, P.2.2.2.2).2.1)))] H := hP9
              have hD9 : va_D A [(h, .inr (3, [.ref h1, .ref h2, .int ((P.1, upd (upd P.2.1 (((P.2.2.1 - 1) * 8) + (2 * P.2.2.2.1)).toNatClampNeg px.toInt32) ((((P.2.2.1 - 1) * 8) + (2 * P.2.2.2.1)) + 1).toNatClampNeg py.toInt32, P.2.2.1, P.2.2.2.1 + 1, P.2.2.2.2).2.2.1), .int ((P.1, upd (upd P.2.1 (((P.2.2.1 - 1) * 8) + (2 * P.2.2.2.1)).toNatClampNeg px.toInt32) ((((P.2.2.1 - 1) * 8) + (2 * P.2.2.2.1)) + 1).toNatClampNeg py.toInt32, P.2.2.1, P.2.2.2.1 + 1, P.2.2.2.2).2.2.2.1), .int ((P.1, upd (upd P.2.1 (((P.2.2.1 - 1) * 8) + (2 * P.2.2.2.1)).toNatClampNeg px.toInt32) ((((P.2.2.1 - 1) * 8) + (2 * P.2.2.2.1)) + 1).toNatClampNeg py.toInt32, P.2.2.1, P.2.2.2.1 + 1, P.2.2.2.2).2.2.2.2)])), (h1, .inl (cI, 2000, .inl ((P.1, upd (upd P.2.1 (((P.2.2.1 - 1) * 8) + (2 * P.2.2.2.1)).toNatClampNeg px.toInt32) ((((P.2.2.1 - 1) * 8) + (2 * P.2.2.2.1)) + 1).toNatClampNeg py.toInt32, P.2.2.1, P.2.2.2.1 + 1, P.2.2.2.2).1))), (h2, .inl (cI, 16000, .inl ((P.1, upd (upd P.2.1 (((P.2.2.1 - 1) * 8) + (2 * P.2.2.2.1)).toNatClampNeg px.toInt32) ((((P.2.2.1 - 1) * 8) + (2 * P.2.2.2.1)) + 1).toNatClampNeg py.toInt32, P.2.2.1, P.2.2.2.1 + 1, P.2.2.2.2).2.1)))] := hD9
              exact hend (P.1, upd (upd P.2.1 (((P.2.2.1 - 1) * 8) + (2 * P.2.2.2.1)).toNatClampNeg px.toInt32) ((((P.2.2.1 - 1) * 8) + (2 * P.2.2.2.1)) + 1).toNatClampNeg py.toInt32, P.2.2.1, P.2.2.2.1 + 1, P.2.2.2.2) _ _ _ _ dX3_add_103 hP9 hD9 hS (show (P.1, upd (upd P.2.1 (((P.2.2.1 - 1) * 8) + (2 * P.2.2.2.1)).toNatClampNeg px.toInt32) ((((P.2.2.1 - 1) * 8) + (2 * P.2.2.2.1)) + 1).toNatClampNeg py.toInt32, P.2.2.1, P.2.2.2.1 + 1, P.2.2.2.2) = psAdd px py P from by (first | (simp only [psAdd, psAt, c_1, c_5, c_13, c_14, c_15, c_16, ↓reduceIte, eq_self, not_true_eq_false, not_false_eq_true, and_true, true_and, and_false, false_and]; done) | (simp [psAdd, psAt, c_1, c_5, c_13, c_14, c_15, c_16]; done)))
            · have hP9 := hP.sub (ws' := [(h, .inr (3, [.ref h1, .ref h2, .int P.2.2.1, .int P.2.2.2.1, .int P.2.2.2.2])), (h1, .inl (cI, 2000, .inl P.1)), (h2, .inl (cI, 16000, .inl P.2.1))]) [0, 1, 2] rfl
              have hD9 := hD.sub (ws' := [(h, .inr (3, [.ref h1, .ref h2, .int P.2.2.1, .int P.2.2.2.1, .int P.2.2.2.2])), (h1, .inl (cI, 2000, .inl P.1)), (h2, .inl (cI, 16000, .inl P.2.1))]) [0, 1, 2] (by decide) rfl
              exact hend P _ _ _ _ dX3_add_72 hP9 hD9 hS (show P = psAdd px py P from by (first | (simp only [psAdd, psAt, c_1, c_5, c_13, c_14, c_15, c_16, ↓reduceIte, eq_self, not_true_eq_false, not_false_eq_true, and_true, true_and, and_false, false_and]; done) | (simp [psAdd, psAt, c_1, c_5, c_13, c_14, c_15, c_16]; done)))
      · refine lv_aload_n hx hb dX3_add_22 rfl (lv_at hl 0 rfl) ?_
        refine lv_bipush (v := (-4)) hx hb dX3_add_23 (by decide) ?_
        refine sq_gov (wc := [(h, .inr (3, [.ref h1, .ref h2, .int P.2.2.1, .int P.2.2.2.1, .int P.2.2.2.2])), (h1, .inl (cI, 2000, .inl P.1)), (h2, .inl (cI, 16000, .inl P.2.1))]) (wr := []) [0, 1, 2] [] hP hD hS hA rfl rfl (by decide) (by decide) (by decide) (fun hPc hDc => va_runV (As := [.int (-4)]) (rest := []) ⟨hx, hb, hml, hown, hts⟩ (c_X3_stop l D cI cZ cB cJ _ h h1 h2 P (-4) ) ⟨callB_of 1 hts (sq_gi k_414) rfl rfl rfl (hts _ k_5) (hts _ k_493) hdX3_stop ⟨Nat.le_of_ble_eq_true rfl, Nat.le_of_ble_eq_true rfl⟩, (hts _ k_412), (hts _ k_413)⟩ (sq_preV hPc hDc hK hN (q0 := 0) (ci := 3) rfl rfl) rfl rfl hl.1 rfl (lv_room (Nat.le_of_ble_eq_true rfl)) dX3_add_25 ⟨Nat.le_of_ble_eq_true rfl, Nat.le_of_ble_eq_true rfl⟩) (fun  P_19 H locs hw_18 hP hD hS => ?_)
        have hw_18 : P_19 = psStop (-4) P := hw_18
        have e_20 := hw_18
        clear hw_18
        have hP : va_P D vwCl [(h, .inr (3, [.ref h1, .ref h2, .int P_19.2.2.1, .int P_19.2.2.2.1, .int P_19.2.2.2.2])), (h1, .inl (cI, 2000, .inl P_19.1)), (h2, .inl (cI, 16000, .inl P_19.2.1))] H := hP
        have hD : va_D A [(h, .inr (3, [.ref h1, .ref h2, .int P_19.2.2.1, .int P_19.2.2.2.1, .int P_19.2.2.2.2])), (h1, .inl (cI, 2000, .inl P_19.1)), (h2, .inl (cI, 16000, .inl P_19.2.1))] := hD
        have hP9 := hP.sub (ws' := [(h, .inr (3, [.ref h1, .ref h2, .int P_19.2.2.1, .int P_19.2.2.2.1, .int P_19.2.2.2.2])), (h1, .inl (cI, 2000, .inl P_19.1)), (h2, .inl (cI, 16000, .inl P_19.2.1))]) [0, 1, 2] rfl
        have hD9 := hD.sub (ws' := [(h, .inr (3, [.ref h1, .ref h2, .int P_19.2.2.1, .int P_19.2.2.2.1, .int P_19.2.2.2.2])), (h1, .inl (cI, 2000, .inl P_19.1)), (h2, .inl (cI, 16000, .inl P_19.2.1))]) [0, 1, 2] (by decide) rfl
        exact hend P_19 _ _ _ _ dX3_add_28 hP9 hD9 hS (show P_19 = psAdd px py P from by (first | (simp only [psAdd, psAt, ← e_20, c_1, c_5, c_13, ↓reduceIte, eq_self, not_true_eq_false, not_false_eq_true, and_true, true_and, and_false, false_and]; done) | (simp only [psAdd, psAt, ← e_20]; simp only [psAdd, psAt, ← e_20, c_1, c_5, c_13, ↓reduceIte, eq_self, not_true_eq_false, not_false_eq_true, and_true, true_and, and_false, false_and]; done) | (simp [psAdd, psAt, ← e_20, c_1, c_5, c_13]; done)))
  · have hP9 := hP.sub (ws' := [(h, .inr (3, [.ref h1, .ref h2, .int P.2.2.1, .int P.2.2.2.1, .int P.2.2.2.2])), (h1, .inl (cI, 2000, .inl P.1)), (h2, .inl (cI, 16000, .inl P.2.1))]) [0, 1, 2] rfl
    have hD9 := hD.sub (ws' := [(h, .inr (3, [.ref h1, .ref h2, .int P.2.2.1, .int P.2.2.2.1, .int P.2.2.2.2])), (h1, .inl (cI, 2000, .inl P.1)), (h2, .inl (cI, 16000, .inl P.2.1))]) [0, 1, 2] (by decide) rfl
    exact hend P _ _ _ _ dX3_add_7 hP9 hD9 hS (show P = psAdd px py P from by (first | (simp only [psAdd, psAt, c_1, ↓reduceIte, eq_self, not_true_eq_false, not_false_eq_true, and_true, true_and, and_false, false_and]; done) | (simp [psAdd, psAt, c_1]; done)))

set_option maxHeartbeats 600000 in
set_option maxRecDepth 100000 in
theorem c_X3_kindOf (l : Launch) (D : va_G) (cI cZ cB cJ : ClassId) (sz : Nat) (h : Nat) (h1 : Nat) (h2 : Nat) (P : PS) (i : Int32) : sq_Mi l yX3_kindOf wsX3_kindOf { frames := 0, cells := 0, slots := 0, locals := 0 } D (sq_T cI cZ cB cJ) sz [.ref h, .int i] [(h, .inr (3, [.ref h1, .ref h2, .int P.2.2.1, .int P.2.2.2.1, .int P.2.2.2.2])), (h1, .inl (cI, 2000, .inl P.1)), (h2, .inl (cI, 16000, .inl P.2.1))] (fun (v9 : Int32) => (fun (_ : Unit) => v9 = psKind i P)) (fun (_ : Unit) => [(h, .inr (3, [.ref h1, .ref h2, .int P.2.2.1, .int P.2.2.2.1, .int P.2.2.2.2])), (h1, .inl (cI, 2000, .inl P.1)), (h2, .inl (cI, 16000, .inl P.2.1))]) 0 0 := by
  refine sq_enteri cX3_kindOf 2 (plainFor_of_name (by decide)) rfl (Nat.le_of_ble_eq_true rfl) ?_
  intro p e s m below meth c ls args A Q hargs hx hb hml hown hts hnm hN hP hK hD hA hS hl hend
  have hl : lv_has ls 2 [(0, .ref h), (1, .int i)] := hl
  refine lv_iload_n hx hb dX3_kindOf_0 rfl (lv_at hl 1 rfl) ?_
  refine lv_if_lt (tgt := 28) hx hb dX3_kindOf_1 (by decide) (fun c_1 => ?_) (fun c_1 => ?_)
  · refine lv_iconst (v := (-1)) hx hb dX3_kindOf_28 (by decide) ?_
    have hP9 := hP.sub (ws' := [(h, .inr (3, [.ref h1, .ref h2, .int P.2.2.1, .int P.2.2.2.1, .int P.2.2.2.2])), (h1, .inl (cI, 2000, .inl P.1)), (h2, .inl (cI, 16000, .inl P.2.1))]) [0, 1, 2] rfl
    have hD9 := hD.sub (ws' := [(h, .inr (3, [.ref h1, .ref h2, .int P.2.2.1, .int P.2.2.2.1, .int P.2.2.2.2])), (h1, .inl (cI, 2000, .inl P.1)), (h2, .inl (cI, 16000, .inl P.2.1))]) [0, 1, 2] (by decide) rfl
    exact hend () (-1) _ _ _ _ dX3_kindOf_29 hP9 hD9 hS (show (-1) = (psKind i P) from by (first | (simp only [psKind, c_1, ↓reduceIte, eq_self, not_true_eq_false, not_false_eq_true, and_true, true_and, and_false, false_and]; done) | (simp [psKind, c_1]; done)))
  · refine lv_iload_n hx hb dX3_kindOf_4 rfl (lv_at hl 1 rfl) ?_
    refine lv_aload_n hx hb dX3_kindOf_5 rfl (lv_at hl 0 rfl) ?_
    refine va_get (ci := 3) (v := .int P.2.2.1) (C := RX3) (T := TX3) (N := 5) hx hb hts inX3 hown hK hP 0 rfl rfl 2 (by decide) (hts _ k_106) (fun _ h9 => h9) rfl dX3_kindOf_6 ?_
    refine lv_icmp_ge (tgt := 28) hx hb dX3_kindOf_9 (by decide) (fun c_2 => ?_) (fun c_2 => ?_)
    · refine lv_iconst (v := (-1)) hx hb dX3_kindOf_28 (by decide) ?_
      have hP9 := hP.sub (ws' := [(h, .inr (3, [.ref h1, .ref h2, .int P.2.2.1, .int P.2.2.2.1, .int P.2.2.2.2])), (h1, .inl (cI, 2000, .inl P.1)), (h2, .inl (cI, 16000, .inl P.2.1))]) [0, 1, 2] rfl
      have hD9 := hD.sub (ws' := [(h, .inr (3, [.ref h1, .ref h2, .int P.2.2.1, .int P.2.2.2.1, .int P.2.2.2.2])), (h1, .inl (cI, 2000, .inl P.1)), (h2, .inl (cI, 16000, .inl P.2.1))]) [0, 1, 2] (by decide) rfl
      exact hend () (-1) _ _ _ _ dX3_kindOf_29 hP9 hD9 hS (show (-1) = (psKind i P) from by (first | (simp only [psKind, c_1, c_2, ↓reduceIte, eq_self, not_true_eq_false, not_false_eq_true, and_true, true_and, and_false, false_and]; done) | (simp [psKind, c_1, c_2]; done)))
    · refine lv_iload_n hx hb dX3_kindOf_12 rfl (lv_at hl 1 rfl) ?_
      refine lv_sipush (v := 2000) hx hb dX3_kindOf_13 (by decide) ?_
      refine lv_icmp_ge (tgt := 28) hx hb dX3_kindOf_16 (by decide) (fun c_3 => ?_) (fun c_3 => ?_)
      · refine lv_iconst (v := (-1)) hx hb dX3_kindOf_28 (by decide) ?_
        have hP9 := hP.sub (ws' := [(h, .inr (3, [.ref h1, .ref h2, .int P.2.2.1, .int P.2.2.2.1, .int P.2.2.2.2])), (h1, .inl (cI, 2000, .inl P.1)), (h2, .inl (cI, 16000, .inl P.2.1))]) [0, 1, 2] rfl
        have hD9 := hD.sub (ws' := [(h, .inr (3, [.ref h1, .ref h2, .int P.2.2.1, .int P.2.2.2.1, .int P.2.2.2.2])), (h1, .inl (cI, 2000, .inl P.1)), (h2, .inl (cI, 16000, .inl P.2.1))]) [0, 1, 2] (by decide) rfl
        exact hend () (-1) _ _ _ _ dX3_kindOf_29 hP9 hD9 hS (show (-1) = (psKind i P) from by (first | (simp only [psKind, c_1, c_2, c_3, ↓reduceIte, eq_self, not_true_eq_false, not_false_eq_true, and_true, true_and, and_false, false_and]; done) | (simp [psKind, c_1, c_2, c_3]; done)))
      · refine lv_aload_n hx hb dX3_kindOf_19 rfl (lv_at hl 0 rfl) ?_
        refine va_get (ci := 3) (v := .ref h1) (C := RX3) (T := TX3) (N := 5) hx hb hts inX3 hown hK hP 0 rfl rfl 0 (by decide) (hts _ k_104) (fun _ h9 => h9) rfl dX3_kindOf_20 ?_
        refine lv_iload_n hx hb dX3_kindOf_23 rfl (lv_at hl 1 rfl) ?_
        refine va_iald hx hb hK hP 1 0 rfl rfl (sq_in (sq_lo1 c_1) (sq_hi1 (n := 2000) c_3 (by decide))) dX3_kindOf_24 ?_
        refine lv_goto (tgt := 29) hx hb dX3_kindOf_25 (by decide) ?_
        have hP9 := hP.sub (ws' := [(h, .inr (3, [.ref h1, .ref h2, .int P.2.2.1, .int P.2.2.2.1, .int P.2.2.2.2])), (h1, .inl (cI, 2000, .inl P.1)), (h2, .inl (cI, 16000, .inl P.2.1))]) [0, 1, 2] rfl
        have hD9 := hD.sub (ws' := [(h, .inr (3, [.ref h1, .ref h2, .int P.2.2.1, .int P.2.2.2.1, .int P.2.2.2.2])), (h1, .inl (cI, 2000, .inl P.1)), (h2, .inl (cI, 16000, .inl P.2.1))]) [0, 1, 2] (by decide) rfl
        exact hend () (P.1 i.toNatClampNeg) _ _ _ _ dX3_kindOf_29 hP9 hD9 hS (show (P.1 i.toNatClampNeg) = (psKind i P) from by (first | (simp only [psKind, c_1, c_2, c_3, ↓reduceIte, eq_self, not_true_eq_false, not_false_eq_true, and_true, true_and, and_false, false_and]; done) | (simp [psKind, c_1, c_2, c_3]; done)))

set_option maxHeartbeats 600000 in
set_option maxRecDepth 100000 in
theorem c_X3_placeOf (l : Launch) (D : va_G) (cI cZ cB cJ : ClassId) (sz : Nat) (h : Nat) (h1 : Nat) (h2 : Nat) (P : PS) (i : Int32) (k : Int32) (what : Int32) : sq_Mi l yX3_placeOf wsX3_placeOf { frames := 1, cells := 0, slots := 0, locals := 21 } D (sq_T cI cZ cB cJ) sz [.ref h, .int i, .int k, .int what] [(h, .inr (3, [.ref h1, .ref h2, .int P.2.2.1, .int P.2.2.2.1, .int P.2.2.2.2])), (h1, .inl (cI, 2000, .inl P.1)), (h2, .inl (cI, 16000, .inl P.2.1))] (fun (v9 : Int32) => (fun (_ : Unit) => v9 = psPlace i k what P)) (fun (_ : Unit) => [(h, .inr (3, [.ref h1, .ref h2, .int P.2.2.1, .int P.2.2.2.1, .int P.2.2.2.2])), (h1, .inl (cI, 2000, .inl P.1)), (h2, .inl (cI, 16000, .inl P.2.1))]) 0 0 := by
  refine sq_enteri cX3_placeOf 6 (plainFor_of_name (by decide)) rfl (Nat.le_of_ble_eq_true rfl) ?_
  intro p e s m below meth c ls args A Q hargs hx hb hml hown hts hnm hN hP hK hD hA hS hl hend
  have hl : lv_has ls 6 [(0, .ref h), (1, .int i), (2, .int k), (3, .int what)] := hl
  refine lv_aload_n hx hb dX3_placeOf_0 rfl (lv_at hl 0 rfl) ?_
  refine lv_iload_n hx hb dX3_placeOf_1 rfl (lv_at hl 1 rfl) ?_
  refine sq_goi (wc := [(h, .inr (3, [.ref h1, .ref h2, .int P.2.2.1, .int P.2.2.2.1, .int P.2.2.2.2])), (h1, .inl (cI, 2000, .inl P.1)), (h2, .inl (cI, 16000, .inl P.2.1))]) (wr := []) [0, 1, 2] [] hP hD hS hA rfl rfl (by decide) (by decide) (by decide) (fun hPc hDc => va_runV (As := [.int i]) (rest := []) ⟨hx, hb, hml, hown, hts⟩ (c_X3_kindOf l D cI cZ cB cJ _ h h1 h2 P i ) ⟨callB_of 1 hts (sq_gi k_560) rfl rfl rfl (hts _ k_5) (hts _ k_569) hdX3_kindOf ⟨Nat.le_of_ble_eq_true rfl, Nat.le_of_ble_eq_true rfl⟩, (hts _ k_558), (hts _ k_559)⟩ (sq_preV hPc hDc hK hN (q0 := 0) (ci := 3) rfl rfl) rfl rfl hl.1 rfl (lv_room (Nat.le_of_ble_eq_true rfl)) dX3_placeOf_2 ⟨Nat.le_of_ble_eq_true rfl, Nat.le_of_ble_eq_true rfl⟩) (fun r_1 u H locs hw_2 hP hD hS => ?_)
  have hw_2 : r_1 = psKind i P := hw_2
  have e_3 := hw_2
  clear hw_2
  subst e_3
  have hP : va_P D vwCl [(h, .inr (3, [.ref h1, .ref h2, .int P.2.2.1, .int P.2.2.2.1, .int P.2.2.2.2])), (h1, .inl (cI, 2000, .inl P.1)), (h2, .inl (cI, 16000, .inl P.2.1))] H := hP
  have hD : va_D A [(h, .inr (3, [.ref h1, .ref h2, .int P.2.2.1, .int P.2.2.2.1, .int P.2.2.2.2])), (h1, .inl (cI, 2000, .inl P.1)), (h2, .inl (cI, 16000, .inl P.2.1))] := hD
  refine lv_istore (lv' := [(4, .int (psKind i P)), (0, .ref h), (1, .int i), (2, .int k), (3, .int what)]) hx hb dX3_placeOf_5 hl (by decide) rfl (fun ls hl => ?_)
  refine lv_iload hx hb dX3_placeOf_7 (lv_at hl 0 rfl) ?_
  refine lv_iconst (v := (-1)) hx hb dX3_placeOf_9 (by decide) ?_
  refine lv_icmp_eq (tgt := 32) hx hb dX3_placeOf_10 (by decide) (fun c_4 => ?_) (fun c_4 => ?_)
  · refine lv_iconst (v := 0) hx hb dX3_placeOf_32 (by decide) ?_
    have hP9 := hP.sub (ws' := [(h, .inr (3, [.ref h1, .ref h2, .int P.2.2.1, .int P.2.2.2.1, .int P.2.2.2.2])), (h1, .inl (cI, 2000, .inl P.1)), (h2, .inl (cI, 16000, .inl P.2.1))]) [0, 1, 2] rfl
    have hD9 := hD.sub (ws' := [(h, .inr (3, [.ref h1, .ref h2, .int P.2.2.1, .int P.2.2.2.1, .int P.2.2.2.2])), (h1, .inl (cI, 2000, .inl P.1)), (h2, .inl (cI, 16000, .inl P.2.1))]) [0, 1, 2] (by decide) rfl
    exact hend () 0 _ _ _ _ dX3_placeOf_33 hP9 hD9 hS (show 0 = (psPlace i k what P) from by (first | (simp only [psPlace, c_4, ↓reduceIte, eq_self, not_true_eq_false, not_false_eq_true, and_true, true_and, and_false, false_and]; done) | (simp [psPlace, c_4]; done)))
  · refine lv_iload_n hx hb dX3_placeOf_13 rfl (lv_at hl 3 rfl) ?_
    refine lv_if_lt (tgt := 32) hx hb dX3_placeOf_14 (by decide) (fun c_5 => ?_) (fun c_5 => ?_)
    · refine lv_iconst (v := 0) hx hb dX3_placeOf_32 (by decide) ?_
      have hP9 := hP.sub (ws' := [(h, .inr (3, [.ref h1, .ref h2, .int P.2.2.1, .int P.2.2.2.1, .int P.2.2.2.2])), (h1, .inl (cI, 2000, .inl P.1)), (h2, .inl (cI, 16000, .inl P.2.1))]) [0, 1, 2] rfl
      have hD9 := hD.sub (ws' := [(h, .inr (3, [.ref h1, .ref h2, .int P.2.2.1, .int P.2.2.2.1, .int P.2.2.2.2])), (h1, .inl (cI, 2000, .inl P.1)), (h2, .inl (cI, 16000, .inl P.2.1))]) [0, 1, 2] (by decide) rfl
      exact hend () 0 _ _ _ _ dX3_placeOf_33 hP9 hD9 hS (show 0 = (psPlace i k what P) from by (first | (simp only [psPlace, c_4, c_5, ↓reduceIte, eq_self, not_true_eq_false, not_false_eq_true, and_true, true_and, and_false, false_and]; done) | (simp [psPlace, c_4, c_5]; done)))
    · refine lv_iload_n hx hb dX3_placeOf_17 rfl (lv_at hl 3 rfl) ?_
      have J29 : W p l e ({ frames := 1, cells := 0, slots := 0, locals := 21 } : Room) s m args below meth c H locs 0 0 Q (F0 m 29 ls [.int (if psKind i P = 1 then 3 else 4), .int k]) := by
        refine lv_icmp_lt (tgt := 34) hx hb dX3_placeOf_29 (by decide) (fun c_6 => ?_) (fun c_6 => ?_)
        · refine lv_iload_n hx hb dX3_placeOf_34 rfl (lv_at hl 4 rfl) ?_
          refine lv_if_lt (tgt := 43) hx hb dX3_placeOf_35 (by decide) (fun c_7 => ?_) (fun c_7 => ?_)
          · refine lv_iconst (v := 0) hx hb dX3_placeOf_43 (by decide) ?_
            have hP9 := hP.sub (ws' := [(h, .inr (3, [.ref h1, .ref h2, .int P.2.2.1, .int P.2.2.2.1, .int P.2.2.2.2])), (h1, .inl (cI, 2000, .inl P.1)), (h2, .inl (cI, 16000, .inl P.2.1))]) [0, 1, 2] rfl
            have hD9 := hD.sub (ws' := [(h, .inr (3, [.ref h1, .ref h2, .int P.2.2.1, .int P.2.2.2.1, .int P.2.2.2.2])), (h1, .inl (cI, 2000, .inl P.1)), (h2, .inl (cI, 16000, .inl P.2.1))]) [0, 1, 2] (by decide) rfl
            exact hend () 0 _ _ _ _ dX3_placeOf_44 hP9 hD9 hS (show 0 = (psPlace i k what P) from by (first | (simp only [psPlace, c_4, c_5, c_6, c_7, ↓reduceIte, eq_self, not_true_eq_false, not_false_eq_true, and_true, true_and, and_false, false_and]; done) | (simp [psPlace, c_4, c_5, c_6, c_7]; done)))
          · refine lv_iload_n hx hb dX3_placeOf_38 rfl (lv_at hl 4 rfl) ?_
            refine lv_iconst (v := 1) hx hb dX3_placeOf_39 (by decide) ?_
            refine lv_icmp_le (tgt := 45) hx hb dX3_placeOf_40 (by decide) (fun c_8 => ?_) (fun c_8 => ?_)
            · refine lv_iload_n hx hb dX3_placeOf_45 rfl (lv_at hl 2 rfl) ?_
              refine lv_bipush (v := 8) hx hb dX3_placeOf_46 (by decide) ?_
              refine lv_imul hx hb dX3_placeOf_48 ?_
              refine lv_iconst (v := 2) hx hb dX3_placeOf_49 (by decide) ?_
              refine lv_iload_n hx hb dX3_placeOf_50 rfl (lv_at hl 3 rfl) ?_
              refine lv_imul hx hb dX3_placeOf_51 ?_
              refine lv_iadd hx hb dX3_placeOf_52 ?_
              refine lv_iload_n hx hb dX3_placeOf_53 rfl (lv_at hl 4 rfl) ?_
              refine lv_iadd hx hb dX3_placeOf_54 ?_
              refine lv_istore (lv' := [(5, .int (((i * 8) + (2 * k)) + what)), (4, .int (psKind i P)), (0, .ref h), (1, .int i), (2, .int k), (3, .int what)]) hx hb dX3_placeOf_55 hl (by decide) rfl (fun ls hl => ?_)
              refine lv_iload hx hb dX3_placeOf_57 (lv_at hl 0 rfl) ?_
              refine lv_if_lt (tgt := 82) hx hb dX3_placeOf_59 (by decide) (fun c_9 => ?_) (fun c_9 => ?_)
              · refine lv_iconst (v := 0) hx hb dX3_placeOf_82 (by decide) ?_
                have hP9 := hP.sub (ws' := [(h, .inr (3, [.ref h1, .ref h2, .int P.2.2.1, .int P.2.2.2.1, .int P.2.2.2.2])), (h1, .inl (cI, 2000, .inl P.1)), (h2, .inl (cI, 16000, .inl P.2.1))]) [0, 1, 2] rfl
                have hD9 := hD.sub (ws' := [(h, .inr (3, [.ref h1, .ref h2, .int P.2.2.1, .int P.2.2.2.1, .int P.2.2.2.2])), (h1, .inl (cI, 2000, .inl P.1)), (h2, .inl (cI, 16000, .inl P.2.1))]) [0, 1, 2] (by decide) rfl
                exact hend () 0 _ _ _ _ dX3_placeOf_83 hP9 hD9 hS (show 0 = (psPlace i k what P) from by (first | (simp only [psPlace, c_4, c_5, c_6, c_7, c_8, c_9, ↓reduceIte, eq_self, not_true_eq_false, not_false_eq_true, and_true, true_and, and_false, false_and]; done) | (simp [psPlace, c_4, c_5, c_6, c_7, c_8, c_9]; done)))
              · refine lv_iload hx hb dX3_placeOf_62 (lv_at hl 0 rfl) ?_
                refine lv_aload_n hx hb dX3_placeOf_64 rfl (lv_at hl 2 rfl) ?_
                refine va_get (ci := 3) (v := .ref h2) (C := RX3) (T := TX3) (N := 5) hx hb hts inX3 hown hK hP 0 rfl rfl 1 (by decide) (hts _ k_105) (fun _ h9 => h9) rfl dX3_placeOf_65 ?_
                refine va_alen hx hb hK hP 2 0 rfl rfl (v := 16000) rfl dX3_placeOf_68 ?_
                refine lv_icmp_ge (tgt := 82) hx hb dX3_placeOf_69 (by decide) (fun c_10 => ?_) (fun c_10 => ?_)
                · refine lv_iconst (v := 0) hx hb dX3_placeOf_82 (by decide) ?_
                  have hP9 := hP.sub (ws' := [(h, .inr (3, [.ref h1, .ref h2, .int P.2.2.1, .int P.2.2.2.1, .int P.2.2.2.2])), (h1, .inl (cI, 2000, .inl P.1)), (h2, .inl (cI, 16000, .inl P.2.1))]) [0, 1, 2] rfl
                  have hD9 := hD.sub (ws' := [(h, .inr (3, [.ref h1, .ref h2, .int P.2.2.1, .int P.2.2.2.1, .int P.2.2.2.2])), (h1, .inl (cI, 2000, .inl P.1)), (h2, .inl (cI, 16000, .inl P.2.1))]) [0, 1, 2] (by decide) rfl
                  exact hend () 0 _ _ _ _ dX3_placeOf_83 hP9 hD9 hS (show 0 = (psPlace i k what P) from by (first | (simp only [psPlace, c_4, c_5, c_6, c_7, c_8, c_9, c_10, ↓reduceIte, eq_self, not_true_eq_false, not_false_eq_true, and_true, true_and, and_false, false_and]; done) | (simp [psPlace, c_4, c_5, c_6, c_7, c_8, c_9, c_10]; done)))
                · refine lv_aload_n hx hb dX3_placeOf_72 rfl (lv_at hl 2 rfl) ?_
                  refine va_get (ci := 3) (v := .ref h2) (C := RX3) (T := TX3) (N := 5) hx hb hts inX3 hown hK hP 0 rfl rfl 1 (by decide) (hts _ k_105) (fun _ h9 => h9) rfl dX3_placeOf_73 ?_
                  refine lv_iload hx hb dX3_placeOf_76 (lv_at hl 0 rfl) ?_
                  refine va_iald hx hb hK hP 2 0 rfl rfl (sq_in (sq_lo1 c_9) (sq_hi1 (n := 16000) c_10 (by decide))) dX3_placeOf_78 ?_
                  refine lv_goto (tgt := 83) hx hb dX3_placeOf_79 (by decide) ?_
                  have hP9 := hP.sub (ws' := [(h, .inr (3, [.ref h1, .ref h2, .int P.2.2.1, .int P.2.2.2.1, .int P.2.2.2.2])), (h1, .inl (cI, 2000, .inl P.1)), (h2, .inl (cI, 16000, .inl P.2.1))]) [0, 1, 2] rfl
                  have hD9 := hD.sub (ws' := [(h, .inr (3, [.ref h1, .ref h2, .int P.2.2.1, .int P.2.2.2.1, .int P.2.2.2.2])), (h1, .inl (cI, 2000, .inl P.1)), (h2, .inl (cI, 16000, .inl P.2.1))]) [0, 1, 2] (by decide) rfl
                  exact hend () (P.2.1 (((i * 8) + (2 * k)) + what).toNatClampNeg) _ _ _ _ dX3_placeOf_83 hP9 hD9 hS (show (P.2.1 (((i * 8) + (2 * k)) + what).toNatClampNeg) = (psPlace i k what P) from by (first | (simp only [psPlace, c_4, c_5, c_6, c_7, c_8, c_9, c_10, ↓reduceIte, eq_self, not_true_eq_false, not_false_eq_true, and_true, true_and, and_false, false_and]; done) | (simp [psPlace, c_4, c_5, c_6, c_7, c_8, c_9, c_10]; done)))
            · refine lv_iconst (v := 0) hx hb dX3_placeOf_43 (by decide) ?_
              have hP9 := hP.sub (ws' := [(h, .inr (3, [.ref h1, .ref h2, .int P.2.2.1, .int P.2.2.2.1, .int P.2.2.2.2])), (h1, .inl (cI, 2000, .inl P.1)), (h2, .inl (cI, 16000, .inl P.2.1))]) [0, 1, 2] rfl
              have hD9 := hD.sub (ws' := [(h, .inr (3, [.ref h1, .ref h2, .int P.2.2.1, .int P.2.2.2.1, .int P.2.2.2.2])), (h1, .inl (cI, 2000, .inl P.1)), (h2, .inl (cI, 16000, .inl P.2.1))]) [0, 1, 2] (by decide) rfl
              exact hend () 0 _ _ _ _ dX3_placeOf_44 hP9 hD9 hS (show 0 = (psPlace i k what P) from by (first | (simp only [psPlace, c_4, c_5, c_6, c_7, c_8, ↓reduceIte, eq_self, not_true_eq_false, not_false_eq_true, and_true, true_and, and_false, false_and]; done) | (simp [psPlace, c_4, c_5, c_6, c_7, c_8]; done)))
        · refine lv_iconst (v := 0) hx hb dX3_placeOf_32 (by decide) ?_
          have hP9 := hP.sub (ws' := [(h, .inr (3, [.ref h1, .ref h2, .int P.2.2.1, .int P.2.2.2.1, .int P.2.2.2.2])), (h1, .inl (cI, 2000, .inl P.1)), (h2, .inl (cI, 16000, .inl P.2.1))]) [0, 1, 2] rfl
          have hD9 := hD.sub (ws' := [(h, .inr (3, [.ref h1, .ref h2, .int P.2.2.1, .int P.2.2.2.1, .int P.2.2.2.2])), (h1, .inl (cI, 2000, .inl P.1)), (h2, .inl (cI, 16000, .inl P.2.1))]) [0, 1, 2] (by decide) rfl
          exact hend () 0 _ _ _ _ dX3_placeOf_33 hP9 hD9 hS (show 0 = (psPlace i k what P) from by (first | (simp only [psPlace, c_4, c_5, c_6, ↓reduceIte, eq_self, not_true_eq_false, not_false_eq_true, and_true, true_and, and_false, false_and]; done) | (simp [psPlace, c_4, c_5, c_6]; done)))
      refine lv_iload hx hb dX3_placeOf_18 (lv_at hl 0 rfl) ?_
      refine lv_iconst (v := 1) hx hb dX3_placeOf_20 (by decide) ?_
      refine lv_icmp_ne (tgt := 28) hx hb dX3_placeOf_21 (by decide) (fun c_11 => ?_) (fun c_11 => ?_)
      · refine lv_iconst (v := 4) hx hb dX3_placeOf_28 (by decide) ?_
        exact sq_ti (show 4 = (if psKind i P = 1 then 3 else 4) from by (first | (simp only [psPlace, c_4, c_5, c_11, ↓reduceIte, eq_self, not_true_eq_false, not_false_eq_true, and_true, true_and, and_false, false_and]; done) | (simp [psPlace, c_4, c_5, c_11]; done))) J29
      · refine lv_iconst (v := 3) hx hb dX3_placeOf_24 (by decide) ?_
        refine lv_goto (tgt := 29) hx hb dX3_placeOf_25 (by decide) ?_
        exact sq_ti (show 3 = (if psKind i P = 1 then 3 else 4) from by (first | (simp only [psPlace, c_4, c_5, c_11, ↓reduceIte, eq_self, not_true_eq_false, not_false_eq_true, and_true, true_and, and_false, false_and]; done) | (simp [psPlace, c_4, c_5, c_11]; done))) J29
