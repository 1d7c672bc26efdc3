set_option maxHeartbeats 600000 in
set_option maxRecDepth 100000 in
theorem c_X2_give (l : Launch) (D : va_G) (cI cZ cB cJ : ClassId) (sz : Nat) (h : Nat) (h1 : Nat) (h2 : Nat) (d : PT) (k : Int32) (v : Int32) : sq_Mi l yX2_give wsX2_give { frames := 1, cells := 0, slots := 0, locals := 20 } D (sq_T cI cZ cB cJ) sz [.ref h, .int k, .int v] [(h, .inr (2, [.ref h1, .ref h2, .int d.2.2.1, .int d.2.2.2.1, .long d.2.2.2.2.1, .int d.2.2.2.2.2])), (h1, .inl (cI, 8, .inl d.1)), (h2, .inl (cI, 8, .inl d.2.1))] (fun (v9 : Int32) => (fun (u1 : PT) => v9 = ptGiveOk k v ∧ u1 = ptGive k v d)) (fun (u1 : PT) => [(h, .inr (2, [.ref h1, .ref h2, .int u1.2.2.1, .int u1.2.2.2.1, .long u1.2.2.2.2.1, .int u1.2.2.2.2.2])), (h1, .inl (cI, 8, .inl u1.1)), (h2, .inl (cI, 8, .inl u1.2.1))]) 0 0 := by
  refine sq_enterz cX2_give 3 (plainFor_of_name (by decide)) rfl (Nat.le_of_ble_eq_true rfl) ?_
  intro p e s m below meth c ls args A Q hargs hx hb hml hown hts hnm hN hP hK hD hA hS hl hend
  have hl : lv_has ls 3 [(0, .ref h), (1, .int k), (2, .int v)] := hl
  refine lv_iload_n hx hb dX2_give_0 rfl (lv_at hl 1 rfl) ?_
  refine lv_if_lt (tgt := 17) hx hb dX2_give_1 (by decide) (fun c_1 => ?_) (fun c_1 => ?_)
  · refine lv_iconst (v := 0) hx hb dX2_give_17 (by decide) ?_
    have hP9 := hP.sub (ws' := [(h, .inr (2, [.ref h1, .ref h2, .int d.2.2.1, .int d.2.2.2.1, .long d.2.2.2.2.1, .int d.2.2.2.2.2])), (h1, .inl (cI, 8, .inl d.1)), (h2, .inl (cI, 8, .inl d.2.1))]) [0, 1, 2] rfl
    have hD9 := hD.sub (ws' := [(h, .inr (2, [.ref h1, .ref h2, .int d.2.2.1, .int d.2.2.2.1, .long d.2.2.2.2.1, .int d.2.2.2.2.2])), (h1, .inl (cI, 8, .inl d.1)), (h2, .inl (cI, 8, .inl d.2.1))]) [0, 1, 2] (by decide) rfl
    exact hend d 0 _ _ _ _ dX2_give_18 hP9 hD9 hS ⟨(show 0 = (ptGiveOk k v) from by (first | (simp only [ptGiveOk, ptGive, c_1, ↓reduceIte, eq_self, not_true_eq_false, not_false_eq_true, and_true, true_and, and_false, false_and]; done) | (simp [ptGiveOk, ptGive, c_1]; done))), (show d = ptGive k v d from by (first | (simp only [ptGiveOk, ptGive, c_1, ↓reduceIte, eq_self, not_true_eq_false, not_false_eq_true, and_true, true_and, and_false, false_and]; done) | (simp [ptGiveOk, ptGive, c_1]; done)))⟩ rfl
  · refine lv_iload_n hx hb dX2_give_4 rfl (lv_at hl 1 rfl) ?_
    refine lv_bipush (v := 8) hx hb dX2_give_5 (by decide) ?_
    refine lv_icmp_ge (tgt := 17) hx hb dX2_give_7 (by decide) (fun c_2 => ?_) (fun c_2 => ?_)
    · refine lv_iconst (v := 0) hx hb dX2_give_17 (by decide) ?_
      have hP9 := hP.sub (ws' := [(h, .inr (2, [.ref h1, .ref h2, .int d.2.2.1, .int d.2.2.2.1, .long d.2.2.2.2.1, .int d.2.2.2.2.2])), (h1, .inl (cI, 8, .inl d.1)), (h2, .inl (cI, 8, .inl d.2.1))]) [0, 1, 2] rfl
      have hD9 := hD.sub (ws' := [(h, .inr (2, [.ref h1, .ref h2, .int d.2.2.1, .int d.2.2.2.1, .long d.2.2.2.2.1, .int d.2.2.2.2.2])), (h1, .inl (cI, 8, .inl d.1)), (h2, .inl (cI, 8, .inl d.2.1))]) [0, 1, 2] (by decide) rfl
      exact hend d 0 _ _ _ _ dX2_give_18 hP9 hD9 hS ⟨(show 0 = (ptGiveOk k v) from by (first | (simp only [ptGiveOk, ptGive, c_1, c_2, ↓reduceIte, eq_self, not_true_eq_false, not_false_eq_true, and_true, true_and, and_false, false_and]; done) | (simp [ptGiveOk, ptGive, c_1, c_2]; done))), (show d = ptGive k v d from by (first | (simp only [ptGiveOk, ptGive, c_1, c_2, ↓reduceIte, eq_self, not_true_eq_false, not_false_eq_true, and_true, true_and, and_false, false_and]; done) | (simp [ptGiveOk, ptGive, c_1, c_2]; done)))⟩ rfl
    · refine lv_iload_n hx hb dX2_give_10 rfl (lv_at hl 2 rfl) ?_
      refine sq_goi (wc := []) (wr := [(h, .inr (2, [.ref h1, .ref h2, .int d.2.2.1, .int d.2.2.2.1, .long d.2.2.2.2.1, .int d.2.2.2.2.2])), (h1, .inl (cI, 8, .inl d.1)), (h2, .inl (cI, 8, .inl d.2.1))]) [] [0, 1, 2] hP hD hS hA rfl rfl (by decide) (by decide) (by decide) (fun hPc hDc => va_runSN (As := [.int v]) (rest := []) ⟨hx, hb, hml, hown, hts⟩ (c_X8_isUnits l D cI cZ cB cJ _ v ) ⟨va_cnB 1 hts (sq_gi k_337) rfl rfl rfl (va_Nw.of rfl (hN.at (args := args) 22 rfl)) (hts _ k_1) hdX8_isUnits ⟨Nat.le_of_ble_eq_true rfl, Nat.le_of_ble_eq_true rfl⟩, (hts _ k_336), trivial⟩ (sq_preS hPc hDc hK hN) rfl rfl hl.1 rfl (lv_room (Nat.le_of_ble_eq_true rfl)) dX2_give_11 ⟨Nat.le_of_ble_eq_true rfl, Nat.le_of_ble_eq_true rfl⟩) (fun r_3 u H locs hw_4 hP hD hS => ?_)
      have hw_4 : r_3 = kUnits v := hw_4
      have e_5 := hw_4
      clear hw_4
      subst e_5
      have hP : va_P D vwCl [(h, .inr (2, [.ref h1, .ref h2, .int d.2.2.1, .int d.2.2.2.1, .long d.2.2.2.2.1, .int d.2.2.2.2.2])), (h1, .inl (cI, 8, .inl d.1)), (h2, .inl (cI, 8, .inl d.2.1))] H := hP
      have hD : va_D A [(h, .inr (2, [.ref h1, .ref h2, .int d.2.2.1, .int d.2.2.2.1, .long d.2.2.2.2.1, .int d.2.2.2.2.2])), (h1, .inl (cI, 8, .inl d.1)), (h2, .inl (cI, 8, .inl d.2.1))] := hD
      refine lv_if_ne (tgt := 19) hx hb dX2_give_14 (by decide) (fun c_6 => ?_) (fun c_6 => ?_)
      · refine lv_aload_n hx hb dX2_give_19 rfl (lv_at hl 0 rfl) ?_
        refine va_get (ci := 2) (v := .ref h1) (C := RX2) (T := TX2) (N := 6) hx hb hts inX2 hown hK hP 0 rfl rfl 0 (by decide) (hts _ k_79) (fun _ h9 => h9) rfl dX2_give_20 ?_
        refine lv_iload_n hx hb dX2_give_23 rfl (lv_at hl 1 rfl) ?_
        refine lv_iload_n hx hb dX2_give_24 rfl (lv_at hl 2 rfl) ?_
        refine va_iast hx hb hK hP hD hS 1 0 rfl rfl (sq_in (sq_lo1 c_1) (sq_hi1 (n := 8) c_2 (by decide))) dX2_give_25 (fun H locs hP hD hS => ?_)
        have hP : va_P D vwCl [(h, .inr (2, [.ref h1, .ref h2, .int d.2.2.1, .int d.2.2.2.1, .long d.2.2.2.2.1, .int d.2.2.2.2.2])), (h1, .inl (cI, 8, .inl (upd d.1 k.toNatClampNeg v))), (h2, .inl (cI, 8, .inl d.2.1))] H := hP
        have hD : va_D A [(h, .inr (2, [.ref h1, .ref h2, .int d.2.2.1, .int d.2.2.2.1, .long d.2.2.2.2.1, .int d.2.2.2.2.2])), (h1, .inl (cI, 8, .inl (upd d.1 k.toNatClampNeg v))), (h2, .inl (cI, 8, .inl d.2.1))] := hD
        refine lv_iconst (v := 1) hx hb dX2_give_26 (by decide) ?_
        have hP9 := hP.sub (ws' := [(h, .inr (2, [.ref h1, .ref h2, .int d.2.2.1, .int d.2.2.2.1, .long d.2.2.2.2.1, .int d.2.2.2.2.2])), (h1, .inl (cI, 8, .inl (upd d.1 k.toNatClampNeg v))), (h2, .inl (cI, 8, .inl d.2.1))]) [0, 1, 2] rfl
        have hD9 := hD.sub (ws' := [(h, .inr (2, [.ref h1, .ref h2, .int d.2.2.1, .int d.2.2.2.1, .long d.2.2.2.2.1, .int d.2.2.2.2.2])), (h1, .inl (cI, 8, .inl (upd d.1 k.toNatClampNeg v))), (h2, .inl (cI, 8, .inl d.2.1))]) [0, 1, 2] (by decide) rfl
        have hP9 : va_P D vwCl [(h, .inr (2, [.ref h1, .ref h2, .int ((upd d.1 k.toNatClampNeg v, d.2.1, d.2.2.1, d.2.2.2.1, d.2.2.2.2.1, d.2.2.2.2.2).2.2.1), .int ((upd d.1 k.toNatClampNeg v, d.2.1, d.2.2.1, d.2.2.2.1, d.2.2.2.2.1, d.2.2.2.2.2).2.2.2.1), .long ((upd d.1 k.toNatClampNeg v, d.2.1, d.2.2.1, d.2.2.2.1, d.2.2.2.2.1, d.2.2.2.2.2).2.2.2.2.1), .int ((upd d.1 k.toNatClampNeg v, d.2.1, d.2.2.1, d.2.2.2.1, d.2.2.2.2.1, d.2.2.2.2.2).2.2.2.2.2)])), (h1, .inl (cI, 8, .inl ((upd d.1 k.toNatClampNeg v, d.2.1, d.2.2.1, d.2.2.2.1, d.2.2.2.2.1, d.2.2.2.2.2).1))), (h2, .inl (cI, 8, .inl ((upd d.1 k.toNatClampNeg v, d.2.1, d.2.2.1, d.2.2.2.1, d.2.2.2.2.1, d.2.2.2.2.2).2.1)))] H := hP9
        have hD9 : va_D A [(h, .inr (2, [.ref h1, .ref h2, .int ((upd d.1 k.toNatClampNeg v, d.2.1, d.2.2.1, d.2.2.2.1, d.2.2.2.2.1, d.2.2.2.2.2).2.2.1), .int ((upd d.1 k.toNatClampNeg v, d.2.1, d.2.2.1, d.2.2.2.1, d.2.2.2.2.1, d.2.2.2.2.2).2.2.2.1), .long ((upd d.1 k.toNatClampNeg v, d.2.1, d.2.2.1, d.2.2.2.1, d.2.2.2.2.1, d.2.2.2.2.2).2.2.2.2.1), .int ((upd d.1 k.toNatClampNeg v, d.2.1, d.2.2.1, d.2.2.2.1, d.2.2.2.2.1, d.2.2.2.2.2).2.2.2.2.2)])), (h1, .inl (cI, 8, .inl ((upd d.1 k.toNatClampNeg v, d.2.1, d.2.2.1, d.2.2.2.1, d.2.2.2.2.1, d.2.2.2.2.2).1))), (h2, .inl (cI, 8, .inl ((upd d.1 k.toNatClampNeg v, d.2.1, d.2.2.1, d.2.2.2.1, d.2.2.2.2.1, d.2.2.2.2.2).2.1)))] := hD9
        exact hend (upd d.1 k.toNatClampNeg v, d.2.1, d.2.2.1, d.2.2.2.1, d.2.2.2.2.1, d.2.2.2.2.2) 1 _ _ _ _ dX2_give_27 hP9 hD9 hS ⟨(show 1 = (ptGiveOk k v) from by (first | (simp only [ptGiveOk, ptGive, c_1, c_2, c_6, ↓reduceIte, eq_self, not_true_eq_false, not_false_eq_true, and_true, true_and, and_false, false_and]; done) | (simp [ptGiveOk, ptGive, c_1, c_2, c_6]; done))), (show (upd d.1 k.toNatClampNeg v, d.2.1, d.2.2.1, d.2.2.2.1, d.2.2.2.2.1, d.2.2.2.2.2) = ptGive k v d from by (first | (simp only [ptGiveOk, ptGive, c_1, c_2, c_6, ↓reduceIte, eq_self, not_true_eq_false, not_false_eq_true, and_true, true_and, and_false, false_and]; done) | (simp [ptGiveOk, ptGive, c_1, c_2, c_6]; done)))⟩ rfl
      · refine lv_iconst (v := 0) hx hb dX2_give_17 (by decide) ?_
        have hP9 := hP.sub (ws' := [(h, .inr (2, [.ref h1, .ref h2, .int d.2.2.1, .int d.2.2.2.1, .long d.2.2.2.2.1, .int d.2.2.2.2.2])), (h1, .inl (cI, 8, .inl d.1)), (h2, .inl (cI, 8, .inl d.2.1))]) [0, 1, 2] rfl
        have hD9 := hD.sub (ws' := [(h, .inr (2, [.ref h1, .ref h2, .int d.2.2.1, .int d.2.2.2.1, .long d.2.2.2.2.1, .int d.2.2.2.2.2])), (h1, .inl (cI, 8, .inl d.1)), (h2, .inl (cI, 8, .inl d.2.1))]) [0, 1, 2] (by decide) rfl
        exact hend d 0 _ _ _ _ dX2_give_18 hP9 hD9 hS ⟨(show 0 = (ptGiveOk k v) from by (first | (simp only [ptGiveOk, ptGive, c_1, c_2, c_6, ↓reduceIte, eq_self, not_true_eq_false, not_false_eq_true, and_true, true_and, and_false, false_and]; done) | (simp [ptGiveOk, ptGive, c_1, c_2, c_6]; done))), (show d = ptGive k v d from by (first | (simp only [ptGiveOk, ptGive, c_1, c_2, c_6, ↓reduceIte, eq_self, not_true_eq_false, not_false_eq_true, and_true, true_and, and_false, false_and]; done) | (simp [ptGiveOk, ptGive, c_1, c_2, c_6]; done)))⟩ rfl

set_option maxHeartbeats 600000 in
set_option maxRecDepth 100000 in
theorem c_X2_isUsed (l : Launch) (D : va_G) (cI cZ cB cJ : ClassId) (sz : Nat) (h : Nat) (h1 : Nat) (h2 : Nat) (d : PT) : sq_Mi l yX2_isUsed wsX2_isUsed { frames := 0, cells := 0, slots := 0, locals := 0 } D (sq_T cI cZ cB cJ) sz [.ref h] [(h, .inr (2, [.ref h1, .ref h2, .int d.2.2.1, .int d.2.2.2.1, .long d.2.2.2.2.1, .int d.2.2.2.2.2])), (h1, .inl (cI, 8, .inl d.1)), (h2, .inl (cI, 8, .inl d.2.1))] (fun (v9 : Int32) => (fun (_ : Unit) => v9 = ptUsed d)) (fun (_ : Unit) => [(h, .inr (2, [.ref h1, .ref h2, .int d.2.2.1, .int d.2.2.2.1, .long d.2.2.2.2.1, .int d.2.2.2.2.2])), (h1, .inl (cI, 8, .inl d.1)), (h2, .inl (cI, 8, .inl d.2.1))]) 0 0 := by
  refine sq_enterz cX2_isUsed 1 (plainFor_of_name (by decide)) rfl (Nat.le_of_ble_eq_true rfl) ?_
  intro p e s m below meth c ls args A Q hargs hx hb hml hown hts hnm hN hP hK hD hA hS hl hend
  have hl : lv_has ls 1 [(0, .ref h)] := hl
  refine lv_aload_n hx hb dX2_isUsed_0 rfl (lv_at hl 0 rfl) ?_
  refine va_get (ci := 2) (v := .int d.2.2.1) (C := RX2) (T := TX2) (N := 6) hx hb hts inX2 hown hK hP 0 rfl rfl 2 (by decide) (hts _ k_81) (fun _ h9 => h9) rfl dX2_isUsed_1 ?_
  refine lv_if_le (tgt := 11) hx hb dX2_isUsed_4 (by decide) (fun c_1 => ?_) (fun c_1 => ?_)
  · refine lv_iconst (v := 0) hx hb dX2_isUsed_11 (by decide) ?_
    have hP9 := hP.sub (ws' := [(h, .inr (2, [.ref h1, .ref h2, .int d.2.2.1, .int d.2.2.2.1, .long d.2.2.2.2.1, .int d.2.2.2.2.2])), (h1, .inl (cI, 8, .inl d.1)), (h2, .inl (cI, 8, .inl d.2.1))]) [0, 1, 2] rfl
    have hD9 := hD.sub (ws' := [(h, .inr (2, [.ref h1, .ref h2, .int d.2.2.1, .int d.2.2.2.1, .long d.2.2.2.2.1, .int d.2.2.2.2.2])), (h1, .inl (cI, 8, .inl d.1)), (h2, .inl (cI, 8, .inl d.2.1))]) [0, 1, 2] (by decide) rfl
    exact hend () 0 _ _ _ _ dX2_isUsed_12 hP9 hD9 hS (show 0 = (ptUsed d) from by (first | (simp only [ptUsed, c_1, ↓reduceIte, eq_self, not_true_eq_false, not_false_eq_true, and_true, true_and, and_false, false_and]; done) | (simp [ptUsed, c_1]; done))) rfl
  · refine lv_iconst (v := 1) hx hb dX2_isUsed_7 (by decide) ?_
    refine lv_goto (tgt := 12) hx hb dX2_isUsed_8 (by decide) ?_
    have hP9 := hP.sub (ws' := [(h, .inr (2, [.ref h1, .ref h2, .int d.2.2.1, .int d.2.2.2.1, .long d.2.2.2.2.1, .int d.2.2.2.2.2])), (h1, .inl (cI, 8, .inl d.1)), (h2, .inl (cI, 8, .inl d.2.1))]) [0, 1, 2] rfl
    have hD9 := hD.sub (ws' := [(h, .inr (2, [.ref h1, .ref h2, .int d.2.2.1, .int d.2.2.2.1, .long d.2.2.2.2.1, .int d.2.2.2.2.2])), (h1, .inl (cI, 8, .inl d.1)), (h2, .inl (cI, 8, .inl d.2.1))]) [0, 1, 2] (by decide) rfl
    exact hend () 1 _ _ _ _ dX2_isUsed_12 hP9 hD9 hS (show 1 = (ptUsed d) from by (first | (simp only [ptUsed, c_1, ↓reduceIte, eq_self, not_true_eq_false, not_false_eq_true, and_true, true_and, and_false, false_and]; done) | (simp [ptUsed, c_1]; done))) rfl

set_option maxHeartbeats 600000 in
set_option maxRecDepth 100000 in
theorem c_X2_firstAt (l : Launch) (D : va_G) (cI cZ cB cJ : ClassId) (sz : Nat) (h : Nat) (h1 : Nat) (h2 : Nat) (d : PT) : sq_Mi l yX2_firstAt wsX2_firstAt { frames := 0, cells := 0, slots := 0, locals := 0 } D (sq_T cI cZ cB cJ) sz [.ref h] [(h, .inr (2, [.ref h1, .ref h2, .int d.2.2.1, .int d.2.2.2.1, .long d.2.2.2.2.1, .int d.2.2.2.2.2])), (h1, .inl (cI, 8, .inl d.1)), (h2, .inl (cI, 8, .inl d.2.1))] (fun (v9 : Int32) => (fun (_ : Unit) => v9 = d.2.2.2.1)) (fun (_ : Unit) => [(h, .inr (2, [.ref h1, .ref h2, .int d.2.2.1, .int d.2.2.2.1, .long d.2.2.2.2.1, .int d.2.2.2.2.2])), (h1, .inl (cI, 8, .inl d.1)), (h2, .inl (cI, 8, .inl d.2.1))]) 0 0 := by
  refine sq_enteri cX2_firstAt 1 (plainFor_of_name (by decide)) rfl (Nat.le_of_ble_eq_true rfl) ?_
  intro p e s m below meth c ls args A Q hargs hx hb hml hown hts hnm hN hP hK hD hA hS hl hend
  have hl : lv_has ls 1 [(0, .ref h)] := hl
  refine lv_aload_n hx hb dX2_firstAt_0 rfl (lv_at hl 0 rfl) ?_
  refine va_get (ci := 2) (v := .int d.2.2.2.1) (C := RX2) (T := TX2) (N := 6) hx hb hts inX2 hown hK hP 0 rfl rfl 3 (by decide) (hts _ k_82) (fun _ h9 => h9) rfl dX2_firstAt_1 ?_
  have hP9 := hP.sub (ws' := [(h, .inr (2, [.ref h1, .ref h2, .int d.2.2.1, .int d.2.2.2.1, .long d.2.2.2.2.1, .int d.2.2.2.2.2])), (h1, .inl (cI, 8, .inl d.1)), (h2, .inl (cI, 8, .inl d.2.1))]) [0, 1, 2] rfl
  have hD9 := hD.sub (ws' := [(h, .inr (2, [.ref h1, .ref h2, .int d.2.2.1, .int d.2.2.2.1, .long d.2.2.2.2.1, .int d.2.2.2.2.2])), (h1, .inl (cI, 8, .inl d.1)), (h2, .inl (cI, 8, .inl d.2.1))]) [0, 1, 2] (by decide) rfl
  exact hend () d.2.2.2.1 _ _ _ _ dX2_firstAt_4 hP9 hD9 hS (show d.2.2.2.1 = d.2.2.2.1 from rfl)

set_option maxHeartbeats 600000 in
set_option maxRecDepth 100000 in
theorem c_X2_firstLeft (l : Launch) (D : va_G) (cI cZ cB cJ : ClassId) (sz : Nat) (h : Nat) (h1 : Nat) (h2 : Nat) (d : PT) : sq_Ml l yX2_firstLeft wsX2_firstLeft { frames := 0, cells := 0, slots := 0, locals := 0 } D (sq_T cI cZ cB cJ) sz [.ref h] [(h, .inr (2, [.ref h1, .ref h2, .int d.2.2.1, .int d.2.2.2.1, .long d.2.2.2.2.1, .int d.2.2.2.2.2])), (h1, .inl (cI, 8, .inl d.1)), (h2, .inl (cI, 8, .inl d.2.1))] (fun (v9 : Int64) => (fun (_ : Unit) => v9 = d.2.2.2.2.1)) (fun (_ : Unit) => [(h, .inr (2, [.ref h1, .ref h2, .int d.2.2.1, .int d.2.2.2.1, .long d.2.2.2.2.1, .int d.2.2.2.2.2])), (h1, .inl (cI, 8, .inl d.1)), (h2, .inl (cI, 8, .inl d.2.1))]) 0 0 := by
  refine sq_enterl cX2_firstLeft 1 (plainFor_of_name (by decide)) rfl (Nat.le_of_ble_eq_true rfl) ?_
  intro p e s m below meth c ls args A Q hargs hx hb hml hown hts hnm hN hP hK hD hA hS hl hend
  have hl : lv_has ls 1 [(0, .ref h)] := hl
  refine lv_aload_n hx hb dX2_firstLeft_0 rfl (lv_at hl 0 rfl) ?_
  refine va_get (ci := 2) (v := .long d.2.2.2.2.1) (C := RX2) (T := TX2) (N := 6) hx hb hts inX2 hown hK hP 0 rfl rfl 4 (by decide) (hts _ k_83) (fun _ h9 => h9) rfl dX2_firstLeft_1 ?_
  have hP9 := hP.sub (ws' := [(h, .inr (2, [.ref h1, .ref h2, .int d.2.2.1, .int d.2.2.2.1, .long d.2.2.2.2.1, .int d.2.2.2.2.2])), (h1, .inl (cI, 8, .inl d.1)), (h2, .inl (cI, 8, .inl d.2.1))]) [0, 1, 2] rfl
  have hD9 := hD.sub (ws' := [(h, .inr (2, [.ref h1, .ref h2, .int d.2.2.1, .int d.2.2.2.1, .long d.2.2.2.2.1, .int d.2.2.2.2.2])), (h1, .inl (cI, 8, .inl d.1)), (h2, .inl (cI, 8, .inl d.2.1))]) [0, 1, 2] (by decide) rfl
  exact hend () d.2.2.2.2.1 _ _ _ _ dX2_firstLeft_4 hP9 hD9 hS (show d.2.2.2.2.1 = d.2.2.2.2.1 from rfl)

set_option maxHeartbeats 600000 in
set_option maxRecDepth 100000 in
theorem c_X2_firstGap (l : Launch) (D : va_G) (cI cZ cB cJ : ClassId) (sz : Nat) (h : Nat) (h1 : Nat) (h2 : Nat) (d : PT) (hbo : sq_bo d.2.2.2.2.2) : sq_Mi l yX2_firstGap wsX2_firstGap { frames := 0, cells := 0, slots := 0, locals := 0 } D (sq_T cI cZ cB cJ) sz [.ref h] [(h, .inr (2, [.ref h1, .ref h2, .int d.2.2.1, .int d.2.2.2.1, .long d.2.2.2.2.1, .int d.2.2.2.2.2])), (h1, .inl (cI, 8, .inl d.1)), (h2, .inl (cI, 8, .inl d.2.1))] (fun (v9 : Int32) => (fun (_ : Unit) => v9 = d.2.2.2.2.2)) (fun (_ : Unit) => [(h, .inr (2, [.ref h1, .ref h2, .int d.2.2.1, .int d.2.2.2.1, .long d.2.2.2.2.1, .int d.2.2.2.2.2])), (h1, .inl (cI, 8, .inl d.1)), (h2, .inl (cI, 8, .inl d.2.1))]) 0 0 := by
  refine sq_enterz cX2_firstGap 1 (plainFor_of_name (by decide)) rfl (Nat.le_of_ble_eq_true rfl) ?_
  intro p e s m below meth c ls args A Q hargs hx hb hml hown hts hnm hN hP hK hD hA hS hl hend
  have hl : lv_has ls 1 [(0, .ref h)] := hl
  refine lv_aload_n hx hb dX2_firstGap_0 rfl (lv_at hl 0 rfl) ?_
  refine va_get (ci := 2) (v := .int d.2.2.2.2.2) (C := RX2) (T := TX2) (N := 6) hx hb hts inX2 hown hK hP 0 rfl rfl 5 (by decide) (hts _ k_84) (fun _ h9 => h9) rfl dX2_firstGap_1 ?_
  have hP9 := hP.sub (ws' := [(h, .inr (2, [.ref h1, .ref h2, .int d.2.2.1, .int d.2.2.2.1, .long d.2.2.2.2.1, .int d.2.2.2.2.2])), (h1, .inl (cI, 8, .inl d.1)), (h2, .inl (cI, 8, .inl d.2.1))]) [0, 1, 2] rfl
  have hD9 := hD.sub (ws' := [(h, .inr (2, [.ref h1, .ref h2, .int d.2.2.1, .int d.2.2.2.1, .long d.2.2.2.2.1, .int d.2.2.2.2.2])), (h1, .inl (cI, 8, .inl d.1)), (h2, .inl (cI, 8, .inl d.2.1))]) [0, 1, 2] (by decide) rfl
  exact hend () d.2.2.2.2.2 _ _ _ _ dX2_firstGap_4 hP9 hD9 hS (show d.2.2.2.2.2 = d.2.2.2.2.2 from rfl) hbo.1

set_option maxHeartbeats 600000 in
set_option maxRecDepth 100000 in
theorem c_X2_behind (l : Launch) (D : va_G) (cI cZ cB cJ : ClassId) (sz : Nat) (h : Nat) (h1 : Nat) (h2 : Nat) (d : PT) (i : Int32) : sq_Mi l yX2_behind wsX2_behind { frames := 0, cells := 0, slots := 0, locals := 0 } D (sq_T cI cZ cB cJ) sz [.ref h, .int i] [(h, .inr (2, [.ref h1, .ref h2, .int d.2.2.1, .int d.2.2.2.1, .long d.2.2.2.2.1, .int d.2.2.2.2.2])), (h1, .inl (cI, 8, .inl d.1)), (h2, .inl (cI, 8, .inl d.2.1))] (fun (v9 : Int32) => (fun (_ : Unit) => v9 = ptBehind i d)) (fun (_ : Unit) => [(h, .inr (2, [.ref h1, .ref h2, .int d.2.2.1, .int d.2.2.2.1, .long d.2.2.2.2.1, .int d.2.2.2.2.2])), (h1, .inl (cI, 8, .inl d.1)), (h2, .inl (cI, 8, .inl d.2.1))]) 0 0 := by
  refine sq_enteri cX2_behind 2 (plainFor_of_name (by decide)) rfl (Nat.le_of_ble_eq_true rfl) ?_
  intro p e s m below meth c ls args A Q hargs hx hb hml hown hts hnm hN hP hK hD hA hS hl hend
  have hl : lv_has ls 2 [(0, .ref h), (1, .int i)] := hl
  refine lv_iload_n hx hb dX2_behind_0 rfl (lv_at hl 1 rfl) ?_
  refine lv_iconst (v := 1) hx hb dX2_behind_1 (by decide) ?_
  refine lv_iadd hx hb dX2_behind_2 ?_
  refine lv_aload_n hx hb dX2_behind_3 rfl (lv_at hl 0 rfl) ?_
  refine va_get (ci := 2) (v := .int d.2.2.1) (C := RX2) (T := TX2) (N := 6) hx hb hts inX2 hown hK hP 0 rfl rfl 2 (by decide) (hts _ k_81) (fun _ h9 => h9) rfl dX2_behind_4 ?_
  refine lv_icmp_ge (tgt := 16) hx hb dX2_behind_7 (by decide) (fun c_1 => ?_) (fun c_1 => ?_)
  · refine lv_iconst (v := 0) hx hb dX2_behind_16 (by decide) ?_
    have hP9 := hP.sub (ws' := [(h, .inr (2, [.ref h1, .ref h2, .int d.2.2.1, .int d.2.2.2.1, .long d.2.2.2.2.1, .int d.2.2.2.2.2])), (h1, .inl (cI, 8, .inl d.1)), (h2, .inl (cI, 8, .inl d.2.1))]) [0, 1, 2] rfl
    have hD9 := hD.sub (ws' := [(h, .inr (2, [.ref h1, .ref h2, .int d.2.2.1, .int d.2.2.2.1, .long d.2.2.2.2.1, .int d.2.2.2.2.2])), (h1, .inl (cI, 8, .inl d.1)), (h2, .inl (cI, 8, .inl d.2.1))]) [0, 1, 2] (by decide) rfl
    exact hend () 0 _ _ _ _ dX2_behind_17 hP9 hD9 hS (show 0 = (ptBehind i d) from by (first | (simp only [ptBehind, c_1, ↓reduceIte, eq_self, not_true_eq_false, not_false_eq_true, and_true, true_and, and_false, false_and]; done) | (simp [ptBehind, c_1]; done)))
  · refine lv_iload_n hx hb dX2_behind_10 rfl (lv_at hl 1 rfl) ?_
    refine lv_iconst (v := 1) hx hb dX2_behind_11 (by decide) ?_
    refine lv_iadd hx hb dX2_behind_12 ?_
    refine lv_goto (tgt := 17) hx hb dX2_behind_13 (by decide) ?_
    have hP9 := hP.sub (ws' := [(h, .inr (2, [.ref h1, .ref h2, .int d.2.2.1, .int d.2.2.2.1, .long d.2.2.2.2.1, .int d.2.2.2.2.2])), (h1, .inl (cI, 8, .inl d.1)), (h2, .inl (cI, 8, .inl d.2.1))]) [0, 1, 2] rfl
    have hD9 := hD.sub (ws' := [(h, .inr (2, [.ref h1, .ref h2, .int d.2.2.1, .int d.2.2.2.1, .long d.2.2.2.2.1, .int d.2.2.2.2.2])), (h1, .inl (cI, 8, .inl d.1)), (h2, .inl (cI, 8, .inl d.2.1))]) [0, 1, 2] (by decide) rfl
    exact hend () (i + 1) _ _ _ _ dX2_behind_17 hP9 hD9 hS (show (i + 1) = (ptBehind i d) from by (first | (simp only [ptBehind, c_1, ↓reduceIte, eq_self, not_true_eq_false, not_false_eq_true, and_true, true_and, and_false, false_and]; done) | (simp [ptBehind, c_1]; done)))

set_option maxHeartbeats 600000 in
set_option maxRecDepth 100000 in
theorem c_X2_lengthOf (l : Launch) (D : va_G) (cI cZ cB cJ : ClassId) (sz : Nat) (h : Nat) (h1 : Nat) (h2 : Nat) (d : PT) (i : Int32) : sq_Ml l yX2_lengthOf wsX2_lengthOf { frames := 0, cells := 0, slots := 0, locals := 0 } D (sq_T cI cZ cB cJ) sz [.ref h, .int i] [(h, .inr (2, [.ref h1, .ref h2, .int d.2.2.1, .int d.2.2.2.1, .long d.2.2.2.2.1, .int d.2.2.2.2.2])), (h1, .inl (cI, 8, .inl d.1)), (h2, .inl (cI, 8, .inl d.2.1))] (fun (v9 : Int64) => (fun (_ : Unit) => v9 = ptLen i d)) (fun (_ : Unit) => [(h, .inr (2, [.ref h1, .ref h2, .int d.2.2.1, .int d.2.2.2.1, .long d.2.2.2.2.1, .int d.2.2.2.2.2])), (h1, .inl (cI, 8, .inl d.1)), (h2, .inl (cI, 8, .inl d.2.1))]) 0 0 := by
  refine sq_enterl cX2_lengthOf 2 (plainFor_of_name (by decide)) rfl (Nat.le_of_ble_eq_true rfl) ?_
  intro p e s m below meth c ls args A Q hargs hx hb hml hown hts hnm hN hP hK hD hA hS hl hend
  have hl : lv_has ls 2 [(0, .ref h), (1, .int i)] := hl
  refine lv_iload_n hx hb dX2_lengthOf_0 rfl (lv_at hl 1 rfl) ?_
  refine lv_if_lt (tgt := 20) hx hb dX2_lengthOf_1 (by decide) (fun c_1 => ?_) (fun c_1 => ?_)
  · refine lv_lconst (v := 0) hx hb dX2_lengthOf_20 (by decide) ?_
    have hP9 := hP.sub (ws' := [(h, .inr (2, [.ref h1, .ref h2, .int d.2.2.1, .int d.2.2.2.1, .long d.2.2.2.2.1, .int d.2.2.2.2.2])), (h1, .inl (cI, 8, .inl d.1)), (h2, .inl (cI, 8, .inl d.2.1))]) [0, 1, 2] rfl
    have hD9 := hD.sub (ws' := [(h, .inr (2, [.ref h1, .ref h2, .int d.2.2.1, .int d.2.2.2.1, .long d.2.2.2.2.1, .int d.2.2.2.2.2])), (h1, .inl (cI, 8, .inl d.1)), (h2, .inl (cI, 8, .inl d.2.1))]) [0, 1, 2] (by decide) rfl
    exact hend () 0 _ _ _ _ dX2_lengthOf_21 hP9 hD9 hS (show 0 = (ptLen i d) from by (first | (simp only [ptLen, c_1, ↓reduceIte, eq_self, not_true_eq_false, not_false_eq_true, and_true, true_and, and_false, false_and]; done) | (simp [ptLen, c_1]; done)))
  · refine lv_iload_n hx hb dX2_lengthOf_4 rfl (lv_at hl 1 rfl) ?_
    refine lv_bipush (v := 8) hx hb dX2_lengthOf_5 (by decide) ?_
    refine lv_icmp_ge (tgt := 20) hx hb dX2_lengthOf_7 (by decide) (fun c_2 => ?_) (fun c_2 => ?_)
    · refine lv_lconst (v := 0) hx hb dX2_lengthOf_20 (by decide) ?_
      have hP9 := hP.sub (ws' := [(h, .inr (2, [.ref h1, .ref h2, .int d.2.2.1, .int d.2.2.2.1, .long d.2.2.2.2.1, .int d.2.2.2.2.2])), (h1, .inl (cI, 8, .inl d.1)), (h2, .inl (cI, 8, .inl d.2.1))]) [0, 1, 2] rfl
      have hD9 := hD.sub (ws' := [(h, .inr (2, [.ref h1, .ref h2, .int d.2.2.1, .int d.2.2.2.1, .long d.2.2.2.2.1, .int d.2.2.2.2.2])), (h1, .inl (cI, 8, .inl d.1)), (h2, .inl (cI, 8, .inl d.2.1))]) [0, 1, 2] (by decide) rfl
      exact hend () 0 _ _ _ _ dX2_lengthOf_21 hP9 hD9 hS (show 0 = (ptLen i d) from by (first | (simp only [ptLen, c_1, c_2, ↓reduceIte, eq_self, not_true_eq_false, not_false_eq_true, and_true, true_and, and_false, false_and]; done) | (simp [ptLen, c_1, c_2]; done)))
    · refine lv_aload_n hx hb dX2_lengthOf_10 rfl (lv_at hl 0 rfl) ?_
      refine va_get (ci := 2) (v := .ref h2) (C := RX2) (T := TX2) (N := 6) hx hb hts inX2 hown hK hP 0 rfl rfl 1 (by decide) (hts _ k_80) (fun _ h9 => h9) rfl dX2_lengthOf_11 ?_
      refine lv_iload_n hx hb dX2_lengthOf_14 rfl (lv_at hl 1 rfl) ?_
      refine va_iald hx hb hK hP 2 0 rfl rfl (sq_in (sq_lo1 c_1) (sq_hi1 (n := 8) c_2 (by decide))) dX2_lengthOf_15 ?_
      refine lv_i2l hx hb dX2_lengthOf_16 rfl ?_
      refine lv_goto (tgt := 21) hx hb dX2_lengthOf_17 (by decide) ?_
      have hP9 := hP.sub (ws' := [(h, .inr (2, [.ref h1, .ref h2, .int d.2.2.1, .int d.2.2.2.1, .long d.2.2.2.2.1, .int d.2.2.2.2.2])), (h1, .inl (cI, 8, .inl d.1)), (h2, .inl (cI, 8, .inl d.2.1))]) [0, 1, 2] rfl
      have hD9 := hD.sub (ws' := [(h, .inr (2, [.ref h1, .ref h2, .int d.2.2.1, .int d.2.2.2.1, .long d.2.2.2.2.1, .int d.2.2.2.2.2])), (h1, .inl (cI, 8, .inl d.1)), (h2, .inl (cI, 8, .inl d.2.1))]) [0, 1, 2] (by decide) rfl
      exact hend () ((d.2.1 i.toNatClampNeg).toInt64) _ _ _ _ dX2_lengthOf_21 hP9 hD9 hS (show ((d.2.1 i.toNatClampNeg).toInt64) = (ptLen i d) from by (first | (simp only [ptLen, c_1, c_2, ↓reduceIte, eq_self, not_true_eq_false, not_false_eq_true, and_true, true_and, and_false, false_and]; done) | (simp [ptLen, c_1, c_2]; done)))

set_option maxHeartbeats 600000 in
set_option maxRecDepth 100000 in
theorem c_X2_passOffset (l : Launch) (D : va_G) (cI cZ cB cJ : ClassId) (sz : Nat) (h : Nat) (h1 : Nat) (h2 : Nat) (d : PT) (off : Int32) (z : Int64) : sq_Mv l yX2_passOffset wsX2_passOffset { frames := 0, cells := 0, slots := 0, locals := 0 } D (sq_T cI cZ cB cJ) sz [.ref h, .int off, .long z] [(h, .inr (2, [.ref h1, .ref h2, .int d.2.2.1, .int d.2.2.2.1, .long d.2.2.2.2.1, .int d.2.2.2.2.2])), (h1, .inl (cI, 8, .inl d.1)), (h2, .inl (cI, 8, .inl d.2.1))] (fun (u1 : PT) => u1 = ptPass off z d) (fun (u1 : PT) => [(h, .inr (2, [.ref h1, .ref h2, .int u1.2.2.1, .int u1.2.2.2.1, .long u1.2.2.2.2.1, .int u1.2.2.2.2.2])), (h1, .inl (cI, 8, .inl u1.1)), (h2, .inl (cI, 8, .inl u1.2.1))]) 0 0 := by
  refine sq_enterv cX2_passOffset 9 (plainFor_of_name (by decide)) rfl (Nat.le_of_ble_eq_true rfl) ?_
  intro p e s m below meth c ls args A Q hargs hx hb hml hown hts hnm hN hP hK hD hA hS hl hend
  have hl : lv_has ls 9 [(0, .ref h), (1, .int off), (2, .long z)] := hl
  refine lv_lload_n hx hb dX2_passOffset_0 rfl (lv_at hl 2 rfl) ?_
  refine lv_lconst (v := 0) hx hb dX2_passOffset_1 (by decide) ?_
  refine sq_lgt (tgt := 7) hx hb dX2_passOffset_2 dX2_passOffset_3 (by decide) (fun c_1 => ?_) (fun c_1 => ?_)
  · refine lv_iload_n hx hb dX2_passOffset_7 rfl (lv_at hl 1 rfl) ?_
    refine lv_i2l hx hb dX2_passOffset_8 rfl ?_
    refine lv_lload_n hx hb dX2_passOffset_9 rfl (lv_at hl 2 rfl) ?_
    refine lv_ldiv hx hb dX2_passOffset_10 (sq_pos (by assumption)) ?_
    refine lv_lstore (lv' := [(4, .long (off.toInt64 / z)), (0, .ref h), (1, .int off), (2, .long z)]) hx hb dX2_passOffset_11 hl (by decide) rfl (fun ls hl => ?_)
    refine lv_iload_n hx hb dX2_passOffset_13 rfl (lv_at hl 2 rfl) ?_
    refine lv_i2l hx hb dX2_passOffset_14 rfl ?_
    refine lv_lload hx hb dX2_passOffset_15 (lv_at hl 0 rfl) ?_
    refine lv_lload_n hx hb dX2_passOffset_17 rfl (lv_at hl 3 rfl) ?_
    refine lv_lmul hx hb dX2_passOffset_18 ?_
    refine lv_lsub hx hb dX2_passOffset_19 ?_
    refine lv_lstore (lv' := [(6, .long (off.toInt64 - ((off.toInt64 / z) * z))), (4, .long (off.toInt64 / z)), (0, .ref h), (1, .int off), (2, .long z)]) hx hb dX2_passOffset_20 hl (by decide) rfl (fun ls hl => ?_)
    refine lv_iconst (v := 0) hx hb dX2_passOffset_22 (by decide) ?_
    refine lv_istore (lv' := [(8, .int 0), (6, .long (off.toInt64 - ((off.toInt64 / z) * z))), (4, .long (off.toInt64 / z)), (0, .ref h), (1, .int off), (2, .long z)]) hx hb dX2_passOffset_23 hl (by decide) rfl (fun ls hl => ?_)
    have L25 : ∀ (n : Nat) (i : Int32) (z2 : Int64) (hq : ptSkip d.2.1 d.2.2.1 n i z2 = ptSkip d.2.1 d.2.2.1 9 0 (off.toInt64 - off.toInt64 / z * z)) (hi : 0 ≤ i.toInt ∧ i.toInt ≤ 7 ∧ 9 ≤ i.toInt + n) (H : Heap) (locs : List Loc), va_P D vwCl [(h, .inr (2, [.ref h1, .ref h2, .int d.2.2.1, .int d.2.2.2.1, .long d.2.2.2.2.1, .int d.2.2.2.2.2])), (h1, .inl (cI, 8, .inl d.1)), (h2, .inl (cI, 8, .inl d.2.1))] H → va_D A [(h, .inr (2, [.ref h1, .ref h2, .int d.2.2.1, .int d.2.2.2.1, .long d.2.2.2.2.1, .int d.2.2.2.2.2])), (h1, .inl (cI, 8, .inl d.1)), (h2, .inl (cI, 8, .inl d.2.1))] → va_S A s.heap H locs → ∀ ls : Array Slot, lv_has ls 9 [(0, .ref h), (1, .int off), (2, .long z), (4, .long (off.toInt64 / z)), (6, .long z2), (8, .int i)] → W p l e ({ frames := 0, cells := 0, slots := 0, locals := 0 } : Room) s m args below meth c H locs 0 0 Q (F0 m 25 ls []) := by
      intro n
      induction n with
      | zero =>
        intro i z2 hq hi
        exact (by omega : False).elim
      | succ n ih =>
        intro i z2 hq hi H locs hP hD hS ls hl
        refine lv_iload hx hb dX2_passOffset_25 (lv_at hl 5 rfl) ?_
        refine lv_aload_n hx hb dX2_passOffset_27 rfl (lv_at hl 0 rfl) ?_
        refine va_get (ci := 2) (v := .int d.2.2.1) (C := RX2) (T := TX2) (N := 6) hx hb hts inX2 hown hK hP 0 rfl rfl 2 (by decide) (hts _ k_81) (fun _ h9 => h9) rfl dX2_passOffset_28 ?_
        refine lv_iconst (v := 1) hx hb dX2_passOffset_31 (by decide) ?_
        refine lv_isub hx hb dX2_passOffset_32 ?_
        refine lv_icmp_ge (tgt := 76) hx hb dX2_passOffset_33 (by decide) (fun c_2 => ?_) (fun c_2 => ?_)
        · have hq9 : (i, z2) = ptSkip d.2.1 d.2.2.1 9 0 (off.toInt64 - off.toInt64 / z * z) := by rw [← hq]; (first | (simp only [ptSkip, c_1, c_2, ↓reduceIte, eq_self, not_true_eq_false, not_false_eq_true, and_true, true_and, and_false, false_and]; done) | (simp [ptSkip, c_1, c_2]; done))
          refine lv_aload_n hx hb dX2_passOffset_76 rfl (lv_at hl 0 rfl) ?_
          refine lv_iload hx hb dX2_passOffset_77 (lv_at hl 5 rfl) ?_
          refine va_put (ci := 2) (v := .int i) (ty := .int) (C := RX2) (T := TX2) (N := 6) hx hb hts inX2 tyX2 tyX2_ok nmX2 hown hK hP hD hS 0 rfl rfl 3 (by decide) (hts _ k_82) (fun _ h9 => h9) rfl (by decide +kernel) rfl rfl (Nat.le_of_ble_eq_true rfl) dX2_passOffset_79 (fun H locs hP hD hS => ?_)
          have hP : va_P D vwCl [(h, .inr (2, [.ref h1, .ref h2, .int d.2.2.1, .int i, .long d.2.2.2.2.1, .int d.2.2.2.2.2])), (h1, .inl (cI, 8, .inl d.1)), (h2, .inl (cI, 8, .inl d.2.1))] H := hP
          have hD : va_D A [(h, .inr (2, [.ref h1, .ref h2, .int d.2.2.1, .int i, .long d.2.2.2.2.1, .int d.2.2.2.2.2])), (h1, .inl (cI, 8, .inl d.1)), (h2, .inl (cI, 8, .inl d.2.1))] := hD
          refine lv_aload_n hx hb dX2_passOffset_82 rfl (lv_at hl 0 rfl) ?_
          refine lv_aload_n hx hb dX2_passOffset_83 rfl (lv_at hl 0 rfl) ?_
          refine va_get (ci := 2) (v := .ref h2) (C := RX2) (T := TX2) (N := 6) hx hb hts inX2 hown hK hP 0 rfl rfl 1 (by decide) (hts _ k_80) (fun _ h9 => h9) rfl dX2_passOffset_84 ?_
          refine lv_iload hx hb dX2_passOffset_87 (lv_at hl 5 rfl) ?_
          refine va_iald hx hb hK hP 2 0 rfl rfl (sq_in hi.1 (by omega)) dX2_passOffset_89 ?_
          refine lv_i2l hx hb dX2_passOffset_90 rfl ?_
          refine lv_lload hx hb dX2_passOffset_91 (lv_at hl 4 rfl) ?_
          refine lv_lsub hx hb dX2_passOffset_93 ?_
          refine va_put (ci := 2) (v := .long (((d.2.1 i.toNatClampNeg).toInt64) - z2)) (ty := .long) (C := RX2) (T := TX2) (N := 6) hx hb hts inX2 tyX2 tyX2_ok nmX2 hown hK hP hD hS 0 rfl rfl 4 (by decide) (hts _ k_83) (fun _ h9 => h9) rfl (by decide +kernel) rfl rfl (Nat.le_of_ble_eq_true rfl) dX2_passOffset_94 (fun H locs hP hD hS => ?_)
          have hP : va_P D vwCl [(h, .inr (2, [.ref h1, .ref h2, .int d.2.2.1, .int i, .long (((d.2.1 i.toNatClampNeg).toInt64) - z2), .int d.2.2.2.2.2])), (h1, .inl (cI, 8, .inl d.1)), (h2, .inl (cI, 8, .inl d.2.1))] H := hP
          have hD : va_D A [(h, .inr (2, [.ref h1, .ref h2, .int d.2.2.1, .int i, .long (((d.2.1 i.toNatClampNeg).toInt64) - z2), .int d.2.2.2.2.2])), (h1, .inl (cI, 8, .inl d.1)), (h2, .inl (cI, 8, .inl d.2.1))] := hD
          refine lv_aload_n hx hb dX2_passOffset_97 rfl (lv_at hl 0 rfl) ?_
          have J122 : W p l e ({ frames := 0, cells := 0, slots := 0, locals := 0 } : Room) s m args below meth c H locs 0 0 Q (F0 m 122 ls [.int (if (off.toInt64 / z * d.2.2.1.toInt64 + i.toInt64) &&& 1 = 1 then 1 else 0), .ref h]) := by
            refine va_put (ci := 2) (v := .int (if (off.toInt64 / z * d.2.2.1.toInt64 + i.toInt64) &&& 1 = 1 then 1 else 0)) (ty := .boolean) (C := RX2) (T := TX2) (N := 6) hx hb hts inX2 tyX2 tyX2_ok nmX2 hown hK hP hD hS 0 rfl rfl 5 (by decide) (hts _ k_84) (fun _ h9 => h9) rfl (by decide +kernel) sq_bi.1 sq_bi.2 (Nat.le_of_ble_eq_true rfl) dX2_passOffset_122 (fun H locs hP hD hS => ?_)
            have hP : va_P D vwCl [(h, .inr (2, [.ref h1, .ref h2, .int d.2.2.1, .int i, .long (((d.2.1 i.toNatClampNeg).toInt64) - z2), .int (if (off.toInt64 / z * d.2.2.1.toInt64 + i.toInt64) &&& 1 = 1 then 1 else 0)])), (h1, .inl (cI, 8, .inl d.1)), (h2, .inl (cI, 8, .inl d.2.1))] H := hP
            have hD : va_D A [(h, .inr (2, [.ref h1, .ref h2, .int d.2.2.1, .int i, .long (((d.2.1 i.toNatClampNeg).toInt64) - z2), .int (if (off.toInt64 / z * d.2.2.1.toInt64 + i.toInt64) &&& 1 = 1 then 1 else 0)])), (h1, .inl (cI, 8, .inl d.1)), (h2, .inl (cI, 8, .inl d.2.1))] := hD
            have hP9 := hP.sub (ws' := [(h, .inr (2, [.ref h1, .ref h2, .int d.2.2.1, .int i, .long (((d.2.1 i.toNatClampNeg).toInt64) - z2), .int (if (off.toInt64 / z * d.2.2.1.toInt64 + i.toInt64) &&& 1 = 1 then 1 else 0)])), (h1, .inl (cI, 8, .inl d.1)), (h2, .inl (cI, 8, .inl d.2.1))]) [0, 1, 2] rfl
            have hD9 := hD.sub (ws' := [(h, .inr (2, [.ref h1, .ref h2, .int d.2.2.1, .int i, .long (((d.2.1 i.toNatClampNeg).toInt64) - z2), .int (if (off.toInt64 / z * d.2.2.1.toInt64 + i.toInt64) &&& 1 = 1 then 1 else 0)])), (h1, .inl (cI, 8, .inl d.1)), (h2, .inl (cI, 8, .inl d.2.1))]) [0, 1, 2] (by decide) rfl
            have hP9 : va_P D vwCl [(h, .inr (2, [.ref h1, .ref h2, .int ((d.1, d.2.1, d.2.2.1, i, ((d.2.1 i.toNatClampNeg).toInt64) - z2, if (off.toInt64 / z * d.2.2.1.toInt64 + i.toInt64) &&& 1 = 1 then 1 else 0).2.2.1), .int ((d.1, d.2.1, d.2.2.1, i, ((d.2.1 i.toNatClampNeg).toInt64) - z2, if (off.toInt64 / z * d.2.2.1.toInt64 + i.toInt64) &&& 1 = 1 then 1 else 0).2.2.2.1), .long ((d.1, d.2.1, d.2.2.1, i, ((d.2.1 i.toNatClampNeg).toInt64) - z2, if (off.toInt64 / z * d.2.2.1.toInt64 + i.toInt64) &&& 1 = 1 then 1 else 0).2.2.2.2.1), .int ((d.1, d.2.1, d.2.2.1, i, ((d.2.1 i.toNatClampNeg).toInt64) - z2, if (off.toInt64 / z * d.2.2.1.toInt64 + i.toInt64) &&& 1 = 1 then 1 else 0).2.2.2.2.2)])), (h1, .inl (cI, 8, .inl ((d.1, d.2.1, d.2.2.1, i, ((d.2.1 i.toNatClampNeg).toInt64) - z2, if (off.toInt64 / z * d.2.2.1.toInt64 + i.toInt64) &&& 1 = 1 then 1 else 0).1))), (h2, .inl (cI, 8, .inl ((d.1, d.2.1, d.2.2.1, i, ((d.2.1 i.toNatClampNeg).toInt64) - z2, if (off.toInt64 / z * d.2.2.1.toInt64 + i.toInt64) &&& 1 = 1 then 1 else 0).2.1)))] H := hP9
            have hD9 : va_D A [(h, .inr (2, [.ref h1, .ref h2, .int ((d.1, d.2.1, d.2.2.1, i, ((d.2.1 i.toNatClampNeg).toInt64) - z2, if (off.toInt64 / z * d.2.2.1.toInt64 + i.toInt64) &&& 1 = 1 then 1 else 0).2.2.1), .int ((d.1, d.2.1, d.2.2.1, i, ((d.2.1 i.toNatClampNeg).toInt64) - z2, if (off.toInt64 / z * d.2.2.1.toInt64 + i.toInt64) &&& 1 = 1 then 1 else 0).2.2.2.1), .long ((d.1, d.2.1, d.2.2.1, i, ((d.2.1 i.toNatClampNeg).toInt64) - z2, if (off.toInt64 / z * d.2.2.1.toInt64 + i.toInt64) &&& 1 = 1 then 1 else 0).2.2.2.2.1), .int ((d.1, d.2.1, d.2.2.1, i, ((d.2.1 i.toNatClampNeg).toInt64) - z2, if (off.toInt64 / z * d.2.2.1.toInt64 + i.toInt64) &&& 1 = 1 then 1 else 0).2.2.2.2.2)])), (h1, .inl (cI, 8, .inl ((d.1, d.2.1, d.2.2.1, i, ((d.2.1 i.toNatClampNeg).toInt64) - z2, if (off.toInt64 / z * d.2.2.1.toInt64 + i.toInt64) &&& 1 = 1 then 1 else 0).1))), (h2, .inl (cI, 8, .inl ((d.1, d.2.1, d.2.2.1, i, ((d.2.1 i.toNatClampNeg).toInt64) - z2, if (off.toInt64 / z * d.2.2.1.toInt64 + i.toInt64) &&& 1 = 1 then 1 else 0).2.1)))] := hD9
            exact hend (d.1, d.2.1, d.2.2.1, i, ((d.2.1 i.toNatClampNeg).toInt64) - z2, if (off.toInt64 / z * d.2.2.1.toInt64 + i.toInt64) &&& 1 = 1 then 1 else 0) _ _ _ _ dX2_passOffset_125 hP9 hD9 hS (show (d.1, d.2.1, d.2.2.1, i, ((d.2.1 i.toNatClampNeg).toInt64) - z2, if (off.toInt64 / z * d.2.2.1.toInt64 + i.toInt64) &&& 1 = 1 then 1 else 0) = ptPass off z d from by rw [ptPass, if_pos c_1, ← hq9])
          refine lv_lload hx hb dX2_passOffset_98 (lv_at hl 3 rfl) ?_
          refine lv_aload_n hx hb dX2_passOffset_100 rfl (lv_at hl 0 rfl) ?_
          refine va_get (ci := 2) (v := .int d.2.2.1) (C := RX2) (T := TX2) (N := 6) hx hb hts inX2 hown hK hP 0 rfl rfl 2 (by decide) (hts _ k_81) (fun _ h9 => h9) rfl dX2_passOffset_101 ?_
          refine lv_i2l hx hb dX2_passOffset_104 rfl ?_
          refine lv_lmul hx hb dX2_passOffset_105 ?_
          refine lv_iload hx hb dX2_passOffset_106 (lv_at hl 5 rfl) ?_
          refine lv_i2l hx hb dX2_passOffset_108 rfl ?_
          refine lv_ladd hx hb dX2_passOffset_109 ?_
          refine lv_lconst (v := 1) hx hb dX2_passOffset_110 (by decide) ?_
          refine lv_land hx hb dX2_passOffset_111 ?_
          refine lv_lconst (v := 1) hx hb dX2_passOffset_112 (by decide) ?_
          refine sq_lne (tgt := 121) hx hb dX2_passOffset_113 dX2_passOffset_114 (by decide) (fun c_3 => ?_) (fun c_3 => ?_)
          · refine lv_iconst (v := 0) hx hb dX2_passOffset_121 (by decide) ?_
            exact sq_ti (show 0 = (if (off.toInt64 / z * d.2.2.1.toInt64 + i.toInt64) &&& 1 = 1 then 1 else 0) from by (first | (simp only [c_1, hq, hi, c_2, c_3, ↓reduceIte, eq_self, not_true_eq_false, not_false_eq_true, and_true, true_and, and_false, false_and]; done) | (simp [c_1, hq, hi, c_2, c_3]; done))) J122
          · refine lv_iconst (v := 1) hx hb dX2_passOffset_117 (by decide) ?_
            refine lv_goto (tgt := 122) hx hb dX2_passOffset_118 (by decide) ?_
            exact sq_ti (show 1 = (if (off.toInt64 / z * d.2.2.1.toInt64 + i.toInt64) &&& 1 = 1 then 1 else 0) from by (first | (simp only [c_1, hq, hi, c_2, c_3, ↓reduceIte, eq_self, not_true_eq_false, not_false_eq_true, and_true, true_and, and_false, false_and]; done) | (simp [c_1, hq, hi, c_2, c_3]; done))) J122
        · refine lv_iload hx hb dX2_passOffset_36 (lv_at hl 5 rfl) ?_
          refine lv_bipush (v := 7) hx hb dX2_passOffset_38 (by decide) ?_
          refine lv_icmp_ge (tgt := 76) hx hb dX2_passOffset_40 (by decide) (fun c_4 => ?_) (fun c_4 => ?_)
          · have hq9 : (i, z2) = ptSkip d.2.1 d.2.2.1 9 0 (off.toInt64 - off.toInt64 / z * z) := by rw [← hq]; (first | (simp only [ptSkip, c_1, c_2, c_4, ↓reduceIte, eq_self, not_true_eq_false, not_false_eq_true, and_true, true_and, and_false, false_and]; done) | (simp [ptSkip, c_1, c_2, c_4]; done))
            refine lv_aload_n hx hb dX2_passOffset_76 rfl (lv_at hl 0 rfl) ?_
            refine lv_iload hx hb dX2_passOffset_77 (lv_at hl 5 rfl) ?_
            refine va_put (ci := 2) (v := .int i) (ty := .int) (C := RX2) (T := TX2) (N := 6) hx hb hts inX2 tyX2 tyX2_ok nmX2 hown hK hP hD hS 0 rfl rfl 3 (by decide) (hts _ k_82) (fun _ h9 => h9) rfl (by decide +kernel) rfl rfl (Nat.le_of_ble_eq_true rfl) dX2_passOffset_79 (fun H locs hP hD hS => ?_)
            have hP : va_P D vwCl [(h, .inr (2, [.ref h1, .ref h2, .int d.2.2.1, .int i, .long d.2.2.2.2.1, .int d.2.2.2.2.2])), (h1, .inl (cI, 8, .inl d.1)), (h2, .inl (cI, 8, .inl d.2.1))] H := hP
            have hD : va_D A [(h, .inr (2, [.ref h1, .ref h2, .int d.2.2.1, .int i, .long d.2.2.2.2.1, .int d.2.2.2.2.2])), (h1, .inl (cI, 8, .inl d.1)), (h2, .inl (cI, 8, .inl d.2.1))] := hD
            refine lv_aload_n hx hb dX2_passOffset_82 rfl (lv_at hl 0 rfl) ?_
            refine lv_aload_n hx hb dX2_passOffset_83 rfl (lv_at hl 0 rfl) ?_
            refine va_get (ci := 2) (v := .ref h2) (C := RX2) (T := TX2) (N := 6) hx hb hts inX2 hown hK hP 0 rfl rfl 1 (by decide) (hts _ k_80) (fun _ h9 => h9) rfl dX2_passOffset_84 ?_
            refine lv_iload hx hb dX2_passOffset_87 (lv_at hl 5 rfl) ?_
            refine va_iald hx hb hK hP 2 0 rfl rfl (sq_in hi.1 (by omega)) dX2_passOffset_89 ?_
            refine lv_i2l hx hb dX2_passOffset_90 rfl ?_
            refine lv_lload hx hb dX2_passOffset_91 (lv_at hl 4 rfl) ?_
            refine lv_lsub hx hb dX2_passOffset_93 ?_
            refine va_put (ci := 2) (v := .long (((d.2.1 i.toNatClampNeg).toInt64) - z2)) (ty := .long) (C := RX2) (T := TX2) (N := 6) hx hb hts inX2 tyX2 tyX2_ok nmX2 hown hK hP hD hS 0 rfl rfl 4 (by decide) (hts _ k_83) (fun _ h9 => h9) rfl (by decide +kernel) rfl rfl (Nat.le_of_ble_eq_true rfl) dX2_passOffset_94 (fun H locs hP hD hS => ?_)
            have hP : va_P D vwCl [(h, .inr (2, [.ref h1, .ref h2, .int d.2.2.1, .int i, .long (((d.2.1 i.toNatClampNeg).toInt64) - z2), .int d.2.2.2.2.2])), (h1, .inl (cI, 8, .inl d.1)), (h2, .inl (cI, 8, .inl d.2.1))] H := hP
            have hD : va_D A [(h, .inr (2, [.ref h1, .ref h2, .int d.2.2.1, .int i, .long (((d.2.1 i.toNatClampNeg).toInt64) - z2), .int d.2.2.2.2.2])), (h1, .inl (cI, 8, .inl d.1)), (h2, .inl (cI, 8, .inl d.2.1))] := hD
            refine lv_aload_n hx hb dX2_passOffset_97 rfl (lv_at hl 0 rfl) ?_
            have J122 : W p l e ({ frames := 0, cells := 0, slots := 0, locals := 0 } : Room) s m args below meth c H locs 0 0 Q (F0 m 122 ls [.int (if (off.toInt64 / z * d.2.2.1.toInt64 + i.toInt64) &&& 1 = 1 then 1 else 0), .ref h]) := by
              refine va_put (ci := 2) (v := .int (if (off.toInt64 / z * d.2.2.1.toInt64 + i.toInt64) &&& 1 = 1 then 1 else 0)) (ty := .boolean) (C := RX2) (T := TX2) (N := 6) hx hb hts inX2 tyX2 tyX2_ok nmX2 hown hK hP hD hS 0 rfl rfl 5 (by decide) (hts _ k_84) (fun _ h9 => h9) rfl (by decide +kernel) sq_bi.1 sq_bi.2 (Nat.le_of_ble_eq_true rfl) dX2_passOffset_122 (fun H locs hP hD hS => ?_)
              have hP : va_P D vwCl [(h, .inr (2, [.ref h1, .ref h2, .int d.2.2.1, .int i, .long (((d.2.1 i.toNatClampNeg).toInt64) - z2), .int (if (off.toInt64 / z * d.2.2.1.toInt64 + i.toInt64) &&& 1 = 1 then 1 else 0)])), (h1, .inl (cI, 8, .inl d.1)), (h2, .inl (cI, 8, .inl d.2.1))] H := hP
              have hD : va_D A [(h, .inr (2, [.ref h1, .ref h2, .int d.2.2.1, .int i, .long (((d.2.1 i.toNatClampNeg).toInt64) - z2), .int (if (off.toInt64 / z * d.2.2.1.toInt64 + i.toInt64) &&& 1 = 1 then 1 else 0)])), (h1, .inl (cI, 8, .inl d.1)), (h2, .inl (cI, 8, .inl d.2.1))] := hD
              have hP9 := hP.sub (ws' := [(h, .inr (2, [.ref h1, .ref h2, .int d.2.2.1, .int i, .long (((d.2.1 i.toNatClampNeg).toInt64) - z2), .int (if (off.toInt64 / z * d.2.2.1.toInt64 + i.toInt64) &&& 1 = 1 then 1 else 0)])), (h1, .inl (cI, 8, .inl d.1)), (h2, .inl (cI, 8, .inl d.2.1))]) [0, 1, 2] rfl
              have hD9 := hD.sub (ws' := [(h, .inr (2, [.ref h1, .ref h2, .int d.2.2.1, .int i, .long (((d.2.1 i.toNatClampNeg).toInt64) - z2), .int (if (off.toInt64 / z * d.2.2.1.toInt64 + i.toInt64) &&& 1 = 1 then 1 else 0)])), (h1, .inl (cI, 8, .inl d.1)), (h2, .inl (cI, 8, .inl d.2.1))]) [0, 1, 2] (by decide) rfl
              have hP9 : va_P D vwCl [(h, .inr (2, [.ref h1, .ref h2, .int ((d.1, d.2.1, d.2.2.1, i, ((d.2.1 i.toNatClampNeg).toInt64) - z2, if (off.toInt64 / z * d.2.2.1.toInt64 + i.toInt64) &&& 1 = 1 then 1 else 0).2.2.1), .int ((d.1, d.2.1, d.2.2.1, i, ((d.2.1 i.toNatClampNeg).toInt64) - z2, if (off.toInt64 / z * d.2.2.1.toInt64 + i.toInt64) &&& 1 = 1 then 1 else 0).2.2.2.1), .long ((d.1, d.2.1, d.2.2.1, i, ((d.2.1 i.toNatClampNeg).toInt64) - z2, if (off.toInt64 / z * d.2.2.1.toInt64 + i.toInt64) &&& 1 = 1 then 1 else 0).2.2.2.2.1), .int ((d.1, d.2.1, d.2.2.1, i, ((d.2.1 i.toNatClampNeg).toInt64) - z2, if (off.toInt64 / z * d.2.2.1.toInt64 + i.toInt64) &&& 1 = 1 then 1 else 0).2.2.2.2.2)])), (h1, .inl (cI, 8, .inl ((d.1, d.2.1, d.2.2.1, i, ((d.2.1 i.toNatClampNeg).toInt64) - z2, if (off.toInt64 / z * d.2.2.1.toInt64 + i.toInt64) &&& 1 = 1 then 1 else 0).1))), (h2, .inl (cI, 8, .inl ((d.1, d.2.1, d.2.2.1, i, ((d.2.1 i.toNatClampNeg).toInt64) - z2, if (off.toInt64 / z * d.2.2.1.toInt64 + i.toInt64) &&& 1 = 1 then 1 else 0).2.1)))] H := hP9
              have hD9 : va_D A [(h, .inr (2, [.ref h1, .ref h2, .int ((d.1, d.2.1, d.2.2.1, i, ((d.2.1 i.toNatClampNeg).toInt64) - z2, if (off.toInt64 / z * d.2.2.1.toInt64 + i.toInt64) &&& 1 = 1 then 1 else 0).2.2.1), .int ((d.1, d.2.1, d.2.2.1, i, ((d.2.1 i.toNatClampNeg).toInt64) - z2, if (off.toInt64 / z * d.2.2.1.toInt64 + i.toInt64) &&& 1 = 1 then 1 else 0).2.2.2.1), .long ((d.1, d.2.1, d.2.2.1, i, ((d.2.1 i.toNatClampNeg).toInt64) - z2, if (off.toInt64 / z * d.2.2.1.toInt64 + i.toInt64) &&& 1 = 1 then 1 else 0).2.2.2.2.1), .int ((d.1, d.2.1, d.2.2.1, i, ((d.2.1 i.toNatClampNeg).toInt64) - z2, if (off.toInt64 / z * d.2.2.1.toInt64 + i.toInt64) &&& 1 = 1 then 1 else 0).2.2.2.2.2)])), (h1, .inl (cI, 8, .inl ((d.1, d.2.1, d.2.2.1, i, ((d.2.1 i.toNatClampNeg).toInt64) - z2, if (off.toInt64 / z * d.2.2.1.toInt64 + i.toInt64) &&& 1 = 1 then 1 else 0).1))), (h2, .inl (cI, 8, .inl ((d.1, d.2.1, d.2.2.1, i, ((d.2.1 i.toNatClampNeg).toInt64) - z2, if (off.toInt64 / z * d.2.2.1.toInt64 + i.toInt64) &&& 1 = 1 then 1 else 0).2.1)))] := hD9
              exact hend (d.1, d.2.1, d.2.2.1, i, ((d.2.1 i.toNatClampNeg).toInt64) - z2, if (off.toInt64 / z * d.2.2.1.toInt64 + i.toInt64) &&& 1 = 1 then 1 else 0) _ _ _ _ dX2_passOffset_125 hP9 hD9 hS (show (d.1, d.2.1, d.2.2.1, i, ((d.2.1 i.toNatClampNeg).toInt64) - z2, if (off.toInt64 / z * d.2.2.1.toInt64 + i.toInt64) &&& 1 = 1 then 1 else 0) = ptPass off z d from by rw [ptPass, if_pos c_1, ← hq9])
            refine lv_lload hx hb dX2_passOffset_98 (lv_at hl 3 rfl) ?_
            refine lv_aload_n hx hb dX2_passOffset_100 rfl (lv_at hl 0 rfl) ?_
            refine va_get (ci := 2) (v := .int d.2.2.1) (C := RX2) (T := TX2) (N := 6) hx hb hts inX2 hown hK hP 0 rfl rfl 2 (by decide) (hts _ k_81) (fun _ h9 => h9) rfl dX2_passOffset_101 ?_
            refine lv_i2l hx hb dX2_passOffset_104 rfl ?_
            refine lv_lmul hx hb dX2_passOffset_105 ?_
            refine lv_iload hx hb dX2_passOffset_106 (lv_at hl 5 rfl) ?_
            refine lv_i2l hx hb dX2_passOffset_108 rfl ?_
            refine lv_ladd hx hb dX2_passOffset_109 ?_
            refine lv_lconst (v := 1) hx hb dX2_passOffset_110 (by decide) ?_
            refine lv_land hx hb dX2_passOffset_111 ?_
            refine lv_lconst (v := 1) hx hb dX2_passOffset_112 (by decide) ?_
            refine sq_lne (tgt := 121) hx hb dX2_passOffset_113 dX2_passOffset_114 (by decide) (fun c_5 => ?_) (fun c_5 => ?_)
            · refine lv_iconst (v := 0) hx hb dX2_passOffset_121 (by decide) ?_
              exact sq_ti (show 0 = (if (off.toInt64 / z * d.2.2.1.toInt64 + i.toInt64) &&& 1 = 1 then 1 else 0) from by (first | (simp only [c_1, hq, hi, c_2, c_4, c_5, ↓reduceIte, eq_self, not_true_eq_false, not_false_eq_true, and_true, true_and, and_false, false_and]; done) | (simp [c_1, hq, hi, c_2, c_4, c_5]; done))) J122
            · refine lv_iconst (v := 1) hx hb dX2_passOffset_117 (by decide) ?_
              refine lv_goto (tgt := 122) hx hb dX2_passOffset_118 (by decide) ?_
              exact sq_ti (show 1 = (if (off.toInt64 / z * d.2.2.1.toInt64 + i.toInt64) &&& 1 = 1 then 1 else 0) from by (first | (simp only [c_1, hq, hi, c_2, c_4, c_5, ↓reduceIte, eq_self, not_true_eq_false, not_false_eq_true, and_true, true_and, and_false, false_and]; done) | (simp [c_1, hq, hi, c_2, c_4, c_5]; done))) J122
          · refine lv_aload_n hx hb dX2_passOffset_43 rfl (lv_at hl 0 rfl) ?_
            refine va_get (ci := 2) (v := .ref h2) (C := RX2) (T := TX2) (N := 6) hx hb hts inX2 hown hK hP 0 rfl rfl 1 (by decide) (hts _ k_80) (fun _ h9 => h9) rfl dX2_passOffset_44 ?_
            refine lv_iload hx hb dX2_passOffset_47 (lv_at hl 5 rfl) ?_
            refine va_iald hx hb hK hP 2 0 rfl rfl (sq_in hi.1 (by omega)) dX2_passOffset_49 ?_
            refine lv_i2l hx hb dX2_passOffset_50 rfl ?_
            refine lv_lload hx hb dX2_passOffset_51 (lv_at hl 4 rfl) ?_
            refine sq_lgt (tgt := 76) hx hb dX2_passOffset_53 dX2_passOffset_54 (by decide) (fun c_6 => ?_) (fun c_6 => ?_)
            · have hq9 : (i, z2) = ptSkip d.2.1 d.2.2.1 9 0 (off.toInt64 - off.toInt64 / z * z) := by rw [← hq]; (first | (simp only [ptSkip, c_1, c_2, c_4, c_6, ↓reduceIte, eq_self, not_true_eq_false, not_false_eq_true, and_true, true_and, and_false, false_and]; done) | (simp [ptSkip, c_1, c_2, c_4, c_6]; done))
              refine lv_aload_n hx hb dX2_passOffset_76 rfl (lv_at hl 0 rfl) ?_
              refine lv_iload hx hb dX2_passOffset_77 (lv_at hl 5 rfl) ?_
              refine va_put (ci := 2) (v := .int i) (ty := .int) (C := RX2) (T := TX2) (N := 6) hx hb hts inX2 tyX2 tyX2_ok nmX2 hown hK hP hD hS 0 rfl rfl 3 (by decide) (hts _ k_82) (fun _ h9 => h9) rfl (by decide +kernel) rfl rfl (Nat.le_of_ble_eq_true rfl) dX2_passOffset_79 (fun H locs hP hD hS => ?_)
              have hP : va_P D vwCl [(h, .inr (2, [.ref h1, .ref h2, .int d.2.2.1, .int i, .long d.2.2.2.2.1, .int d.2.2.2.2.2])), (h1, .inl (cI, 8, .inl d.1)), (h2, .inl (cI, 8, .inl d.2.1))] H := hP
              have hD : va_D A [(h, .inr (2, [.ref h1, .ref h2, .int d.2.2.1, .int i, .long d.2.2.2.2.1, .int d.2.2.2.2.2])), (h1, .inl (cI, 8, .inl d.1)), (h2, .inl (cI, 8, .inl d.2.1))] := hD
              refine lv_aload_n hx hb dX2_passOffset_82 rfl (lv_at hl 0 rfl) ?_
              refine lv_aload_n hx hb dX2_passOffset_83 rfl (lv_at hl 0 rfl) ?_
              refine va_get (ci := 2) (v := .ref h2) (C := RX2) (T := TX2) (N := 6) hx hb hts inX2 hown hK hP 0 rfl rfl 1 (by decide) (hts _ k_80) (fun _ h9 => h9) rfl dX2_passOffset_84 ?_
              refine lv_iload hx hb dX2_passOffset_87 (lv_at hl 5 rfl) ?_
              refine va_iald hx hb hK hP 2 0 rfl rfl (sq_in hi.1 (by omega)) dX2_passOffset_89 ?_
              refine lv_i2l hx hb dX2_passOffset_90 rfl ?_
              refine lv_lload hx hb dX2_passOffset_91 (lv_at hl 4 rfl) ?_
              refine lv_lsub hx hb dX2_passOffset_93 ?_
              refine va_put (ci := 2) (v := .long (((d.2.1 i.toNatClampNeg).toInt64) - z2)) (ty := .long) (C := RX2) (T := TX2) (N := 6) hx hb hts inX2 tyX2 tyX2_ok nmX2 hown hK hP hD hS 0 rfl rfl 4 (by decide) (hts _ k_83) (fun _ h9 => h9) rfl (by decide +kernel) rfl rfl (Nat.le_of_ble_eq_true rfl) dX2_passOffset_94 (fun H locs hP hD hS => ?_)
              have hP : va_P D vwCl [(h, .inr (2, [.ref h1, .ref h2, .int d.2.2.1, .int i, .long (((d.2.1 i.toNatClampNeg).toInt64) - z2), .int d.2.2.2.2.2])), (h1, .inl (cI, 8, .inl d.1)), (h2, .inl (cI, 8, .inl d.2.1))] H := hP
              have hD : va_D A [(h, .inr (2, [.ref h1, .ref h2, .int d.2.2.1, .int i, .long (((d.2.1 i.toNatClampNeg).toInt64) - z2), .int d.2.2.2.2.2])), (h1, .inl (cI, 8, .inl d.1)), (h2, .inl (cI, 8, .inl d.2.1))] := hD
              refine lv_aload_n hx hb dX2_passOffset_97 rfl (lv_at hl 0 rfl) ?_
              have J122 : W p l e ({ frames := 0, cells := 0, slots := 0, locals := 0 } : Room) s m args below meth c H locs 0 0 Q (F0 m 122 ls [.int (if (off.toInt64 / z * d.2.2.1.toInt64 + i.toInt64) &&& 1 = 1 then 1 else 0), .ref h]) := by
                refine va_put (ci := 2) (v := .int (if (off.toInt64 / z * d.2.2.1.toInt64 + i.toInt64) &&& 1 = 1 then 1 else 0)) (ty := .boolean) (C := RX2) (T := TX2) (N := 6) hx hb hts inX2 tyX2 tyX2_ok nmX2 hown hK hP hD hS 0 rfl rfl 5 (by decide) (hts _ k_84) (fun _ h9 => h9) rfl (by decide +kernel) sq_bi.1 sq_bi.2 (Nat.le_of_ble_eq_true rfl) dX2_passOffset_122 (fun H locs hP hD hS => ?_)
                have hP : va_P D vwCl [(h, .inr (2, [.ref h1, .ref h2, .int d.2.2.1, .int i, .long (((d.2.1 i.toNatClampNeg).toInt64) - z2), .int (if (off.toInt64 / z * d.2.2.1.toInt64 + i.toInt64) &&& 1 = 1 then 1 else 0)])), (h1, .inl (cI, 8, .inl d.1)), (h2, .inl (cI, 8, .inl d.2.1))] H := hP
                have hD : va_D A [(h, .inr (2, [.ref h1, .ref h2, .int d.2.2.1, .int i, .long (((d.2.1 i.toNatClampNeg).toInt64) - z2), .int (if (off.toInt64 / z * d.2.2.1.toInt64 + i.toInt64) &&& 1 = 1 then 1 else 0)])), (h1, .inl (cI, 8, .inl d.1)), (h2, .inl (cI, 8, .inl d.2.1))] := hD
                have hP9 := hP.sub (ws' := [(h, .inr (2, [.ref h1, .ref h2, .int d.2.2.1, .int i, .long (((d.2.1 i.toNatClampNeg).toInt64) - z2), .int (if (off.toInt64 / z * d.2.2.1.toInt64 + i.toInt64) &&& 1 = 1 then 1 else 0)])), (h1, .inl (cI, 8, .inl d.1)), (h2, .inl (cI, 8, .inl d.2.1))]) [0, 1, 2] rfl
                have hD9 := hD.sub (ws' := [(h, .inr (2, [.ref h1, .ref h2, .int d.2.2.1, .int i, .long (((d.2.1 i.toNatClampNeg).toInt64) - z2), .int (if (off.toInt64 / z * d.2.2.1.toInt64 + i.toInt64) &&& 1 = 1 then 1 else 0)])), (h1, .inl (cI, 8, .inl d.1)), (h2, .inl (cI, 8, .inl d.2.1))]) [0, 1, 2] (by decide) rfl
                have hP9 : va_P D vwCl [(h, .inr (2, [.ref h1, .ref h2, .int ((d.1, d.2.1, d.2.2.1, i, ((d.2.1 i.toNatClampNeg).toInt64) - z2, if (off.toInt64 / z * d.2.2.1.toInt64 + i.toInt64) &&& 1 = 1 then 1 else 0).2.2.1), .int ((d.1, d.2.1, d.2.2.1, i, ((d.2.1 i.toNatClampNeg).toInt64) - z2, if (off.toInt64 / z * d.2.2.1.toInt64 + i.toInt64) &&& 1 = 1 then 1 else 0).2.2.2.1), .long ((d.1, d.2.1, d.2.2.1, i, ((d.2.1 i.toNatClampNeg).toInt64) - z2, if (off.toInt64 / z * d.2.2.1.toInt64 + i.toInt64) &&& 1 = 1 then 1 else 0).2.2.2.2.1), .int ((d.1, d.2.1, d.2.2.1, i, ((d.2.1 i.toNatClampNeg).toInt64) - z2, if (off.toInt64 / z * d.2.2.1.toInt64 + i.toInt64) &&& 1 = 1 then 1 else 0).2.2.2.2.2)])), (h1, .inl (cI, 8, .inl ((d.1, d.2.1, d.2.2.1, i, ((d.2.1 i.toNatClampNeg).toInt64) - z2, if (off.toInt64 / z * d.2.2.1.toInt64 + i.toInt64) &&& 1 = 1 then 1 else 0).1))), (h2, .inl (cI, 8, .inl ((d.1, d.2.1, d.2.2.1, i, ((d.2.1 i.toNatClampNeg).toInt64) - z2, if (off.toInt64 / z * d.2.2.1.toInt64 + i.toInt64) &&& 1 = 1 then 1 else 0).2.1)))] H := hP9
                have hD9 : va_D A [(h, .inr (2, [.ref h1, .ref h2, .int ((d.1, d.2.1, d.2.2.1, i, ((d.2.1 i.toNatClampNeg).toInt64) - z2, if (off.toInt64 / z * d.2.2.1.toInt64 + i.toInt64) &&& 1 = 1 then 1 else 0).2.2.1), .int ((d.1, d.2.1, d.2.2.1, i, ((d.2.1 i.toNatClampNeg).toInt64) - z2, if (off.toInt64 / z * d.2.2.1.toInt64 + i.toInt64) &&& 1 = 1 then 1 else 0).2.2.2.1), .long ((d.1, d.2.1, d.2.2.1, i, ((d.2.1 i.toNatClampNeg).toInt64) - z2, if (off.toInt64 / z * d.2.2.1.toInt64 + i.toInt64) &&& 1 = 1 then 1 else 0).2.2.2.2.1), .int ((d.1, d.2.1, d.2.2.1, i, ((d.2.1 i.toNatClampNeg).toInt64) - z2, if (off.toInt64 / z * d.2.2.1.toInt64 + i.toInt64) &&& 1 = 1 then 1 else 0).2.2.2.2.2)])), (h1, .inl (cI, 8, .inl ((d.1, d.2.1, d.2.2.1, i, ((d.2.1 i.toNatClampNeg).toInt64) - z2, if (off.toInt64 / z * d.2.2.1.toInt64 + i.toInt64) &&& 1 = 1 then 1 else 0).1))), (h2, .inl (cI, 8, .inl ((d.1, d.2.1, d.2.2.1, i, ((d.2.1 i.toNatClampNeg).toInt64) - z2, if (off.toInt64 / z * d.2.2.1.toInt64 + i.toInt64) &&& 1 = 1 then 1 else 0).2.1)))] := hD9
                exact hend (d.1, d.2.1, d.2.2.1, i, ((d.2.1 i.toNatClampNeg).toInt64) - z2, if (off.toInt64 / z * d.2.2.1.toInt64 + i.toInt64) &&& 1 = 1 then 1 else 0) _ _ _ _ dX2_passOffset_125 hP9 hD9 hS (show (d.1, d.2.1, d.2.2.1, i, ((d.2.1 i.toNatClampNeg).toInt64) - z2, if (off.toInt64 / z * d.2.2.1.toInt64 + i.toInt64) &&& 1 = 1 then 1 else 0) = ptPass off z d from by rw [ptPass, if_pos c_1, ← hq9])
              refine lv_lload hx hb dX2_passOffset_98 (lv_at hl 3 rfl) ?_
              refine lv_aload_n hx hb dX2_passOffset_100 rfl (lv_at hl 0 rfl) ?_
              refine va_get (ci := 2) (v := .int d.2.2.1) (C := RX2) (T := TX2) (N := 6) hx hb hts inX2 hown hK hP 0 rfl rfl 2 (by decide) (hts _ k_81) (fun _ h9 => h9) rfl dX2_passOffset_101 ?_
              refine lv_i2l hx hb dX2_passOffset_104 rfl ?_
              refine lv_lmul hx hb dX2_passOffset_105 ?_
              refine lv_iload hx hb dX2_passOffset_106 (lv_at hl 5 rfl) ?_
              refine lv_i2l hx hb dX2_passOffset_108 rfl ?_
              refine lv_ladd hx hb dX2_passOffset_109 ?_
              refine lv_lconst (v := 1) hx hb dX2_passOffset_110 (by decide) ?_
              refine lv_land hx hb dX2_passOffset_111 ?_
              refine lv_lconst (v := 1) hx hb dX2_passOffset_112 (by decide) ?_
              refine sq_lne (tgt := 121) hx hb dX2_passOffset_113 dX2_passOffset_114 (by decide) (fun c_7 => ?_) (fun c_7 => ?_)
              · refine lv_iconst (v := 0) hx hb dX2_passOffset_121 (by decide) ?_
                exact sq_ti (show 0 = (if (off.toInt64 / z * d.2.2.1.toInt64 + i.toInt64) &&& 1 = 1 then 1 else 0) from by (first | (simp only [c_1, hq, hi, c_2, c_4, c_6, c_7, ↓reduceIte, eq_self, not_true_eq_false, not_false_eq_true, and_true, true_and, and_false, false_and]; done) | (simp [c_1, hq, hi, c_2, c_4, c_6, c_7]; done))) J122
              · refine lv_iconst (v := 1) hx hb dX2_passOffset_117 (by decide) ?_
                refine lv_goto (tgt := 122) hx hb dX2_passOffset_118 (by decide) ?_
                exact sq_ti (show 1 = (if (off.toInt64 / z * d.2.2.1.toInt64 + i.toInt64) &&& 1 = 1 then 1 else 0) from by (first | (simp only [c_1, hq, hi, c_2, c_4, c_6, c_7, ↓reduceIte, eq_self, not_true_eq_false, not_false_eq_true, and_true, true_and, and_false, false_and]; done) | (simp [c_1, hq, hi, c_2, c_4, c_6, c_7]; done))) J122
            · refine lv_lload hx hb dX2_passOffset_57 (lv_at hl 4 rfl) ?_
              refine lv_aload_n hx hb dX2_passOffset_59 rfl (lv_at hl 0 rfl) ?_
              refine va_get (ci := 2) (v := .ref h2) (C := RX2) (T := TX2) (N := 6) hx hb hts inX2 hown hK hP 0 rfl rfl 1 (by decide) (hts _ k_80) (fun _ h9 => h9) rfl dX2_passOffset_60 ?_
              refine lv_iload hx hb dX2_passOffset_63 (lv_at hl 5 rfl) ?_
              refine va_iald hx hb hK hP 2 0 rfl rfl (sq_in hi.1 (by omega)) dX2_passOffset_65 ?_
              refine lv_i2l hx hb dX2_passOffset_66 rfl ?_
              refine lv_lsub hx hb dX2_passOffset_67 ?_
              refine lv_lstore (lv' := [(6, .long (z2 - ((d.2.1 i.toNatClampNeg).toInt64))), (0, .ref h), (1, .int off), (2, .long z), (4, .long (off.toInt64 / z)), (8, .int i)]) hx hb dX2_passOffset_68 hl (by decide) rfl (fun ls hl => ?_)
              refine lv_iinc (v := i + 1) (lv' := [(8, .int (i + 1)), (6, .long (z2 - ((d.2.1 i.toNatClampNeg).toInt64))), (0, .ref h), (1, .int off), (2, .long z), (4, .long (off.toInt64 / z))]) hx hb dX2_passOffset_70 hl (k := 5) rfl rfl (by decide) rfl (fun ls hl => ?_)
              refine lv_goto (tgt := 25) hx hb dX2_passOffset_73 (by decide) ?_
              exact ih (i + 1) (z2 - ((d.2.1 i.toNatClampNeg).toInt64)) (by rw [← hq]; (first | (simp only [ptSkip, c_1, hq, hi, c_2, c_4, c_6, ↓reduceIte, eq_self, not_true_eq_false, not_false_eq_true, and_true, true_and, and_false, false_and]; done) | (simp [ptSkip, c_1, hq, hi, c_2, c_4, c_6]; done))) (sq_next7 hi (by assumption)) _ _ (hP.sub [0, 1, 2] rfl) (hD.sub [0, 1, 2] (by decide) rfl) hS ls (lv_sub hl [2, 3, 4, 5, 1, 0] rfl)
    exact L25 (9) 0 (off.toInt64 - ((off.toInt64 / z) * z)) (rfl) (⟨by decide, by decide, by decide⟩) _ _ (hP.sub [0, 1, 2] rfl) (hD.sub [0, 1, 2] (by decide) rfl) hS ls (lv_sub hl [3, 4, 5, 2, 1, 0] rfl)
  · have hP9 := hP.sub (ws' := [(h, .inr (2, [.ref h1, .ref h2, .int d.2.2.1, .int d.2.2.2.1, .long d.2.2.2.2.1, .int d.2.2.2.2.2])), (h1, .inl (cI, 8, .inl d.1)), (h2, .inl (cI, 8, .inl d.2.1))]) [0, 1, 2] rfl
    have hD9 := hD.sub (ws' := [(h, .inr (2, [.ref h1, .ref h2, .int d.2.2.1, .int d.2.2.2.1, .long d.2.2.2.2.1, .int d.2.2.2.2.2])), (h1, .inl (cI, 8, .inl d.1)), (h2, .inl (cI, 8, .inl d.2.1))]) [0, 1, 2] (by decide) rfl
    exact hend d _ _ _ _ dX2_passOffset_6 hP9 hD9 hS (show d = ptPass off z d from by rw [ptPass, if_neg c_1])

set_option maxHeartbeats 600000 in
set_option maxRecDepth 100000 in
theorem c_X2_use (l : Launch) (D : va_G) (cI cZ cB cJ : ClassId) (sz : Nat) (h : Nat) (h1 : Nat) (h2 : Nat) (d : PT) (mm : Int32) (off : Int32) : sq_Mi l yX2_use wsX2_use { frames := 1, cells := 0, slots := 0, locals := 28 } D (sq_T cI cZ cB cJ) sz [.ref h, .int mm, .int off] [(h, .inr (2, [.ref h1, .ref h2, .int d.2.2.1, .int d.2.2.2.1, .long d.2.2.2.2.1, .int d.2.2.2.2.2])), (h1, .inl (cI, 8, .inl d.1)), (h2, .inl (cI, 8, .inl d.2.1))] (fun (v9 : Int32) => (fun (u1 : PT) => v9 = ptUseOk mm off d ∧ u1 = ptUse mm off d)) (fun (u1 : PT) => [(h, .inr (2, [.ref h1, .ref h2, .int u1.2.2.1, .int u1.2.2.2.1, .long u1.2.2.2.2.1, .int u1.2.2.2.2.2])), (h1, .inl (cI, 8, .inl u1.1)), (h2, .inl (cI, 8, .inl u1.2.1))]) 0 0 := by
  refine sq_enterz cX2_use 6 (plainFor_of_name (by decide)) rfl (Nat.le_of_ble_eq_true rfl) ?_
  intro p e s m below meth c ls args A Q hargs hx hb hml hown hts hnm hN hP hK hD hA hS hl hend
  have hl : lv_has ls 6 [(0, .ref h), (1, .int mm), (2, .int off)] := hl
  refine lv_iload_n hx hb dX2_use_0 rfl (lv_at hl 1 rfl) ?_
  refine lv_if_lt (tgt := 17) hx hb dX2_use_1 (by decide) (fun c_1 => ?_) (fun c_1 => ?_)
  · refine lv_iconst (v := 0) hx hb dX2_use_17 (by decide) ?_
    have hP9 := hP.sub (ws' := [(h, .inr (2, [.ref h1, .ref h2, .int d.2.2.1, .int d.2.2.2.1, .long d.2.2.2.2.1, .int d.2.2.2.2.2])), (h1, .inl (cI, 8, .inl d.1)), (h2, .inl (cI, 8, .inl d.2.1))]) [0, 1, 2] rfl
    have hD9 := hD.sub (ws' := [(h, .inr (2, [.ref h1, .ref h2, .int d.2.2.1, .int d.2.2.2.1, .long d.2.2.2.2.1, .int d.2.2.2.2.2])), (h1, .inl (cI, 8, .inl d.1)), (h2, .inl (cI, 8, .inl d.2.1))]) [0, 1, 2] (by decide) rfl
    exact hend d 0 _ _ _ _ dX2_use_18 hP9 hD9 hS ⟨(show 0 = (ptUseOk mm off d) from by (first | (simp only [ptUse, ptUseOk, c_1, ↓reduceIte, eq_self, not_true_eq_false, not_false_eq_true, and_true, true_and, and_false, false_and]; done) | (simp [ptUse, ptUseOk, c_1]; done))), (show d = ptUse mm off d from by (first | (simp only [ptUse, ptUseOk, c_1, ↓reduceIte, eq_self, not_true_eq_false, not_false_eq_true, and_true, true_and, and_false, false_and]; done) | (simp [ptUse, ptUseOk, c_1]; done)))⟩ rfl
  · refine lv_iload_n hx hb dX2_use_4 rfl (lv_at hl 1 rfl) ?_
    refine lv_bipush (v := 8) hx hb dX2_use_5 (by decide) ?_
    refine lv_icmp_gt (tgt := 17) hx hb dX2_use_7 (by decide) (fun c_2 => ?_) (fun c_2 => ?_)
    · refine lv_iconst (v := 0) hx hb dX2_use_17 (by decide) ?_
      have hP9 := hP.sub (ws' := [(h, .inr (2, [.ref h1, .ref h2, .int d.2.2.1, .int d.2.2.2.1, .long d.2.2.2.2.1, .int d.2.2.2.2.2])), (h1, .inl (cI, 8, .inl d.1)), (h2, .inl (cI, 8, .inl d.2.1))]) [0, 1, 2] rfl
      have hD9 := hD.sub (ws' := [(h, .inr (2, [.ref h1, .ref h2, .int d.2.2.1, .int d.2.2.2.1, .long d.2.2.2.2.1, .int d.2.2.2.2.2])), (h1, .inl (cI, 8, .inl d.1)), (h2, .inl (cI, 8, .inl d.2.1))]) [0, 1, 2] (by decide) rfl
      exact hend d 0 _ _ _ _ dX2_use_18 hP9 hD9 hS ⟨(show 0 = (ptUseOk mm off d) from by (first | (simp only [ptUse, ptUseOk, c_1, c_2, ↓reduceIte, eq_self, not_true_eq_false, not_false_eq_true, and_true, true_and, and_false, false_and]; done) | (simp [ptUse, ptUseOk, c_1, c_2]; done))), (show d = ptUse mm off d from by (first | (simp only [ptUse, ptUseOk, c_1, c_2, ↓reduceIte, eq_self, not_true_eq_false, not_false_eq_true, and_true, true_and, and_false, false_and]; done) | (simp [ptUse, ptUseOk, c_1, c_2]; done)))⟩ rfl
    · refine lv_iload_n hx hb dX2_use_10 rfl (lv_at hl 2 rfl) ?_
      refine sq_goi (wc := []) (wr := [(h, .inr (2, [.ref h1, .ref h2, .int d.2.2.1, .int d.2.2.2.1, .long d.2.2.2.2.1, .int d.2.2.2.2.2])), (h1, .inl (cI, 8, .inl d.1)), (h2, .inl (cI, 8, .inl d.2.1))]) [] [0, 1, 2] hP hD hS hA rfl rfl (by decide) (by decide) (by decide) (fun hPc hDc => va_runSN (As := [.int off]) (rest := []) ⟨hx, hb, hml, hown, hts⟩ (c_X8_isUnits l D cI cZ cB cJ _ off ) ⟨va_cnB 1 hts (sq_gi k_337) rfl rfl rfl (va_Nw.of rfl (hN.at (args := args) 22 rfl)) (hts _ k_1) hdX8_isUnits ⟨Nat.le_of_ble_eq_true rfl, Nat.le_of_ble_eq_true rfl⟩, (hts _ k_336), trivial⟩ (sq_preS hPc hDc hK hN) rfl rfl hl.1 rfl (lv_room (Nat.le_of_ble_eq_true rfl)) dX2_use_11 ⟨Nat.le_of_ble_eq_true rfl, Nat.le_of_ble_eq_true rfl⟩) (fun r_3 u H locs hw_4 hP hD hS => ?_)
      have hw_4 : r_3 = kUnits off := hw_4
      have e_5 := hw_4
      clear hw_4
      subst e_5
      have hP : va_P D vwCl [(h, .inr (2, [.ref h1, .ref h2, .int d.2.2.1, .int d.2.2.2.1, .long d.2.2.2.2.1, .int d.2.2.2.2.2])), (h1, .inl (cI, 8, .inl d.1)), (h2, .inl (cI, 8, .inl d.2.1))] H := hP
      have hD : va_D A [(h, .inr (2, [.ref h1, .ref h2, .int d.2.2.1, .int d.2.2.2.1, .long d.2.2.2.2.1, .int d.2.2.2.2.2])), (h1, .inl (cI, 8, .inl d.1)), (h2, .inl (cI, 8, .inl d.2.1))] := hD
      refine lv_if_ne (tgt := 19) hx hb dX2_use_14 (by decide) (fun c_6 => ?_) (fun c_6 => ?_)
      · refine lv_lconst (v := 0) hx hb dX2_use_19 (by decide) ?_
        refine lv_lstore_n (lv' := [(3, .long 0), (0, .ref h), (1, .int mm), (2, .int off)]) hx hb dX2_use_20 rfl hl (by decide) rfl (fun ls hl => ?_)
        refine lv_iconst (v := 0) hx hb dX2_use_21 (by decide) ?_
        refine lv_istore (lv' := [(5, .int 0), (3, .long 0), (0, .ref h), (1, .int mm), (2, .int off)]) hx hb dX2_use_22 hl (by decide) rfl (fun ls hl => ?_)
        have L24 : ∀ (n : Nat) (k : Int32) (z : Int64) (hq : ptSum d.1 mm n k z = ptSum d.1 mm 9 0 0) (hi : 0 ≤ k.toInt ∧ k.toInt ≤ 8 ∧ 9 ≤ k.toInt + n) (H : Heap) (locs : List Loc), va_P D vwCl [(h, .inr (2, [.ref h1, .ref h2, .int d.2.2.1, .int d.2.2.2.1, .long d.2.2.2.2.1, .int d.2.2.2.2.2])), (h1, .inl (cI, 8, .inl d.1)), (h2, .inl (cI, 8, .inl d.2.1))] H → va_D A [(h, .inr (2, [.ref h1, .ref h2, .int d.2.2.1, .int d.2.2.2.1, .long d.2.2.2.2.1, .int d.2.2.2.2.2])), (h1, .inl (cI, 8, .inl d.1)), (h2, .inl (cI, 8, .inl d.2.1))] → va_S A s.heap H locs → ∀ ls : Array Slot, lv_has ls 6 [(0, .ref h), (1, .int mm), (2, .int off), (3, .long z), (5, .int k)] → W p l e ({ frames := 1, cells := 0, slots := 0, locals := 28 } : Room) s m args below meth c H locs 0 0 Q (F0 m 24 ls []) := by
          intro n
          induction n with
          | zero =>
            intro k z hq hi
            exact (by omega : False).elim
          | succ n ih =>
            intro k z hq hi H locs hP hD hS ls hl
            refine lv_iload hx hb dX2_use_24 (lv_at hl 4 rfl) ?_
            refine lv_iload_n hx hb dX2_use_26 rfl (lv_at hl 1 rfl) ?_
            refine lv_icmp_ge (tgt := 47) hx hb dX2_use_27 (by decide) (fun c_7 => ?_) (fun c_7 => ?_)
            · obtain rfl : z = ptSum d.1 mm 9 0 0 := by rw [← hq]; (first | (simp only [ptSum, c_1, c_2, c_6, c_7, ↓reduceIte, eq_self, not_true_eq_false, not_false_eq_true, and_true, true_and, and_false, false_and]; done) | (simp [ptSum, c_1, c_2, c_6, c_7]; done))
              have J59 : (ptUseOk mm off d = 1) → W p l e ({ frames := 1, cells := 0, slots := 0, locals := 28 } : Room) s m args below meth c H locs 0 0 Q (F0 m 59 ls []) := by
                intro cj_8
                refine lv_aload_n hx hb dX2_use_59 rfl (lv_at hl 0 rfl) ?_
                refine lv_iload_n hx hb dX2_use_60 rfl (lv_at hl 1 rfl) ?_
                refine va_put (ci := 2) (v := .int mm) (ty := .int) (C := RX2) (T := TX2) (N := 6) hx hb hts inX2 tyX2 tyX2_ok nmX2 hown hK hP hD hS 0 rfl rfl 2 (by decide) (hts _ k_81) (fun _ h9 => h9) rfl (by decide +kernel) rfl rfl (Nat.le_of_ble_eq_true rfl) dX2_use_61 (fun H locs hP hD hS => ?_)
                have hP : va_P D vwCl [(h, .inr (2, [.ref h1, .ref h2, .int mm, .int d.2.2.2.1, .long d.2.2.2.2.1, .int d.2.2.2.2.2])), (h1, .inl (cI, 8, .inl d.1)), (h2, .inl (cI, 8, .inl d.2.1))] H := hP
                have hD : va_D A [(h, .inr (2, [.ref h1, .ref h2, .int mm, .int d.2.2.2.1, .long d.2.2.2.2.1, .int d.2.2.2.2.2])), (h1, .inl (cI, 8, .inl d.1)), (h2, .inl (cI, 8, .inl d.2.1))] := hD
                refine lv_iconst (v := 0) hx hb dX2_use_64 (by decide) ?_
                refine lv_istore (lv' := [(5, .int 0), (0, .ref h), (1, .int mm), (2, .int off), (3, .long (ptSum d.1 mm 9 0 0))]) hx hb dX2_use_65 hl (by decide) rfl (fun ls hl => ?_)
                have L67 : ∀ (n : Nat) (k : Int32) (g : Nat → Int32) (hq2 : ptCopy d.1 mm n k g = ptCopy d.1 mm 9 0 d.2.1) (hi : 0 ≤ k.toInt ∧ k.toInt ≤ 8 ∧ 9 ≤ k.toInt + n) (H : Heap) (locs : List Loc), va_P D vwCl [(h, .inr (2, [.ref h1, .ref h2, .int mm, .int d.2.2.2.1, .long d.2.2.2.2.1, .int d.2.2.2.2.2])), (h1, .inl (cI, 8, .inl d.1)), (h2, .inl (cI, 8, .inl g))] H → va_D A [(h, .inr (2, [.ref h1, .ref h2, .int mm, .int d.2.2.2.1, .long d.2.2.2.2.1, .int d.2.2.2.2.2])), (h1, .inl (cI, 8, .inl d.1)), (h2, .inl (cI, 8, .inl g))] → va_S A s.heap H locs → ∀ ls : Array Slot, lv_has ls 6 [(0, .ref h), (1, .int mm), (2, .int off), (3, .long (ptSum d.1 mm 9 0 0)), (5, .int k)] → W p l e ({ frames := 1, cells := 0, slots := 0, locals := 28 } : Room) s m args below meth c H locs 0 0 Q (F0 m 67 ls []) := by
                  intro n
                  induction n with
                  | zero =>
                    intro k g hq2 hi
                    exact (by omega : False).elim
                  | succ n ih =>
                    intro k g hq2 hi H locs hP hD hS ls hl
                    refine lv_iload hx hb dX2_use_67 (lv_at hl 4 rfl) ?_
                    refine lv_iload_n hx hb dX2_use_69 rfl (lv_at hl 1 rfl) ?_
                    refine lv_icmp_ge (tgt := 93) hx hb dX2_use_70 (by decide) (fun c_9 => ?_) (fun c_9 => ?_)
                    · obtain rfl : g = ptCopy d.1 mm 9 0 d.2.1 := by rw [← hq2]; (first | (simp only [ptCopy, c_1, c_2, c_6, c_7, cj_8, c_9, ↓reduceIte, eq_self, not_true_eq_false, not_false_eq_true, and_true, true_and, and_false, false_and]; done) | (simp [ptCopy, c_1, c_2, c_6, c_7, cj_8, c_9]; done))
                      refine lv_aload_n hx hb dX2_use_93 rfl (lv_at hl 0 rfl) ?_
                      refine lv_iload_n hx hb dX2_use_94 rfl (lv_at hl 2 rfl) ?_
                      refine lv_lload_n hx hb dX2_use_95 rfl (lv_at hl 3 rfl) ?_
                      refine sq_gov (wc := [(h, .inr (2, [.ref h1, .ref h2, .int mm, .int d.2.2.2.1, .long d.2.2.2.2.1, .int d.2.2.2.2.2])), (h1, .inl (cI, 8, .inl d.1)), (h2, .inl (cI, 8, .inl (ptCopy d.1 mm 9 0 d.2.1)))]) (wr := []) [0, 1, 2] [] hP hD hS hA rfl rfl (by decide) (by decide) (by decide) (fun hPc hDc => va_runV (As := [.int off, .long (ptSum d.1 mm 9 0 0)]) (rest := []) ⟨hx, hb, hml, hown, hts⟩ (c_X2_passOffset l D cI cZ cB cJ _ h h1 h2 (d.1, ptCopy d.1 mm 9 0 d.2.1, mm, d.2.2.2.1, d.2.2.2.2.1, d.2.2.2.2.2) off (ptSum d.1 mm 9 0 0) ) ⟨callB_of 2 hts (sq_gi k_350) rfl rfl rfl (hts _ k_4) (hts _ k_347) hdX2_passOffset ⟨Nat.le_of_ble_eq_true rfl, Nat.le_of_ble_eq_true rfl⟩, (hts _ k_349), (hts _ ks_1)⟩ (sq_preV hPc hDc hK hN (q0 := 0) (ci := 2) rfl rfl) rfl rfl hl.1 rfl (lv_room (Nat.le_of_ble_eq_true rfl)) dX2_use_96 ⟨Nat.le_of_ble_eq_true rfl, Nat.le_of_ble_eq_true rfl⟩) (fun  d_12 H locs hw_11 hP hD hS => ?_)
                      have hw_11 : d_12 = ptPass off (ptSum d.1 mm 9 0 0) (d.1, ptCopy d.1 mm 9 0 d.2.1, mm, d.2.2.2.1, d.2.2.2.2.1, d.2.2.2.2.2) := hw_11
                      have e_13 := hw_11
                      clear hw_11
                      have hP : va_P D vwCl [(h, .inr (2, [.ref h1, .ref h2, .int d_12.2.2.1, .int d_12.2.2.2.1, .long d_12.2.2.2.2.1, .int d_12.2.2.2.2.2])), (h1, .inl (cI, 8, .inl d_12.1)), (h2, .inl (cI, 8, .inl d_12.2.1))] H := hP
                      have hD : va_D A [(h, .inr (2, [.ref h1, .ref h2, .int d_12.2.2.1, .int d_12.2.2.2.1, .long d_12.2.2.2.2.1, .int d_12.2.2.2.2.2])), (h1, .inl (cI, 8, .inl d_12.1)), (h2, .inl (cI, 8, .inl d_12.2.1))] := hD
                      refine lv_iconst (v := 1) hx hb dX2_use_99 (by decide) ?_
                      have hP9 := hP.sub (ws' := [(h, .inr (2, [.ref h1, .ref h2, .int d_12.2.2.1, .int d_12.2.2.2.1, .long d_12.2.2.2.2.1, .int d_12.2.2.2.2.2])), (h1, .inl (cI, 8, .inl d_12.1)), (h2, .inl (cI, 8, .inl d_12.2.1))]) [0, 1, 2] rfl
                      have hD9 := hD.sub (ws' := [(h, .inr (2, [.ref h1, .ref h2, .int d_12.2.2.1, .int d_12.2.2.2.1, .long d_12.2.2.2.2.1, .int d_12.2.2.2.2.2])), (h1, .inl (cI, 8, .inl d_12.1)), (h2, .inl (cI, 8, .inl d_12.2.1))]) [0, 1, 2] (by decide) rfl
                      exact hend d_12 1 _ _ _ _ dX2_use_100 hP9 hD9 hS ⟨(show 1 = (ptUseOk mm off d) from by (first | (simp only [ptUse, ← e_13, cj_8, (by decide : ¬ (1 : Int32) = 0), ↓reduceIte, eq_self, not_true_eq_false, not_false_eq_true, and_true, true_and, and_false, false_and]; done) | (simp only [ptUse, ← e_13, (by decide : ¬ (1 : Int32) = 0)]; simp only [ptUse, ← e_13, cj_8, (by decide : ¬ (1 : Int32) = 0), ↓reduceIte, eq_self, not_true_eq_false, not_false_eq_true, and_true, true_and, and_false, false_and]; done) | (simp [ptUse, ← e_13, cj_8, (by decide : ¬ (1 : Int32) = 0)]; done))), (show d_12 = ptUse mm off d from by (first | (simp only [ptUse, ← e_13, cj_8, (by decide : ¬ (1 : Int32) = 0), ↓reduceIte, eq_self, not_true_eq_false, not_false_eq_true, and_true, true_and, and_false, false_and]; done) | (simp only [ptUse, ← e_13, (by decide : ¬ (1 : Int32) = 0)]; simp only [ptUse, ← e_13, cj_8, (by decide : ¬ (1 : Int32) = 0), ↓reduceIte, eq_self, not_true_eq_false, not_false_eq_true, and_true, true_and, and_false, false_and]; done) | (simp [ptUse, ← e_13, cj_8, (by decide : ¬ (1 : Int32) = 0)]; done)))⟩ rfl
                    · refine lv_aload_n hx hb dX2_use_73 rfl (lv_at hl 0 rfl) ?_
                      refine va_get (ci := 2) (v := .ref h2) (C := RX2) (T := TX2) (N := 6) hx hb hts inX2 hown hK hP 0 rfl rfl 1 (by decide) (hts _ k_80) (fun _ h9 => h9) rfl dX2_use_74 ?_
                      refine lv_iload hx hb dX2_use_77 (lv_at hl 4 rfl) ?_
                      refine lv_aload_n hx hb dX2_use_79 rfl (lv_at hl 0 rfl) ?_
                      refine va_get (ci := 2) (v := .ref h1) (C := RX2) (T := TX2) (N := 6) hx hb hts inX2 hown hK hP 0 rfl rfl 0 (by decide) (hts _ k_79) (fun _ h9 => h9) rfl dX2_use_80 ?_
                      refine lv_iload hx hb dX2_use_83 (lv_at hl 4 rfl) ?_
                      refine va_iald hx hb hK hP 1 0 rfl rfl (sq_in8 hi (by assumption) (by assumption)) dX2_use_85 ?_
                      refine va_iast hx hb hK hP hD hS 2 0 rfl rfl (sq_in8 hi (by assumption) (by assumption)) dX2_use_86 (fun H locs hP hD hS => ?_)
                      have hP : va_P D vwCl [(h, .inr (2, [.ref h1, .ref h2, .int mm, .int d.2.2.2.1, .long d.2.2.2.2.1, .int d.2.2.2.2.2])), (h1, .inl (cI, 8, .inl d.1)), (h2, .inl (cI, 8, .inl (upd g k.toNatClampNeg (d.1 k.toNatClampNeg))))] H := hP
                      have hD : va_D A [(h, .inr (2, [.ref h1, .ref h2, .int mm, .int d.2.2.2.1, .long d.2.2.2.2.1, .int d.2.2.2.2.2])), (h1, .inl (cI, 8, .inl d.1)), (h2, .inl (cI, 8, .inl (upd g k.toNatClampNeg (d.1 k.toNatClampNeg))))] := hD
                      refine lv_iinc (v := k + 1) (lv' := [(5, .int (k + 1)), (0, .ref h), (1, .int mm), (2, .int off), (3, .long (ptSum d.1 mm 9 0 0))]) hx hb dX2_use_87 hl (k := 4) rfl rfl (by decide) rfl (fun ls hl => ?_)
                      refine lv_goto (tgt := 67) hx hb dX2_use_90 (by decide) ?_
                      exact ih (k + 1) (upd g k.toNatClampNeg (d.1 k.toNatClampNeg)) (by rw [← hq2]; (first | (simp only [ptCopy, c_1, c_2, c_6, hq, hi, c_7, cj_8, hq2, hi, c_9, ↓reduceIte, eq_self, not_true_eq_false, not_false_eq_true, and_true, true_and, and_false, false_and]; done) | (simp [ptCopy, c_1, c_2, c_6, hq, hi, c_7, cj_8, hq2, hi, c_9]; done))) (sq_next8 hi (by assumption) (by assumption)) _ _ (hP.sub [0, 1, 2] rfl) (hD.sub [0, 1, 2] (by decide) rfl) hS ls (lv_sub hl [1, 2, 3, 4, 0] rfl)
                exact L67 (9) 0 d.2.1 (rfl) (⟨by decide, by decide, by decide⟩) _ _ (hP.sub [0, 1, 2] rfl) (hD.sub [0, 1, 2] (by decide) rfl) hS ls (lv_sub hl [1, 2, 3, 4, 0] rfl)
              refine lv_iload_n hx hb dX2_use_47 rfl (lv_at hl 1 rfl) ?_
              refine lv_if_le (tgt := 59) hx hb dX2_use_48 (by decide) (fun c_14 => ?_) (fun c_14 => ?_)
              · exact J59 (by (first | (simp only [ptUseOk, c_1, c_2, c_6, hq, hi, c_7, c_14, ↓reduceIte, eq_self, not_true_eq_false, not_false_eq_true, and_true, true_and, and_false, false_and]; done) | (simp [ptUseOk, c_1, c_2, c_6, hq, hi, c_7, c_14]; done)))
              · refine lv_lload_n hx hb dX2_use_51 rfl (lv_at hl 3 rfl) ?_
                refine lv_lconst (v := 0) hx hb dX2_use_52 (by decide) ?_
                refine sq_lne (tgt := 59) hx hb dX2_use_53 dX2_use_54 (by decide) (fun c_15 => ?_) (fun c_15 => ?_)
                · exact J59 (by (first | (simp only [ptUseOk, c_1, c_2, c_6, hq, hi, c_7, c_14, c_15, ↓reduceIte, eq_self, not_true_eq_false, not_false_eq_true, and_true, true_and, and_false, false_and]; done) | (simp [ptUseOk, c_1, c_2, c_6, hq, hi, c_7, c_14, c_15]; done)))
                · refine lv_iconst (v := 0) hx hb dX2_use_57 (by decide) ?_
                  have hP9 := hP.sub (ws' := [(h, .inr (2, [.ref h1, .ref h2, .int d.2.2.1, .int d.2.2.2.1, .long d.2.2.2.2.1, .int d.2.2.2.2.2])), (h1, .inl (cI, 8, .inl d.1)), (h2, .inl (cI, 8, .inl d.2.1))]) [0, 1, 2] rfl
                  have hD9 := hD.sub (ws' := [(h, .inr (2, [.ref h1, .ref h2, .int d.2.2.1, .int d.2.2.2.1, .long d.2.2.2.2.1, .int d.2.2.2.2.2])), (h1, .inl (cI, 8, .inl d.1)), (h2, .inl (cI, 8, .inl d.2.1))]) [0, 1, 2] (by decide) rfl
                  exact hend d 0 _ _ _ _ dX2_use_58 hP9 hD9 hS ⟨(show 0 = (ptUseOk mm off d) from by (first | (simp only [ptUse, ptUseOk, c_1, c_2, c_6, c_7, c_14, c_15, ↓reduceIte, eq_self, not_true_eq_false, not_false_eq_true, and_true, true_and, and_false, false_and]; done) | (simp [ptUse, ptUseOk, c_1, c_2, c_6, c_7, c_14, c_15]; done))), (show d = ptUse mm off d from by (first | (simp only [ptUse, ptUseOk, c_1, c_2, c_6, c_7, c_14, c_15, ↓reduceIte, eq_self, not_true_eq_false, not_false_eq_true, and_true, true_and, and_false, false_and]; done) | (simp [ptUse, ptUseOk, c_1, c_2, c_6, c_7, c_14, c_15]; done)))⟩ rfl
            · refine lv_lload_n hx hb dX2_use_30 rfl (lv_at hl 3 rfl) ?_
              refine lv_aload_n hx hb dX2_use_31 rfl (lv_at hl 0 rfl) ?_
              refine va_get (ci := 2) (v := .ref h1) (C := RX2) (T := TX2) (N := 6) hx hb hts inX2 hown hK hP 0 rfl rfl 0 (by decide) (hts _ k_79) (fun _ h9 => h9) rfl dX2_use_32 ?_
              refine lv_iload hx hb dX2_use_35 (lv_at hl 4 rfl) ?_
              refine va_iald hx hb hK hP 1 0 rfl rfl (sq_in8 hi (by assumption) (by assumption)) dX2_use_37 ?_
              refine lv_i2l hx hb dX2_use_38 rfl ?_
              refine lv_ladd hx hb dX2_use_39 ?_
              refine lv_lstore_n (lv' := [(3, .long (z + ((d.1 k.toNatClampNeg).toInt64))), (0, .ref h), (1, .int mm), (2, .int off), (5, .int k)]) hx hb dX2_use_40 rfl hl (by decide) rfl (fun ls hl => ?_)
              refine lv_iinc (v := k + 1) (lv' := [(5, .int (k + 1)), (3, .long (z + ((d.1 k.toNatClampNeg).toInt64))), (0, .ref h), (1, .int mm), (2, .int off)]) hx hb dX2_use_41 hl (k := 4) rfl rfl (by decide) rfl (fun ls hl => ?_)
              refine lv_goto (tgt := 24) hx hb dX2_use_44 (by decide) ?_
              exact ih (k + 1) (z + ((d.1 k.toNatClampNeg).toInt64)) (by rw [← hq]; (first | (simp only [ptSum, c_1, c_2, c_6, hq, hi, c_7, ↓reduceIte, eq_self, not_true_eq_false, not_false_eq_true, and_true, true_and, and_false, false_and]; done) | (simp [ptSum, c_1, c_2, c_6, hq, hi, c_7]; done))) (sq_next8 hi (by assumption) (by assumption)) _ _ (hP.sub [0, 1, 2] rfl) (hD.sub [0, 1, 2] (by decide) rfl) hS ls (lv_sub hl [2, 3, 4, 1, 0] rfl)
        exact L24 (9) 0 0 (rfl) (⟨by decide, by decide, by decide⟩) _ _ (hP.sub [0, 1, 2] rfl) (hD.sub [0, 1, 2] (by decide) rfl) hS ls (lv_sub hl [2, 3, 4, 1, 0] rfl)
      · refine lv_iconst (v := 0) hx hb dX2_use_17 (by decide) ?_
        have hP9 := hP.sub (ws' := [(h, .inr (2, [.ref h1, .ref h2, .int d.2.2.1, .int d.2.2.2.1, .long d.2.2.2.2.1, .int d.2.2.2.2.2])), (h1, .inl (cI, 8, .inl d.1)), (h2, .inl (cI, 8, .inl d.2.1))]) [0, 1, 2] rfl
        have hD9 := hD.sub (ws' := [(h, .inr (2, [.ref h1, .ref h2, .int d.2.2.1, .int d.2.2.2.1, .long d.2.2.2.2.1, .int d.2.2.2.2.2])), (h1, .inl (cI, 8, .inl d.1)), (h2, .inl (cI, 8, .inl d.2.1))]) [0, 1, 2] (by decide) rfl
        exact hend d 0 _ _ _ _ dX2_use_18 hP9 hD9 hS ⟨(show 0 = (ptUseOk mm off d) from by (first | (simp only [ptUse, ptUseOk, c_1, c_2, c_6, ↓reduceIte, eq_self, not_true_eq_false, not_false_eq_true, and_true, true_and, and_false, false_and]; done) | (simp [ptUse, ptUseOk, c_1, c_2, c_6]; done))), (show d = ptUse mm off d from by (first | (simp only [ptUse, ptUseOk, c_1, c_2, c_6, ↓reduceIte, eq_self, not_true_eq_false, not_false_eq_true, and_true, true_and, and_false, false_and]; done) | (simp [ptUse, ptUseOk, c_1, c_2, c_6]; done)))⟩ rfl
