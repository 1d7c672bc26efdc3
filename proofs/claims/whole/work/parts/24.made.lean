set_option maxHeartbeats 600000 in
set_option maxRecDepth 100000 in
theorem c_X5_init (l : Launch) (D : va_G) (cI cZ cB cJ : ClassId) (sz : Nat) (h : Nat) : sq_Mv l yX5_init wsX5_init { frames := 1, cells := 0, slots := 0, locals := 12 } D (sq_T cI cZ cB cJ) sz [.ref h] [(h, .inr (5, [.long 0, .long 0, .long 0, .long 0, .long 0, .long 0, .long 0, .long 0, .long 0, .long 0, .long 0]))] (fun (_ : Unit) => True) (fun (_ : Unit) => [(h, .inr (5, [.long 0, .long 0, .long 0, .long 0, .long 0, .long 0, .long 0, .long 0, .long 0, .long 0, .long 0]))]) 0 0 := by
  refine sq_enterv cX5_init 1 (plainFor_of_name (by decide)) rfl (Nat.le_of_ble_eq_true rfl) ?_
  intro p e s m below meth c ls args A Q hargs hx hb hml hown hts hnm hN hP hK hD hA hS hl hend
  have hl : lv_has ls 1 [(0, .ref h)] := hl
  refine lv_aload_n hx hb dX5_init_0 rfl (lv_at hl 0 rfl) ?_
  refine W.objInit hx hb hown (hts _ k_131) (hts _ k_18) (hts _ k_19) rfl (by rw [hml]; exact hl.1) rfl dX5_init_1 (Nat.le_of_ble_eq_true rfl) (Nat.le_of_ble_eq_true rfl) ?_
  refine W.eq (g2 := F0 m 4 ls []) rfl ?_
  have hP9 := hP.sub (ws' := [(h, .inr (5, [.long 0, .long 0, .long 0, .long 0, .long 0, .long 0, .long 0, .long 0, .long 0, .long 0, .long 0]))]) [0] rfl
  have hD9 := hD.sub (ws' := [(h, .inr (5, [.long 0, .long 0, .long 0, .long 0, .long 0, .long 0, .long 0, .long 0, .long 0, .long 0, .long 0]))]) [0] (by decide) rfl
  exact hend () _ _ _ _ dX5_init_4 hP9 hD9 hS trivial

set_option maxHeartbeats 600000 in
set_option maxRecDepth 100000 in
theorem c_X4_init (l : Launch) (D : va_G) (cI cZ cB cJ : ClassId) (sz : Nat) (h : Nat) : sq_Mv l yX4_init wsX4_init { frames := 1, cells := 2, slots := 4004, locals := 12 } D (sq_T cI cZ cB cJ) sz [.ref h] [(h, .inr (4, [.null, .null, .int 0, .int 0]))] (fun (u : Nat × Nat) => match u with | (b1, b2) => True) (fun (u : Nat × Nat) => match u with | (b1, b2) => [(h, .inr (4, [.ref b1, .ref b2, .int 0, .int 0])), (b1, .inl (cI, 2002, .inl (fun _ => 0))), (b2, .inl (cI, 2002, .inl (fun _ => 0)))]) 2 4004 := by
  refine sq_enterv cX4_init 1 (plainFor_of_name (by decide)) rfl (Nat.le_of_ble_eq_true rfl) ?_
  intro p e s m below meth c ls args A Q hargs hx hb hml hown hts hnm hN hP hK hD hA hS hl hend
  have hl : lv_has ls 1 [(0, .ref h)] := hl
  refine lv_aload_n hx hb dX4_init_0 rfl (lv_at hl 0 rfl) ?_
  refine W.objInit hx hb hown (hts _ k_205) (hts _ k_18) (hts _ k_19) rfl (by rw [hml]; exact hl.1) rfl dX4_init_1 (Nat.le_of_ble_eq_true rfl) (Nat.le_of_ble_eq_true rfl) ?_
  refine W.eq (g2 := F0 m 4 ls []) rfl ?_
  refine lv_aload_n hx hb dX4_init_4 rfl (lv_at hl 0 rfl) ?_
  refine lv_sipush (v := 2002) hx hb dX4_init_5 (by decide) ?_
  refine sq_newI hx hb (hts _ k_45) hK hP hD hS hA (n := 2002) (N0 := 2002) (by decide) (by decide) (by decide) (Nat.le_of_ble_eq_true rfl) (Nat.le_of_ble_eq_true rfl) dX4_init_8 (fun a_1 H hP hD hS => ?_)
  have hP : va_P D vwCl [(h, .inr (4, [.null, .null, .int 0, .int 0])), (a_1, .inl (cI, 2002, .inl (fun _ => 0)))] H := hP
  have hD : va_D A [(h, .inr (4, [.null, .null, .int 0, .int 0])), (a_1, .inl (cI, 2002, .inl (fun _ => 0)))] := hD
  refine W.widen (k := 1) (n := 2002) (Nat.le_of_ble_eq_true rfl) (Nat.le_of_ble_eq_true rfl) ?_
  refine va_putF (ci := 4) (v := .ref a_1) (ty := (.array .int)) (C := RX4) (T := TX4) (N := 4) hx hb hts inX4 tyX4 tyX4_ok nmX4 hown hK hP hD hS 0 rfl rfl 0 (by decide) (hts _ k_206) (fun _ h9 => h9) rfl hnm rfl (by decide +kernel) rfl rfl (Nat.le_of_ble_eq_true rfl) dX4_init_10 (fun H locs hP hD hS => ?_)
  have hP : va_P D vwCl [(h, .inr (4, [.ref a_1, .null, .int 0, .int 0])), (a_1, .inl (cI, 2002, .inl (fun _ => 0)))] H := hP
  have hD : va_D A [(h, .inr (4, [.ref a_1, .null, .int 0, .int 0])), (a_1, .inl (cI, 2002, .inl (fun _ => 0)))] := hD
  refine lv_aload_n hx hb dX4_init_13 rfl (lv_at hl 0 rfl) ?_
  refine lv_sipush (v := 2002) hx hb dX4_init_14 (by decide) ?_
  refine sq_newI hx hb (hts _ k_45) hK hP hD hS hA (n := 2002) (N0 := 2002) (by decide) (by decide) (by decide) (Nat.le_of_ble_eq_true rfl) (Nat.le_of_ble_eq_true rfl) dX4_init_17 (fun a_2 H hP hD hS => ?_)
  have hP : va_P D vwCl [(h, .inr (4, [.ref a_1, .null, .int 0, .int 0])), (a_1, .inl (cI, 2002, .inl (fun _ => 0))), (a_2, .inl (cI, 2002, .inl (fun _ => 0)))] H := hP
  have hD : va_D A [(h, .inr (4, [.ref a_1, .null, .int 0, .int 0])), (a_1, .inl (cI, 2002, .inl (fun _ => 0))), (a_2, .inl (cI, 2002, .inl (fun _ => 0)))] := hD
  refine W.widen (k := 2) (n := 4004) (Nat.le_of_ble_eq_true rfl) (Nat.le_of_ble_eq_true rfl) ?_
  refine va_putF (ci := 4) (v := .ref a_2) (ty := (.array .int)) (C := RX4) (T := TX4) (N := 4) hx hb hts inX4 tyX4 tyX4_ok nmX4 hown hK hP hD hS 0 rfl rfl 1 (by decide) (hts _ k_207) (fun _ h9 => h9) rfl hnm rfl (by decide +kernel) rfl rfl (Nat.le_of_ble_eq_true rfl) dX4_init_19 (fun H locs hP hD hS => ?_)
  have hP : va_P D vwCl [(h, .inr (4, [.ref a_1, .ref a_2, .int 0, .int 0])), (a_1, .inl (cI, 2002, .inl (fun _ => 0))), (a_2, .inl (cI, 2002, .inl (fun _ => 0)))] H := hP
  have hD : va_D A [(h, .inr (4, [.ref a_1, .ref a_2, .int 0, .int 0])), (a_1, .inl (cI, 2002, .inl (fun _ => 0))), (a_2, .inl (cI, 2002, .inl (fun _ => 0)))] := hD
  have hP9 := hP.sub (ws' := [(h, .inr (4, [.ref a_1, .ref a_2, .int 0, .int 0])), (a_1, .inl (cI, 2002, .inl (fun _ => 0))), (a_2, .inl (cI, 2002, .inl (fun _ => 0)))]) [0, 1, 2] rfl
  have hD9 := hD.sub (ws' := [(h, .inr (4, [.ref a_1, .ref a_2, .int 0, .int 0])), (a_1, .inl (cI, 2002, .inl (fun _ => 0))), (a_2, .inl (cI, 2002, .inl (fun _ => 0)))]) [0, 1, 2] (by decide) rfl
  exact hend (a_1, a_2) _ _ _ _ dX4_init_22 hP9 hD9 hS trivial

set_option maxHeartbeats 600000 in
set_option maxRecDepth 100000 in
theorem c_X0_init (l : Launch) (D : va_G) (cI cZ cB cJ : ClassId) (sz : Nat) (h : Nat) : sq_Mv l yX0_init wsX0_init { frames := 1, cells := 4, slots := 8000, locals := 12 } D (sq_T cI cZ cB cJ) sz [.ref h] [(h, .inr (0, [.null, .null, .null, .null, .int 0, .int 0]))] (fun (u : Nat × Nat × Nat × Nat) => match u with | (b1, b2, b3, b4) => True) (fun (u : Nat × Nat × Nat × Nat) => match u with | (b1, b2, b3, b4) => [(h, .inr (0, [.ref b1, .ref b2, .ref b3, .ref b4, .int 0, .int 0])), (b1, .inl (cI, 2000, .inl (fun _ => 0))), (b2, .inl (cI, 2000, .inl (fun _ => 0))), (b3, .inl (cI, 2000, .inl (fun _ => 0))), (b4, .inl (cZ, 2000, .inl (fun _ => 0)))]) 4 8000 := by
  refine sq_enterv cX0_init 1 (plainFor_of_name (by decide)) rfl (Nat.le_of_ble_eq_true rfl) ?_
  intro p e s m below meth c ls args A Q hargs hx hb hml hown hts hnm hN hP hK hD hA hS hl hend
  have hl : lv_has ls 1 [(0, .ref h)] := hl
  refine lv_aload_n hx hb dX0_init_0 rfl (lv_at hl 0 rfl) ?_
  refine W.objInit hx hb hown (hts _ k_25) (hts _ k_18) (hts _ k_19) rfl (by rw [hml]; exact hl.1) rfl dX0_init_1 (Nat.le_of_ble_eq_true rfl) (Nat.le_of_ble_eq_true rfl) ?_
  refine W.eq (g2 := F0 m 4 ls []) rfl ?_
  refine lv_aload_n hx hb dX0_init_4 rfl (lv_at hl 0 rfl) ?_
  refine lv_sipush (v := 2000) hx hb dX0_init_5 (by decide) ?_
  refine sq_newI hx hb (hts _ k_45) hK hP hD hS hA (n := 2000) (N0 := 2000) (by decide) (by decide) (by decide) (Nat.le_of_ble_eq_true rfl) (Nat.le_of_ble_eq_true rfl) dX0_init_8 (fun a_1 H hP hD hS => ?_)
  have hP : va_P D vwCl [(h, .inr (0, [.null, .null, .null, .null, .int 0, .int 0])), (a_1, .inl (cI, 2000, .inl (fun _ => 0)))] H := hP
  have hD : va_D A [(h, .inr (0, [.null, .null, .null, .null, .int 0, .int 0])), (a_1, .inl (cI, 2000, .inl (fun _ => 0)))] := hD
  refine W.widen (k := 1) (n := 2000) (Nat.le_of_ble_eq_true rfl) (Nat.le_of_ble_eq_true rfl) ?_
  refine va_putF (ci := 0) (v := .ref a_1) (ty := (.array .int)) (C := RX0) (T := TX0) (N := 6) hx hb hts inX0 tyX0 tyX0_ok nmX0 hown hK hP hD hS 0 rfl rfl 0 (by decide) (hts _ k_26) (fun _ h9 => h9) rfl hnm rfl (by decide +kernel) rfl rfl (Nat.le_of_ble_eq_true rfl) dX0_init_10 (fun H locs hP hD hS => ?_)
  have hP : va_P D vwCl [(h, .inr (0, [.ref a_1, .null, .null, .null, .int 0, .int 0])), (a_1, .inl (cI, 2000, .inl (fun _ => 0)))] H := hP
  have hD : va_D A [(h, .inr (0, [.ref a_1, .null, .null, .null, .int 0, .int 0])), (a_1, .inl (cI, 2000, .inl (fun _ => 0)))] := hD
  refine lv_aload_n hx hb dX0_init_13 rfl (lv_at hl 0 rfl) ?_
  refine lv_sipush (v := 2000) hx hb dX0_init_14 (by decide) ?_
  refine sq_newI hx hb (hts _ k_45) hK hP hD hS hA (n := 2000) (N0 := 2000) (by decide) (by decide) (by decide) (Nat.le_of_ble_eq_true rfl) (Nat.le_of_ble_eq_true rfl) dX0_init_17 (fun a_2 H hP hD hS => ?_)
  have hP : va_P D vwCl [(h, .inr (0, [.ref a_1, .null, .null, .null, .int 0, .int 0])), (a_1, .inl (cI, 2000, .inl (fun _ => 0))), (a_2, .inl (cI, 2000, .inl (fun _ => 0)))] H := hP
  have hD : va_D A [(h, .inr (0, [.ref a_1, .null, .null, .null, .int 0, .int 0])), (a_1, .inl (cI, 2000, .inl (fun _ => 0))), (a_2, .inl (cI, 2000, .inl (fun _ => 0)))] := hD
  refine W.widen (k := 2) (n := 4000) (Nat.le_of_ble_eq_true rfl) (Nat.le_of_ble_eq_true rfl) ?_
  refine va_putF (ci := 0) (v := .ref a_2) (ty := (.array .int)) (C := RX0) (T := TX0) (N := 6) hx hb hts inX0 tyX0 tyX0_ok nmX0 hown hK hP hD hS 0 rfl rfl 1 (by decide) (hts _ k_27) (fun _ h9 => h9) rfl hnm rfl (by decide +kernel) rfl rfl (Nat.le_of_ble_eq_true rfl) dX0_init_19 (fun H locs hP hD hS => ?_)
  have hP : va_P D vwCl [(h, .inr (0, [.ref a_1, .ref a_2, .null, .null, .int 0, .int 0])), (a_1, .inl (cI, 2000, .inl (fun _ => 0))), (a_2, .inl (cI, 2000, .inl (fun _ => 0)))] H := hP
  have hD : va_D A [(h, .inr (0, [.ref a_1, .ref a_2, .null, .null, .int 0, .int 0])), (a_1, .inl (cI, 2000, .inl (fun _ => 0))), (a_2, .inl (cI, 2000, .inl (fun _ => 0)))] := hD
  refine lv_aload_n hx hb dX0_init_22 rfl (lv_at hl 0 rfl) ?_
  refine lv_sipush (v := 2000) hx hb dX0_init_23 (by decide) ?_
  refine sq_newI hx hb (hts _ k_45) hK hP hD hS hA (n := 2000) (N0 := 2000) (by decide) (by decide) (by decide) (Nat.le_of_ble_eq_true rfl) (Nat.le_of_ble_eq_true rfl) dX0_init_26 (fun a_3 H hP hD hS => ?_)
  have hP : va_P D vwCl [(h, .inr (0, [.ref a_1, .ref a_2, .null, .null, .int 0, .int 0])), (a_1, .inl (cI, 2000, .inl (fun _ => 0))), (a_2, .inl (cI, 2000, .inl (fun _ => 0))), (a_3, .inl (cI, 2000, .inl (fun _ => 0)))] H := hP
  have hD : va_D A [(h, .inr (0, [.ref a_1, .ref a_2, .null, .null, .int 0, .int 0])), (a_1, .inl (cI, 2000, .inl (fun _ => 0))), (a_2, .inl (cI, 2000, .inl (fun _ => 0))), (a_3, .inl (cI, 2000, .inl (fun _ => 0)))] := hD
  refine W.widen (k := 3) (n := 6000) (Nat.le_of_ble_eq_true rfl) (Nat.le_of_ble_eq_true rfl) ?_
  refine va_putF (ci := 0) (v := .ref a_3) (ty := (.array .int)) (C := RX0) (T := TX0) (N := 6) hx hb hts inX0 tyX0 tyX0_ok nmX0 hown hK hP hD hS 0 rfl rfl 2 (by decide) (hts _ k_28) (fun _ h9 => h9) rfl hnm rfl (by decide +kernel) rfl rfl (Nat.le_of_ble_eq_true rfl) dX0_init_28 (fun H locs hP hD hS => ?_)
  have hP : va_P D vwCl [(h, .inr (0, [.ref a_1, .ref a_2, .ref a_3, .null, .int 0, .int 0])), (a_1, .inl (cI, 2000, .inl (fun _ => 0))), (a_2, .inl (cI, 2000, .inl (fun _ => 0))), (a_3, .inl (cI, 2000, .inl (fun _ => 0)))] H := hP
  have hD : va_D A [(h, .inr (0, [.ref a_1, .ref a_2, .ref a_3, .null, .int 0, .int 0])), (a_1, .inl (cI, 2000, .inl (fun _ => 0))), (a_2, .inl (cI, 2000, .inl (fun _ => 0))), (a_3, .inl (cI, 2000, .inl (fun _ => 0)))] := hD
  refine lv_aload_n hx hb dX0_init_31 rfl (lv_at hl 0 rfl) ?_
  refine lv_sipush (v := 2000) hx hb dX0_init_32 (by decide) ?_
  refine sq_newZ hx hb (hts _ k_46) hK hP hD hS hA (n := 2000) (N0 := 2000) (by decide) (by decide) (by decide) (Nat.le_of_ble_eq_true rfl) (Nat.le_of_ble_eq_true rfl) dX0_init_35 (fun a_4 H hP hD hS => ?_)
  have hP : va_P D vwCl [(h, .inr (0, [.ref a_1, .ref a_2, .ref a_3, .null, .int 0, .int 0])), (a_1, .inl (cI, 2000, .inl (fun _ => 0))), (a_2, .inl (cI, 2000, .inl (fun _ => 0))), (a_3, .inl (cI, 2000, .inl (fun _ => 0))), (a_4, .inl (cZ, 2000, .inl (fun _ => 0)))] H := hP
  have hD : va_D A [(h, .inr (0, [.ref a_1, .ref a_2, .ref a_3, .null, .int 0, .int 0])), (a_1, .inl (cI, 2000, .inl (fun _ => 0))), (a_2, .inl (cI, 2000, .inl (fun _ => 0))), (a_3, .inl (cI, 2000, .inl (fun _ => 0))), (a_4, .inl (cZ, 2000, .inl (fun _ => 0)))] := hD
  refine W.widen (k := 4) (n := 8000) (Nat.le_of_ble_eq_true rfl) (Nat.le_of_ble_eq_true rfl) ?_
  refine va_putF (ci := 0) (v := .ref a_4) (ty := (.array .boolean)) (C := RX0) (T := TX0) (N := 6) hx hb hts inX0 tyX0 tyX0_ok nmX0 hown hK hP hD hS 0 rfl rfl 3 (by decide) (hts _ k_29) (fun _ h9 => h9) rfl hnm rfl (by decide +kernel) rfl rfl (Nat.le_of_ble_eq_true rfl) dX0_init_37 (fun H locs hP hD hS => ?_)
  have hP : va_P D vwCl [(h, .inr (0, [.ref a_1, .ref a_2, .ref a_3, .ref a_4, .int 0, .int 0])), (a_1, .inl (cI, 2000, .inl (fun _ => 0))), (a_2, .inl (cI, 2000, .inl (fun _ => 0))), (a_3, .inl (cI, 2000, .inl (fun _ => 0))), (a_4, .inl (cZ, 2000, .inl (fun _ => 0)))] H := hP
  have hD : va_D A [(h, .inr (0, [.ref a_1, .ref a_2, .ref a_3, .ref a_4, .int 0, .int 0])), (a_1, .inl (cI, 2000, .inl (fun _ => 0))), (a_2, .inl (cI, 2000, .inl (fun _ => 0))), (a_3, .inl (cI, 2000, .inl (fun _ => 0))), (a_4, .inl (cZ, 2000, .inl (fun _ => 0)))] := hD
  have hP9 := hP.sub (ws' := [(h, .inr (0, [.ref a_1, .ref a_2, .ref a_3, .ref a_4, .int 0, .int 0])), (a_1, .inl (cI, 2000, .inl (fun _ => 0))), (a_2, .inl (cI, 2000, .inl (fun _ => 0))), (a_3, .inl (cI, 2000, .inl (fun _ => 0))), (a_4, .inl (cZ, 2000, .inl (fun _ => 0)))]) [0, 1, 2, 3, 4] rfl
  have hD9 := hD.sub (ws' := [(h, .inr (0, [.ref a_1, .ref a_2, .ref a_3, .ref a_4, .int 0, .int 0])), (a_1, .inl (cI, 2000, .inl (fun _ => 0))), (a_2, .inl (cI, 2000, .inl (fun _ => 0))), (a_3, .inl (cI, 2000, .inl (fun _ => 0))), (a_4, .inl (cZ, 2000, .inl (fun _ => 0)))]) [0, 1, 2, 3, 4] (by decide) rfl
  exact hend (a_1, a_2, a_3, a_4) _ _ _ _ dX0_init_40 hP9 hD9 hS trivial

set_option maxHeartbeats 600000 in
set_option maxRecDepth 100000 in
theorem c_X2_init (l : Launch) (D : va_G) (cI cZ cB cJ : ClassId) (sz : Nat) (h : Nat) : sq_Mv l yX2_init wsX2_init { frames := 1, cells := 2, slots := 16, locals := 12 } D (sq_T cI cZ cB cJ) sz [.ref h] [(h, .inr (2, [.null, .null, .int 0, .int 0, .long 0, .int 0]))] (fun (u : Nat × Nat) => match u with | (b1, b2) => True) (fun (u : Nat × Nat) => match u with | (b1, b2) => [(h, .inr (2, [.ref b1, .ref b2, .int 0, .int 0, .long 0, .int 0])), (b1, .inl (cI, 8, .inl (fun _ => 0))), (b2, .inl (cI, 8, .inl (fun _ => 0)))]) 2 16 := by
  refine sq_enterv cX2_init 1 (plainFor_of_name (by decide)) rfl (Nat.le_of_ble_eq_true rfl) ?_
  intro p e s m below meth c ls args A Q hargs hx hb hml hown hts hnm hN hP hK hD hA hS hl hend
  have hl : lv_has ls 1 [(0, .ref h)] := hl
  refine lv_aload_n hx hb dX2_init_0 rfl (lv_at hl 0 rfl) ?_
  refine W.objInit hx hb hown (hts _ k_78) (hts _ k_18) (hts _ k_19) rfl (by rw [hml]; exact hl.1) rfl dX2_init_1 (Nat.le_of_ble_eq_true rfl) (Nat.le_of_ble_eq_true rfl) ?_
  refine W.eq (g2 := F0 m 4 ls []) rfl ?_
  refine lv_aload_n hx hb dX2_init_4 rfl (lv_at hl 0 rfl) ?_
  refine lv_bipush (v := 8) hx hb dX2_init_5 (by decide) ?_
  refine sq_newI hx hb (hts _ k_45) hK hP hD hS hA (n := 8) (N0 := 8) (by decide) (by decide) (by decide) (Nat.le_of_ble_eq_true rfl) (Nat.le_of_ble_eq_true rfl) dX2_init_7 (fun a_1 H hP hD hS => ?_)
  have hP : va_P D vwCl [(h, .inr (2, [.null, .null, .int 0, .int 0, .long 0, .int 0])), (a_1, .inl (cI, 8, .inl (fun _ => 0)))] H := hP
  have hD : va_D A [(h, .inr (2, [.null, .null, .int 0, .int 0, .long 0, .int 0])), (a_1, .inl (cI, 8, .inl (fun _ => 0)))] := hD
  refine W.widen (k := 1) (n := 8) (Nat.le_of_ble_eq_true rfl) (Nat.le_of_ble_eq_true rfl) ?_
  refine va_putF (ci := 2) (v := .ref a_1) (ty := (.array .int)) (C := RX2) (T := TX2) (N := 6) hx hb hts inX2 tyX2 tyX2_ok nmX2 hown hK hP hD hS 0 rfl rfl 0 (by decide) (hts _ k_79) (fun _ h9 => h9) rfl hnm rfl (by decide +kernel) rfl rfl (Nat.le_of_ble_eq_true rfl) dX2_init_9 (fun H locs hP hD hS => ?_)
  have hP : va_P D vwCl [(h, .inr (2, [.ref a_1, .null, .int 0, .int 0, .long 0, .int 0])), (a_1, .inl (cI, 8, .inl (fun _ => 0)))] H := hP
  have hD : va_D A [(h, .inr (2, [.ref a_1, .null, .int 0, .int 0, .long 0, .int 0])), (a_1, .inl (cI, 8, .inl (fun _ => 0)))] := hD
  refine lv_aload_n hx hb dX2_init_12 rfl (lv_at hl 0 rfl) ?_
  refine lv_bipush (v := 8) hx hb dX2_init_13 (by decide) ?_
  refine sq_newI hx hb (hts _ k_45) hK hP hD hS hA (n := 8) (N0 := 8) (by decide) (by decide) (by decide) (Nat.le_of_ble_eq_true rfl) (Nat.le_of_ble_eq_true rfl) dX2_init_15 (fun a_2 H hP hD hS => ?_)
  have hP : va_P D vwCl [(h, .inr (2, [.ref a_1, .null, .int 0, .int 0, .long 0, .int 0])), (a_1, .inl (cI, 8, .inl (fun _ => 0))), (a_2, .inl (cI, 8, .inl (fun _ => 0)))] H := hP
  have hD : va_D A [(h, .inr (2, [.ref a_1, .null, .int 0, .int 0, .long 0, .int 0])), (a_1, .inl (cI, 8, .inl (fun _ => 0))), (a_2, .inl (cI, 8, .inl (fun _ => 0)))] := hD
  refine W.widen (k := 2) (n := 16) (Nat.le_of_ble_eq_true rfl) (Nat.le_of_ble_eq_true rfl) ?_
  refine va_putF (ci := 2) (v := .ref a_2) (ty := (.array .int)) (C := RX2) (T := TX2) (N := 6) hx hb hts inX2 tyX2 tyX2_ok nmX2 hown hK hP hD hS 0 rfl rfl 1 (by decide) (hts _ k_80) (fun _ h9 => h9) rfl hnm rfl (by decide +kernel) rfl rfl (Nat.le_of_ble_eq_true rfl) dX2_init_17 (fun H locs hP hD hS => ?_)
  have hP : va_P D vwCl [(h, .inr (2, [.ref a_1, .ref a_2, .int 0, .int 0, .long 0, .int 0])), (a_1, .inl (cI, 8, .inl (fun _ => 0))), (a_2, .inl (cI, 8, .inl (fun _ => 0)))] H := hP
  have hD : va_D A [(h, .inr (2, [.ref a_1, .ref a_2, .int 0, .int 0, .long 0, .int 0])), (a_1, .inl (cI, 8, .inl (fun _ => 0))), (a_2, .inl (cI, 8, .inl (fun _ => 0)))] := hD
  have hP9 := hP.sub (ws' := [(h, .inr (2, [.ref a_1, .ref a_2, .int 0, .int 0, .long 0, .int 0])), (a_1, .inl (cI, 8, .inl (fun _ => 0))), (a_2, .inl (cI, 8, .inl (fun _ => 0)))]) [0, 1, 2] rfl
  have hD9 := hD.sub (ws' := [(h, .inr (2, [.ref a_1, .ref a_2, .int 0, .int 0, .long 0, .int 0])), (a_1, .inl (cI, 8, .inl (fun _ => 0))), (a_2, .inl (cI, 8, .inl (fun _ => 0)))]) [0, 1, 2] (by decide) rfl
  exact hend (a_1, a_2) _ _ _ _ dX2_init_20 hP9 hD9 hS trivial

set_option maxHeartbeats 600000 in
set_option maxRecDepth 100000 in
theorem c_X3_init (l : Launch) (D : va_G) (cI cZ cB cJ : ClassId) (sz : Nat) (h : Nat) : sq_Mv l yX3_init wsX3_init { frames := 1, cells := 2, slots := 18000, locals := 12 } D (sq_T cI cZ cB cJ) sz [.ref h] [(h, .inr (3, [.null, .null, .int 0, .int 0, .int 0]))] (fun (u : Nat × Nat) => match u with | (b1, b2) => True) (fun (u : Nat × Nat) => match u with | (b1, b2) => [(h, .inr (3, [.ref b1, .ref b2, .int 0, .int 0, .int 0])), (b1, .inl (cI, 2000, .inl (fun _ => 0))), (b2, .inl (cI, 16000, .inl (fun _ => 0)))]) 2 18000 := by
  refine sq_enterv cX3_init 1 (plainFor_of_name (by decide)) rfl (Nat.le_of_ble_eq_true rfl) ?_
  intro p e s m below meth c ls args A Q hargs hx hb hml hown hts hnm hN hP hK hD hA hS hl hend
  have hl : lv_has ls 1 [(0, .ref h)] := hl
  refine lv_aload_n hx hb dX3_init_0 rfl (lv_at hl 0 rfl) ?_
  refine W.objInit hx hb hown (hts _ k_103) (hts _ k_18) (hts _ k_19) rfl (by rw [hml]; exact hl.1) rfl dX3_init_1 (Nat.le_of_ble_eq_true rfl) (Nat.le_of_ble_eq_true rfl) ?_
  refine W.eq (g2 := F0 m 4 ls []) rfl ?_
  refine lv_aload_n hx hb dX3_init_4 rfl (lv_at hl 0 rfl) ?_
  refine lv_sipush (v := 2000) hx hb dX3_init_5 (by decide) ?_
  refine sq_newI hx hb (hts _ k_45) hK hP hD hS hA (n := 2000) (N0 := 2000) (by decide) (by decide) (by decide) (Nat.le_of_ble_eq_true rfl) (Nat.le_of_ble_eq_true rfl) dX3_init_8 (fun a_1 H hP hD hS => ?_)
  have hP : va_P D vwCl [(h, .inr (3, [.null, .null, .int 0, .int 0, .int 0])), (a_1, .inl (cI, 2000, .inl (fun _ => 0)))] H := hP
  have hD : va_D A [(h, .inr (3, [.null, .null, .int 0, .int 0, .int 0])), (a_1, .inl (cI, 2000, .inl (fun _ => 0)))] := hD
  refine W.widen (k := 1) (n := 2000) (Nat.le_of_ble_eq_true rfl) (Nat.le_of_ble_eq_true rfl) ?_
  refine va_putF (ci := 3) (v := .ref a_1) (ty := (.array .int)) (C := RX3) (T := TX3) (N := 5) hx hb hts inX3 tyX3 tyX3_ok nmX3 hown hK hP hD hS 0 rfl rfl 0 (by decide) (hts _ k_104) (fun _ h9 => h9) rfl hnm rfl (by decide +kernel) rfl rfl (Nat.le_of_ble_eq_true rfl) dX3_init_10 (fun H locs hP hD hS => ?_)
  have hP : va_P D vwCl [(h, .inr (3, [.ref a_1, .null, .int 0, .int 0, .int 0])), (a_1, .inl (cI, 2000, .inl (fun _ => 0)))] H := hP
  have hD : va_D A [(h, .inr (3, [.ref a_1, .null, .int 0, .int 0, .int 0])), (a_1, .inl (cI, 2000, .inl (fun _ => 0)))] := hD
  refine lv_aload_n hx hb dX3_init_13 rfl (lv_at hl 0 rfl) ?_
  refine lv_sipush (v := 16000) hx hb dX3_init_14 (by decide) ?_
  refine sq_newI hx hb (hts _ k_45) hK hP hD hS hA (n := 16000) (N0 := 16000) (by decide) (by decide) (by decide) (Nat.le_of_ble_eq_true rfl) (Nat.le_of_ble_eq_true rfl) dX3_init_17 (fun a_2 H hP hD hS => ?_)
  have hP : va_P D vwCl [(h, .inr (3, [.ref a_1, .null, .int 0, .int 0, .int 0])), (a_1, .inl (cI, 2000, .inl (fun _ => 0))), (a_2, .inl (cI, 16000, .inl (fun _ => 0)))] H := hP
  have hD : va_D A [(h, .inr (3, [.ref a_1, .null, .int 0, .int 0, .int 0])), (a_1, .inl (cI, 2000, .inl (fun _ => 0))), (a_2, .inl (cI, 16000, .inl (fun _ => 0)))] := hD
  refine W.widen (k := 2) (n := 18000) (Nat.le_of_ble_eq_true rfl) (Nat.le_of_ble_eq_true rfl) ?_
  refine va_putF (ci := 3) (v := .ref a_2) (ty := (.array .int)) (C := RX3) (T := TX3) (N := 5) hx hb hts inX3 tyX3 tyX3_ok nmX3 hown hK hP hD hS 0 rfl rfl 1 (by decide) (hts _ k_105) (fun _ h9 => h9) rfl hnm rfl (by decide +kernel) rfl rfl (Nat.le_of_ble_eq_true rfl) dX3_init_19 (fun H locs hP hD hS => ?_)
  have hP : va_P D vwCl [(h, .inr (3, [.ref a_1, .ref a_2, .int 0, .int 0, .int 0])), (a_1, .inl (cI, 2000, .inl (fun _ => 0))), (a_2, .inl (cI, 16000, .inl (fun _ => 0)))] H := hP
  have hD : va_D A [(h, .inr (3, [.ref a_1, .ref a_2, .int 0, .int 0, .int 0])), (a_1, .inl (cI, 2000, .inl (fun _ => 0))), (a_2, .inl (cI, 16000, .inl (fun _ => 0)))] := hD
  refine lv_aload_n hx hb dX3_init_22 rfl (lv_at hl 0 rfl) ?_
  refine lv_iconst (v := 0) hx hb dX3_init_23 (by decide) ?_
  refine va_put (ci := 3) (v := .int 0) (ty := .int) (C := RX3) (T := TX3) (N := 5) hx hb hts inX3 tyX3 tyX3_ok nmX3 hown hK hP hD hS 0 rfl rfl 4 (by decide) (hts _ k_108) (fun _ h9 => h9) rfl (by decide +kernel) rfl rfl (Nat.le_of_ble_eq_true rfl) dX3_init_24 (fun H locs hP hD hS => ?_)
  have hP : va_P D vwCl [(h, .inr (3, [.ref a_1, .ref a_2, .int 0, .int 0, .int 0])), (a_1, .inl (cI, 2000, .inl (fun _ => 0))), (a_2, .inl (cI, 16000, .inl (fun _ => 0)))] H := hP
  have hD : va_D A [(h, .inr (3, [.ref a_1, .ref a_2, .int 0, .int 0, .int 0])), (a_1, .inl (cI, 2000, .inl (fun _ => 0))), (a_2, .inl (cI, 16000, .inl (fun _ => 0)))] := hD
  have hP9 := hP.sub (ws' := [(h, .inr (3, [.ref a_1, .ref a_2, .int 0, .int 0, .int 0])), (a_1, .inl (cI, 2000, .inl (fun _ => 0))), (a_2, .inl (cI, 16000, .inl (fun _ => 0)))]) [0, 1, 2] rfl
  have hD9 := hD.sub (ws' := [(h, .inr (3, [.ref a_1, .ref a_2, .int 0, .int 0, .int 0])), (a_1, .inl (cI, 2000, .inl (fun _ => 0))), (a_2, .inl (cI, 16000, .inl (fun _ => 0)))]) [0, 1, 2] (by decide) rfl
  exact hend (a_1, a_2) _ _ _ _ dX3_init_27 hP9 hD9 hS trivial

set_option maxHeartbeats 600000 in
set_option maxRecDepth 100000 in
theorem c_X6_init (l : Launch) (D : va_G) (cI cZ cB cJ : ClassId) (sz : Nat) (h : Nat) : sq_Mv l yX6_init wsX6_init { frames := 1, cells := 0, slots := 0, locals := 22 } D (sq_T cI cZ cB cJ) sz [.ref h] [(h, .inr (6, [.long 0, .int 0, .int 0, .long 0]))] (fun (_ : Unit) => True) (fun (_ : Unit) => [(h, .inr (6, [.long 32768, .int 0, .int 0, .long (tpLeast 655360)]))]) 0 0 := by
  refine sq_enterv cX6_init 1 (plainFor_of_name (by decide)) rfl (Nat.le_of_ble_eq_true rfl) ?_
  intro p e s m below meth c ls args A Q hargs hx hb hml hown hts hnm hN hP hK hD hA hS hl hend
  have hl : lv_has ls 1 [(0, .ref h)] := hl
  refine lv_aload_n hx hb dX6_init_0 rfl (lv_at hl 0 rfl) ?_
  refine W.objInit hx hb hown (hts _ k_52) (hts _ k_18) (hts _ k_19) rfl (by rw [hml]; exact hl.1) rfl dX6_init_1 (Nat.le_of_ble_eq_true rfl) (Nat.le_of_ble_eq_true rfl) ?_
  refine W.eq (g2 := F0 m 4 ls []) rfl ?_
  refine lv_aload_n hx hb dX6_init_4 rfl (lv_at hl 0 rfl) ?_
  refine lv_ldc2 hx hb hown (hts _ k_53) dX6_init_5 ?_
  refine va_put (ci := 6) (v := .long 32768) (ty := .long) (C := RX6) (T := TX6) (N := 4) hx hb hts inX6 tyX6 tyX6_ok nmX6 hown hK hP hD hS 0 rfl rfl 0 (by decide) (hts _ k_60) (fun _ h9 => h9) rfl (by decide +kernel) rfl rfl (Nat.le_of_ble_eq_true rfl) dX6_init_8 (fun H locs hP hD hS => ?_)
  have hP : va_P D vwCl [(h, .inr (6, [.long 32768, .int 0, .int 0, .long 0]))] H := hP
  have hD : va_D A [(h, .inr (6, [.long 32768, .int 0, .int 0, .long 0]))] := hD
  refine lv_aload_n hx hb dX6_init_11 rfl (lv_at hl 0 rfl) ?_
  refine lv_ldc hx hb hown (hts _ k_54) dX6_init_12 ?_
  refine sq_gol (wc := []) (wr := [(h, .inr (6, [.long 32768, .int 0, .int 0, .long 0]))]) [] [0] hP hD hS hA rfl rfl (by decide) (by decide) (by decide) (fun hPc hDc => va_runS (As := [.int 655360]) (rest := [.ref h]) ⟨hx, hb, hml, hown, hts⟩ (c_tpLeast l D cI cZ cB cJ _ 655360 ) ⟨callB_of 1 hts (sq_gi k_57) rfl rfl rfl (hts _ k_3) (hts _ k_55) hdX6_leastCosine ⟨Nat.le_of_ble_eq_true rfl, Nat.le_of_ble_eq_true rfl⟩, (hts _ k_56)⟩ (sq_preS hPc hDc hK hN) rfl rfl hl.1 rfl (lv_room (Nat.le_of_ble_eq_true rfl)) dX6_init_14 ⟨Nat.le_of_ble_eq_true rfl, Nat.le_of_ble_eq_true rfl⟩) (fun r_1 u H locs hw_2 hP hD hS => ?_)
  have hw_2 : r_1 = tpLeast 655360 := hw_2
  have e_3 := hw_2
  clear hw_2
  subst e_3
  have hP : va_P D vwCl [(h, .inr (6, [.long 32768, .int 0, .int 0, .long 0]))] H := hP
  have hD : va_D A [(h, .inr (6, [.long 32768, .int 0, .int 0, .long 0]))] := hD
  refine va_put (ci := 6) (v := .long (tpLeast 655360)) (ty := .long) (C := RX6) (T := TX6) (N := 4) hx hb hts inX6 tyX6 tyX6_ok nmX6 hown hK hP hD hS 0 rfl rfl 3 (by decide) (hts _ k_63) (fun _ h9 => h9) rfl (by decide +kernel) rfl rfl (Nat.le_of_ble_eq_true rfl) dX6_init_17 (fun H locs hP hD hS => ?_)
  have hP : va_P D vwCl [(h, .inr (6, [.long 32768, .int 0, .int 0, .long (tpLeast 655360)]))] H := hP
  have hD : va_D A [(h, .inr (6, [.long 32768, .int 0, .int 0, .long (tpLeast 655360)]))] := hD
  have hP9 := hP.sub (ws' := [(h, .inr (6, [.long 32768, .int 0, .int 0, .long (tpLeast 655360)]))]) [0] rfl
  have hD9 := hD.sub (ws' := [(h, .inr (6, [.long 32768, .int 0, .int 0, .long (tpLeast 655360)]))]) [0] (by decide) rfl
  exact hend () _ _ _ _ dX6_init_20 hP9 hD9 hS trivial

set_option maxHeartbeats 600000 in
set_option maxRecDepth 100000 in
theorem c_X1_init (l : Launch) (D : va_G) (cI cZ cB cJ : ClassId) (sz : Nat) (h : Nat) (g1 : Nat) (g2 : Nat) : sq_Mv l yX1_init wsX1_init { frames := 2, cells := 2, slots := 22, locals := 32 } D (sq_T cI cZ cB cJ) sz [.ref h, .ref g1, .ref g2] [(h, .inr (1, [.null, .null, .null, .null]))] (fun (u : Nat × Nat) => match u with | (b1, b2) => True) (fun (u : Nat × Nat) => match u with | (b1, b2) => [(h, .inr (1, [.ref g1, .ref g2, .ref b1, .ref b2])), (b1, .inr (5, [.long 0, .long 0, .long 0, .long 0, .long 0, .long 0, .long 0, .long 0, .long 0, .long 0, .long 0])), (b2, .inr (5, [.long 0, .long 0, .long 0, .long 0, .long 0, .long 0, .long 0, .long 0, .long 0, .long 0, .long 0]))]) 2 22 := by
  refine sq_enterv cX1_init 3 (plainFor_of_name (by decide)) rfl (Nat.le_of_ble_eq_true rfl) ?_
  intro p e s m below meth c ls args A Q hargs hx hb hml hown hts hnm hN hP hK hD hA hS hl hend
  have hl : lv_has ls 3 [(0, .ref h), (1, .ref g1), (2, .ref g2)] := hl
  refine lv_aload_n hx hb dX1_init_0 rfl (lv_at hl 0 rfl) ?_
  refine W.objInit hx hb hown (hts _ k_125) (hts _ k_18) (hts _ k_19) rfl (by rw [hml]; exact hl.1) rfl dX1_init_1 (Nat.le_of_ble_eq_true rfl) (Nat.le_of_ble_eq_true rfl) ?_
  refine W.eq (g2 := F0 m 4 ls []) rfl ?_
  refine lv_aload_n hx hb dX1_init_4 rfl (lv_at hl 0 rfl) ?_
  refine va_new (ci := 5) (fs := [.long 0, .long 0, .long 0, .long 0, .long 0, .long 0, .long 0, .long 0, .long 0, .long 0, .long 0]) (C := RX5) (T := TX5) (N := 11) hx hb hts inX5 tyX5 tyX5_ok hown (hts _ k_126) (hts _ k_127) (hts _ k_7) hK hP hD hS hA rfl (fun j hj => by rcases (show j = 0 ∨ j = 1 ∨ j = 2 ∨ j = 3 ∨ j = 4 ∨ j = 5 ∨ j = 6 ∨ j = 7 ∨ j = 8 ∨ j = 9 ∨ j = 10 by omega) with rfl | rfl | rfl | rfl | rfl | rfl | rfl | rfl | rfl | rfl | rfl <;> rfl) (Nat.le_of_ble_eq_true rfl) (Nat.le_of_ble_eq_true rfl) dX1_init_5 (fun a_1 H hP hD hS => ?_)
  have hP : va_P D vwCl [(h, .inr (1, [.null, .null, .null, .null])), (a_1, .inr (5, [.long 0, .long 0, .long 0, .long 0, .long 0, .long 0, .long 0, .long 0, .long 0, .long 0, .long 0]))] H := hP
  have hD : va_D A [(h, .inr (1, [.null, .null, .null, .null])), (a_1, .inr (5, [.long 0, .long 0, .long 0, .long 0, .long 0, .long 0, .long 0, .long 0, .long 0, .long 0, .long 0]))] := hD
  refine W.widen (k := 1) (n := 11) (Nat.le_of_ble_eq_true rfl) (Nat.le_of_ble_eq_true rfl) ?_
  refine lv_dup hx hb dX1_init_8 rfl ?_
  refine sq_gov (wc := [(a_1, .inr (5, [.long 0, .long 0, .long 0, .long 0, .long 0, .long 0, .long 0, .long 0, .long 0, .long 0, .long 0]))]) (wr := [(h, .inr (1, [.null, .null, .null, .null]))]) [1] [0] hP hD hS hA rfl rfl (by decide) (by decide) (by decide) (fun hPc hDc => va_runIN (As := []) (rest := [.ref a_1, .ref h]) ⟨hx, hb, hml, hown, hts⟩ (c_X5_init l D cI cZ cB cJ _ a_1 ) ⟨va_cnB 0 hts (sq_gi k_130) rfl rfl rfl (va_Nw.of rfl (hN.at (args := args) 4 rfl)) (hts _ k_7) hdX5_init ⟨Nat.le_of_ble_eq_true rfl, Nat.le_of_ble_eq_true rfl⟩, rfl, (hts _ k_129)⟩ (sq_preS hPc hDc hK hN) rfl rfl hl.1 rfl (lv_room (Nat.le_of_ble_eq_true rfl)) dX1_init_9 ⟨Nat.le_of_ble_eq_true rfl, Nat.le_of_ble_eq_true rfl⟩) (fun  u H locs hw_3 hP hD hS => ?_)
  have hP : va_P D vwCl [(h, .inr (1, [.null, .null, .null, .null])), (a_1, .inr (5, [.long 0, .long 0, .long 0, .long 0, .long 0, .long 0, .long 0, .long 0, .long 0, .long 0, .long 0]))] H := hP
  have hD : va_D A [(h, .inr (1, [.null, .null, .null, .null])), (a_1, .inr (5, [.long 0, .long 0, .long 0, .long 0, .long 0, .long 0, .long 0, .long 0, .long 0, .long 0, .long 0]))] := hD
  refine W.widen (k := 1) (n := 11) (Nat.le_of_ble_eq_true rfl) (Nat.le_of_ble_eq_true rfl) ?_
  refine va_put (ci := 1) (v := .ref a_1) (ty := (.object "StrokePieces$Segment")) (C := RX1) (T := TX1) (N := 4) hx hb hts inX1 tyX1 tyX1_ok nmX1 hown hK hP hD hS 0 rfl rfl 2 (by decide) (hts _ k_181) (fun _ h9 => h9) rfl (by decide +kernel) rfl rfl (Nat.le_of_ble_eq_true rfl) dX1_init_12 (fun H locs hP hD hS => ?_)
  have hP : va_P D vwCl [(h, .inr (1, [.null, .null, .ref a_1, .null])), (a_1, .inr (5, [.long 0, .long 0, .long 0, .long 0, .long 0, .long 0, .long 0, .long 0, .long 0, .long 0, .long 0]))] H := hP
  have hD : va_D A [(h, .inr (1, [.null, .null, .ref a_1, .null])), (a_1, .inr (5, [.long 0, .long 0, .long 0, .long 0, .long 0, .long 0, .long 0, .long 0, .long 0, .long 0, .long 0]))] := hD
  refine lv_aload_n hx hb dX1_init_15 rfl (lv_at hl 0 rfl) ?_
  refine va_new (ci := 5) (fs := [.long 0, .long 0, .long 0, .long 0, .long 0, .long 0, .long 0, .long 0, .long 0, .long 0, .long 0]) (C := RX5) (T := TX5) (N := 11) hx hb hts inX5 tyX5 tyX5_ok hown (hts _ k_126) (hts _ k_127) (hts _ k_7) hK hP hD hS hA rfl (fun j hj => by rcases (show j = 0 ∨ j = 1 ∨ j = 2 ∨ j = 3 ∨ j = 4 ∨ j = 5 ∨ j = 6 ∨ j = 7 ∨ j = 8 ∨ j = 9 ∨ j = 10 by omega) with rfl | rfl | rfl | rfl | rfl | rfl | rfl | rfl | rfl | rfl | rfl <;> rfl) (Nat.le_of_ble_eq_true rfl) (Nat.le_of_ble_eq_true rfl) dX1_init_16 (fun a_4 H hP hD hS => ?_)
  have hP : va_P D vwCl [(h, .inr (1, [.null, .null, .ref a_1, .null])), (a_1, .inr (5, [.long 0, .long 0, .long 0, .long 0, .long 0, .long 0, .long 0, .long 0, .long 0, .long 0, .long 0])), (a_4, .inr (5, [.long 0, .long 0, .long 0, .long 0, .long 0, .long 0, .long 0, .long 0, .long 0, .long 0, .long 0]))] H := hP
  have hD : va_D A [(h, .inr (1, [.null, .null, .ref a_1, .null])), (a_1, .inr (5, [.long 0, .long 0, .long 0, .long 0, .long 0, .long 0, .long 0, .long 0, .long 0, .long 0, .long 0])), (a_4, .inr (5, [.long 0, .long 0, .long 0, .long 0, .long 0, .long 0, .long 0, .long 0, .long 0, .long 0, .long 0]))] := hD
  refine W.widen (k := 2) (n := 22) (Nat.le_of_ble_eq_true rfl) (Nat.le_of_ble_eq_true rfl) ?_
  refine lv_dup hx hb dX1_init_19 rfl ?_
  refine sq_gov (wc := [(a_4, .inr (5, [.long 0, .long 0, .long 0, .long 0, .long 0, .long 0, .long 0, .long 0, .long 0, .long 0, .long 0]))]) (wr := [(h, .inr (1, [.null, .null, .ref a_1, .null])), (a_1, .inr (5, [.long 0, .long 0, .long 0, .long 0, .long 0, .long 0, .long 0, .long 0, .long 0, .long 0, .long 0]))]) [2] [0, 1] hP hD hS hA rfl rfl (by decide) (by decide) (by decide) (fun hPc hDc => va_runIN (As := []) (rest := [.ref a_4, .ref h]) ⟨hx, hb, hml, hown, hts⟩ (c_X5_init l D cI cZ cB cJ _ a_4 ) ⟨va_cnB 0 hts (sq_gi k_130) rfl rfl rfl (va_Nw.of rfl (hN.at (args := args) 4 rfl)) (hts _ k_7) hdX5_init ⟨Nat.le_of_ble_eq_true rfl, Nat.le_of_ble_eq_true rfl⟩, rfl, (hts _ k_129)⟩ (sq_preS hPc hDc hK hN) rfl rfl hl.1 rfl (lv_room (Nat.le_of_ble_eq_true rfl)) dX1_init_20 ⟨Nat.le_of_ble_eq_true rfl, Nat.le_of_ble_eq_true rfl⟩) (fun  u H locs hw_6 hP hD hS => ?_)
  have hP : va_P D vwCl [(h, .inr (1, [.null, .null, .ref a_1, .null])), (a_1, .inr (5, [.long 0, .long 0, .long 0, .long 0, .long 0, .long 0, .long 0, .long 0, .long 0, .long 0, .long 0])), (a_4, .inr (5, [.long 0, .long 0, .long 0, .long 0, .long 0, .long 0, .long 0, .long 0, .long 0, .long 0, .long 0]))] H := hP
  have hD : va_D A [(h, .inr (1, [.null, .null, .ref a_1, .null])), (a_1, .inr (5, [.long 0, .long 0, .long 0, .long 0, .long 0, .long 0, .long 0, .long 0, .long 0, .long 0, .long 0])), (a_4, .inr (5, [.long 0, .long 0, .long 0, .long 0, .long 0, .long 0, .long 0, .long 0, .long 0, .long 0, .long 0]))] := hD
  refine W.widen (k := 2) (n := 22) (Nat.le_of_ble_eq_true rfl) (Nat.le_of_ble_eq_true rfl) ?_
  refine va_put (ci := 1) (v := .ref a_4) (ty := (.object "StrokePieces$Segment")) (C := RX1) (T := TX1) (N := 4) hx hb hts inX1 tyX1 tyX1_ok nmX1 hown hK hP hD hS 0 rfl rfl 3 (by decide) (hts _ k_182) (fun _ h9 => h9) rfl (by decide +kernel) rfl rfl (Nat.le_of_ble_eq_true rfl) dX1_init_23 (fun H locs hP hD hS => ?_)
  have hP : va_P D vwCl [(h, .inr (1, [.null, .null, .ref a_1, .ref a_4])), (a_1, .inr (5, [.long 0, .long 0, .long 0, .long 0, .long 0, .long 0, .long 0, .long 0, .long 0, .long 0, .long 0])), (a_4, .inr (5, [.long 0, .long 0, .long 0, .long 0, .long 0, .long 0, .long 0, .long 0, .long 0, .long 0, .long 0]))] H := hP
  have hD : va_D A [(h, .inr (1, [.null, .null, .ref a_1, .ref a_4])), (a_1, .inr (5, [.long 0, .long 0, .long 0, .long 0, .long 0, .long 0, .long 0, .long 0, .long 0, .long 0, .long 0])), (a_4, .inr (5, [.long 0, .long 0, .long 0, .long 0, .long 0, .long 0, .long 0, .long 0, .long 0, .long 0, .long 0]))] := hD
  refine lv_aload_n hx hb dX1_init_26 rfl (lv_at hl 0 rfl) ?_
  refine lv_aload_n hx hb dX1_init_27 rfl (lv_at hl 1 rfl) ?_
  refine va_putF (ci := 1) (v := .ref g1) (ty := (.object "StrokePieces$Tip")) (C := RX1) (T := TX1) (N := 4) hx hb hts inX1 tyX1 tyX1_ok nmX1 hown hK hP hD hS 0 rfl rfl 0 (by decide) (hts _ k_179) (fun _ h9 => h9) rfl hnm rfl (by decide +kernel) rfl rfl (Nat.le_of_ble_eq_true rfl) dX1_init_28 (fun H locs hP hD hS => ?_)
  have hP : va_P D vwCl [(h, .inr (1, [.ref g1, .null, .ref a_1, .ref a_4])), (a_1, .inr (5, [.long 0, .long 0, .long 0, .long 0, .long 0, .long 0, .long 0, .long 0, .long 0, .long 0, .long 0])), (a_4, .inr (5, [.long 0, .long 0, .long 0, .long 0, .long 0, .long 0, .long 0, .long 0, .long 0, .long 0, .long 0]))] H := hP
  have hD : va_D A [(h, .inr (1, [.ref g1, .null, .ref a_1, .ref a_4])), (a_1, .inr (5, [.long 0, .long 0, .long 0, .long 0, .long 0, .long 0, .long 0, .long 0, .long 0, .long 0, .long 0])), (a_4, .inr (5, [.long 0, .long 0, .long 0, .long 0, .long 0, .long 0, .long 0, .long 0, .long 0, .long 0, .long 0]))] := hD
  refine lv_aload_n hx hb dX1_init_31 rfl (lv_at hl 0 rfl) ?_
  refine lv_aload_n hx hb dX1_init_32 rfl (lv_at hl 2 rfl) ?_
  refine va_putF (ci := 1) (v := .ref g2) (ty := (.object "StrokePieces$Pieces")) (C := RX1) (T := TX1) (N := 4) hx hb hts inX1 tyX1 tyX1_ok nmX1 hown hK hP hD hS 0 rfl rfl 1 (by decide) (hts _ k_180) (fun _ h9 => h9) rfl hnm rfl (by decide +kernel) rfl rfl (Nat.le_of_ble_eq_true rfl) dX1_init_33 (fun H locs hP hD hS => ?_)
  have hP : va_P D vwCl [(h, .inr (1, [.ref g1, .ref g2, .ref a_1, .ref a_4])), (a_1, .inr (5, [.long 0, .long 0, .long 0, .long 0, .long 0, .long 0, .long 0, .long 0, .long 0, .long 0, .long 0])), (a_4, .inr (5, [.long 0, .long 0, .long 0, .long 0, .long 0, .long 0, .long 0, .long 0, .long 0, .long 0, .long 0]))] H := hP
  have hD : va_D A [(h, .inr (1, [.ref g1, .ref g2, .ref a_1, .ref a_4])), (a_1, .inr (5, [.long 0, .long 0, .long 0, .long 0, .long 0, .long 0, .long 0, .long 0, .long 0, .long 0, .long 0])), (a_4, .inr (5, [.long 0, .long 0, .long 0, .long 0, .long 0, .long 0, .long 0, .long 0, .long 0, .long 0, .long 0]))] := hD
  have hP9 := hP.sub (ws' := [(h, .inr (1, [.ref g1, .ref g2, .ref a_1, .ref a_4])), (a_1, .inr (5, [.long 0, .long 0, .long 0, .long 0, .long 0, .long 0, .long 0, .long 0, .long 0, .long 0, .long 0])), (a_4, .inr (5, [.long 0, .long 0, .long 0, .long 0, .long 0, .long 0, .long 0, .long 0, .long 0, .long 0, .long 0]))]) [0, 1, 2] rfl
  have hD9 := hD.sub (ws' := [(h, .inr (1, [.ref g1, .ref g2, .ref a_1, .ref a_4])), (a_1, .inr (5, [.long 0, .long 0, .long 0, .long 0, .long 0, .long 0, .long 0, .long 0, .long 0, .long 0, .long 0])), (a_4, .inr (5, [.long 0, .long 0, .long 0, .long 0, .long 0, .long 0, .long 0, .long 0, .long 0, .long 0, .long 0]))]) [0, 1, 2] (by decide) rfl
  exact hend (a_1, a_4) _ _ _ _ dX1_init_36 hP9 hD9 hS trivial

set_option maxHeartbeats 600000 in
set_option maxRecDepth 100000 in
theorem c_X7_init (l : Launch) (D : va_G) (cI cZ cB cJ : ClassId) (sz : Nat) (h : Nat) (g1 : Nat) (g2 : Nat) (g3 : Nat) : sq_Mv l yX7_init wsX7_init { frames := 2, cells := 4, slots := 4019, locals := 32 } D (sq_T cI cZ cB cJ) sz [.ref h, .ref g1, .ref g2, .ref g3] [(h, .inr (7, [.null, .null, .null, .null, .null, .int 0, .int 0, .long 0, .int 0]))] (fun (u : Nat × Nat × Nat × Nat) => match u with | (b1, b2, b3, b4) => True) (fun (u : Nat × Nat × Nat × Nat) => match u with | (b1, b2, b3, b4) => [(h, .inr (7, [.ref g1, .ref g2, .ref g3, .ref b1, .ref b2, .int 0, .int 0, .long 0, .int 0])), (b1, .inr (5, [.long 0, .long 0, .long 0, .long 0, .long 0, .long 0, .long 0, .long 0, .long 0, .long 0, .long 0])), (b2, .inr (4, [.ref b3, .ref b4, .int 0, .int 0])), (b3, .inl (cI, 2002, .inl (fun _ => 0))), (b4, .inl (cI, 2002, .inl (fun _ => 0)))]) 4 4019 := by
  refine sq_enterv cX7_init 4 (plainFor_of_name (by decide)) rfl (Nat.le_of_ble_eq_true rfl) ?_
  intro p e s m below meth c ls args A Q hargs hx hb hml hown hts hnm hN hP hK hD hA hS hl hend
  have hl : lv_has ls 4 [(0, .ref h), (1, .ref g1), (2, .ref g2), (3, .ref g3)] := hl
  refine lv_aload_n hx hb dX7_init_0 rfl (lv_at hl 0 rfl) ?_
  refine W.objInit hx hb hown (hts _ k_197) (hts _ k_18) (hts _ k_19) rfl (by rw [hml]; exact hl.1) rfl dX7_init_1 (Nat.le_of_ble_eq_true rfl) (Nat.le_of_ble_eq_true rfl) ?_
  refine W.eq (g2 := F0 m 4 ls []) rfl ?_
  refine lv_aload_n hx hb dX7_init_4 rfl (lv_at hl 0 rfl) ?_
  refine va_new (ci := 5) (fs := [.long 0, .long 0, .long 0, .long 0, .long 0, .long 0, .long 0, .long 0, .long 0, .long 0, .long 0]) (C := RX5) (T := TX5) (N := 11) hx hb hts inX5 tyX5 tyX5_ok hown (hts _ k_198) (hts _ k_127) (hts _ k_7) hK hP hD hS hA rfl (fun j hj => by rcases (show j = 0 ∨ j = 1 ∨ j = 2 ∨ j = 3 ∨ j = 4 ∨ j = 5 ∨ j = 6 ∨ j = 7 ∨ j = 8 ∨ j = 9 ∨ j = 10 by omega) with rfl | rfl | rfl | rfl | rfl | rfl | rfl | rfl | rfl | rfl | rfl <;> rfl) (Nat.le_of_ble_eq_true rfl) (Nat.le_of_ble_eq_true rfl) dX7_init_5 (fun a_1 H hP hD hS => ?_)
  have hP : va_P D vwCl [(h, .inr (7, [.null, .null, .null, .null, .null, .int 0, .int 0, .long 0, .int 0])), (a_1, .inr (5, [.long 0, .long 0, .long 0, .long 0, .long 0, .long 0, .long 0, .long 0, .long 0, .long 0, .long 0]))] H := hP
  have hD : va_D A [(h, .inr (7, [.null, .null, .null, .null, .null, .int 0, .int 0, .long 0, .int 0])), (a_1, .inr (5, [.long 0, .long 0, .long 0, .long 0, .long 0, .long 0, .long 0, .long 0, .long 0, .long 0, .long 0]))] := hD
  refine W.widen (k := 1) (n := 11) (Nat.le_of_ble_eq_true rfl) (Nat.le_of_ble_eq_true rfl) ?_
  refine lv_dup hx hb dX7_init_8 rfl ?_
  refine sq_gov (wc := [(a_1, .inr (5, [.long 0, .long 0, .long 0, .long 0, .long 0, .long 0, .long 0, .long 0, .long 0, .long 0, .long 0]))]) (wr := [(h, .inr (7, [.null, .null, .null, .null, .null, .int 0, .int 0, .long 0, .int 0]))]) [1] [0] hP hD hS hA rfl rfl (by decide) (by decide) (by decide) (fun hPc hDc => va_runIN (As := []) (rest := [.ref a_1, .ref h]) ⟨hx, hb, hml, hown, hts⟩ (c_X5_init l D cI cZ cB cJ _ a_1 ) ⟨va_cnB 0 hts (sq_gi k_130) rfl rfl rfl (va_Nw.of rfl (hN.at (args := args) 18 rfl)) (hts _ k_7) hdX5_init ⟨Nat.le_of_ble_eq_true rfl, Nat.le_of_ble_eq_true rfl⟩, rfl, (hts _ k_129)⟩ (sq_preS hPc hDc hK hN) rfl rfl hl.1 rfl (lv_room (Nat.le_of_ble_eq_true rfl)) dX7_init_9 ⟨Nat.le_of_ble_eq_true rfl, Nat.le_of_ble_eq_true rfl⟩) (fun  u H locs hw_3 hP hD hS => ?_)
  have hP : va_P D vwCl [(h, .inr (7, [.null, .null, .null, .null, .null, .int 0, .int 0, .long 0, .int 0])), (a_1, .inr (5, [.long 0, .long 0, .long 0, .long 0, .long 0, .long 0, .long 0, .long 0, .long 0, .long 0, .long 0]))] H := hP
  have hD : va_D A [(h, .inr (7, [.null, .null, .null, .null, .null, .int 0, .int 0, .long 0, .int 0])), (a_1, .inr (5, [.long 0, .long 0, .long 0, .long 0, .long 0, .long 0, .long 0, .long 0, .long 0, .long 0, .long 0]))] := hD
  refine W.widen (k := 1) (n := 11) (Nat.le_of_ble_eq_true rfl) (Nat.le_of_ble_eq_true rfl) ?_
  refine va_putF (ci := 7) (v := .ref a_1) (ty := (.object "StrokePieces$Segment")) (C := RX7) (T := TX7) (N := 9) hx hb hts inX7 tyX7 tyX7_ok nmX7 hown hK hP hD hS 0 rfl rfl 3 (by decide) (hts _ k_222) (fun _ h9 => h9) rfl hnm rfl (by decide +kernel) rfl rfl (Nat.le_of_ble_eq_true rfl) dX7_init_12 (fun H locs hP hD hS => ?_)
  have hP : va_P D vwCl [(h, .inr (7, [.null, .null, .null, .ref a_1, .null, .int 0, .int 0, .long 0, .int 0])), (a_1, .inr (5, [.long 0, .long 0, .long 0, .long 0, .long 0, .long 0, .long 0, .long 0, .long 0, .long 0, .long 0]))] H := hP
  have hD : va_D A [(h, .inr (7, [.null, .null, .null, .ref a_1, .null, .int 0, .int 0, .long 0, .int 0])), (a_1, .inr (5, [.long 0, .long 0, .long 0, .long 0, .long 0, .long 0, .long 0, .long 0, .long 0, .long 0, .long 0]))] := hD
  refine lv_aload_n hx hb dX7_init_15 rfl (lv_at hl 0 rfl) ?_
  refine va_new (ci := 4) (fs := [.null, .null, .int 0, .int 0]) (C := RX4) (T := TX4) (N := 4) hx hb hts inX4 tyX4 tyX4_ok hown (hts _ k_200) (hts _ k_201) (hts _ k_9) hK hP hD hS hA rfl (fun j hj => by rcases (show j = 0 ∨ j = 1 ∨ j = 2 ∨ j = 3 by omega) with rfl | rfl | rfl | rfl <;> rfl) (Nat.le_of_ble_eq_true rfl) (Nat.le_of_ble_eq_true rfl) dX7_init_16 (fun a_4 H hP hD hS => ?_)
  have hP : va_P D vwCl [(h, .inr (7, [.null, .null, .null, .ref a_1, .null, .int 0, .int 0, .long 0, .int 0])), (a_1, .inr (5, [.long 0, .long 0, .long 0, .long 0, .long 0, .long 0, .long 0, .long 0, .long 0, .long 0, .long 0])), (a_4, .inr (4, [.null, .null, .int 0, .int 0]))] H := hP
  have hD : va_D A [(h, .inr (7, [.null, .null, .null, .ref a_1, .null, .int 0, .int 0, .long 0, .int 0])), (a_1, .inr (5, [.long 0, .long 0, .long 0, .long 0, .long 0, .long 0, .long 0, .long 0, .long 0, .long 0, .long 0])), (a_4, .inr (4, [.null, .null, .int 0, .int 0]))] := hD
  refine W.widen (k := 2) (n := 15) (Nat.le_of_ble_eq_true rfl) (Nat.le_of_ble_eq_true rfl) ?_
  refine lv_dup hx hb dX7_init_19 rfl ?_
  refine sq_gov (wc := [(a_4, .inr (4, [.null, .null, .int 0, .int 0]))]) (wr := [(h, .inr (7, [.null, .null, .null, .ref a_1, .null, .int 0, .int 0, .long 0, .int 0])), (a_1, .inr (5, [.long 0, .long 0, .long 0, .long 0, .long 0, .long 0, .long 0, .long 0, .long 0, .long 0, .long 0]))]) [2] [0, 1] hP hD hS hA rfl rfl (by decide) (by decide) (by decide) (fun hPc hDc => va_runIN (As := []) (rest := [.ref a_4, .ref h]) ⟨hx, hb, hml, hown, hts⟩ (c_X4_init l D cI cZ cB cJ _ a_4 ) ⟨va_cnB 0 hts (sq_gi k_204) rfl rfl rfl (va_Nw.of rfl (hN.at (args := args) 19 rfl)) (hts _ k_9) hdX4_init ⟨Nat.le_of_ble_eq_true rfl, Nat.le_of_ble_eq_true rfl⟩, rfl, (hts _ k_203)⟩ (sq_preS hPc hDc hK hN) rfl rfl hl.1 rfl (lv_room (Nat.le_of_ble_eq_true rfl)) dX7_init_20 ⟨Nat.le_of_ble_eq_true rfl, Nat.le_of_ble_eq_true rfl⟩) (fun  u H locs hw_6 hP hD hS => ?_)
  obtain ⟨q_7, q_8⟩ := u
  have hP : va_P D vwCl [(h, .inr (7, [.null, .null, .null, .ref a_1, .null, .int 0, .int 0, .long 0, .int 0])), (a_1, .inr (5, [.long 0, .long 0, .long 0, .long 0, .long 0, .long 0, .long 0, .long 0, .long 0, .long 0, .long 0])), (a_4, .inr (4, [.ref q_7, .ref q_8, .int 0, .int 0])), (q_7, .inl (cI, 2002, .inl (fun _ => 0))), (q_8, .inl (cI, 2002, .inl (fun _ => 0)))] H := hP
  have hD : va_D A [(h, .inr (7, [.null, .null, .null, .ref a_1, .null, .int 0, .int 0, .long 0, .int 0])), (a_1, .inr (5, [.long 0, .long 0, .long 0, .long 0, .long 0, .long 0, .long 0, .long 0, .long 0, .long 0, .long 0])), (a_4, .inr (4, [.ref q_7, .ref q_8, .int 0, .int 0])), (q_7, .inl (cI, 2002, .inl (fun _ => 0))), (q_8, .inl (cI, 2002, .inl (fun _ => 0)))] := hD
  refine W.widen (k := 4) (n := 4019) (Nat.le_of_ble_eq_true rfl) (Nat.le_of_ble_eq_true rfl) ?_
  refine va_putF (ci := 7) (v := .ref a_4) (ty := (.object "StrokePieces$Run")) (C := RX7) (T := TX7) (N := 9) hx hb hts inX7 tyX7 tyX7_ok nmX7 hown hK hP hD hS 0 rfl rfl 4 (by decide) (hts _ k_223) (fun _ h9 => h9) rfl hnm rfl (by decide +kernel) rfl rfl (Nat.le_of_ble_eq_true rfl) dX7_init_23 (fun H locs hP hD hS => ?_)
  have hP : va_P D vwCl [(h, .inr (7, [.null, .null, .null, .ref a_1, .ref a_4, .int 0, .int 0, .long 0, .int 0])), (a_1, .inr (5, [.long 0, .long 0, .long 0, .long 0, .long 0, .long 0, .long 0, .long 0, .long 0, .long 0, .long 0])), (a_4, .inr (4, [.ref q_7, .ref q_8, .int 0, .int 0])), (q_7, .inl (cI, 2002, .inl (fun _ => 0))), (q_8, .inl (cI, 2002, .inl (fun _ => 0)))] H := hP
  have hD : va_D A [(h, .inr (7, [.null, .null, .null, .ref a_1, .ref a_4, .int 0, .int 0, .long 0, .int 0])), (a_1, .inr (5, [.long 0, .long 0, .long 0, .long 0, .long 0, .long 0, .long 0, .long 0, .long 0, .long 0, .long 0])), (a_4, .inr (4, [.ref q_7, .ref q_8, .int 0, .int 0])), (q_7, .inl (cI, 2002, .inl (fun _ => 0))), (q_8, .inl (cI, 2002, .inl (fun _ => 0)))] := hD
  refine lv_aload_n hx hb dX7_init_26 rfl (lv_at hl 0 rfl) ?_
  refine lv_aload_n hx hb dX7_init_27 rfl (lv_at hl 1 rfl) ?_
  refine va_putF (ci := 7) (v := .ref g1) (ty := (.object "StrokePieces$Pattern")) (C := RX7) (T := TX7) (N := 9) hx hb hts inX7 tyX7 tyX7_ok nmX7 hown hK hP hD hS 0 rfl rfl 0 (by decide) (hts _ k_219) (fun _ h9 => h9) rfl hnm rfl (by decide +kernel) rfl rfl (Nat.le_of_ble_eq_true rfl) dX7_init_28 (fun H locs hP hD hS => ?_)
  have hP : va_P D vwCl [(h, .inr (7, [.ref g1, .null, .null, .ref a_1, .ref a_4, .int 0, .int 0, .long 0, .int 0])), (a_1, .inr (5, [.long 0, .long 0, .long 0, .long 0, .long 0, .long 0, .long 0, .long 0, .long 0, .long 0, .long 0])), (a_4, .inr (4, [.ref q_7, .ref q_8, .int 0, .int 0])), (q_7, .inl (cI, 2002, .inl (fun _ => 0))), (q_8, .inl (cI, 2002, .inl (fun _ => 0)))] H := hP
  have hD : va_D A [(h, .inr (7, [.ref g1, .null, .null, .ref a_1, .ref a_4, .int 0, .int 0, .long 0, .int 0])), (a_1, .inr (5, [.long 0, .long 0, .long 0, .long 0, .long 0, .long 0, .long 0, .long 0, .long 0, .long 0, .long 0])), (a_4, .inr (4, [.ref q_7, .ref q_8, .int 0, .int 0])), (q_7, .inl (cI, 2002, .inl (fun _ => 0))), (q_8, .inl (cI, 2002, .inl (fun _ => 0)))] := hD
  refine lv_aload_n hx hb dX7_init_31 rfl (lv_at hl 0 rfl) ?_
  refine lv_aload_n hx hb dX7_init_32 rfl (lv_at hl 2 rfl) ?_
  refine va_putF (ci := 7) (v := .ref g2) (ty := (.object "StrokePieces$Outline")) (C := RX7) (T := TX7) (N := 9) hx hb hts inX7 tyX7 tyX7_ok nmX7 hown hK hP hD hS 0 rfl rfl 1 (by decide) (hts _ k_220) (fun _ h9 => h9) rfl hnm rfl (by decide +kernel) rfl rfl (Nat.le_of_ble_eq_true rfl) dX7_init_33 (fun H locs hP hD hS => ?_)
  have hP : va_P D vwCl [(h, .inr (7, [.ref g1, .ref g2, .null, .ref a_1, .ref a_4, .int 0, .int 0, .long 0, .int 0])), (a_1, .inr (5, [.long 0, .long 0, .long 0, .long 0, .long 0, .long 0, .long 0, .long 0, .long 0, .long 0, .long 0])), (a_4, .inr (4, [.ref q_7, .ref q_8, .int 0, .int 0])), (q_7, .inl (cI, 2002, .inl (fun _ => 0))), (q_8, .inl (cI, 2002, .inl (fun _ => 0)))] H := hP
  have hD : va_D A [(h, .inr (7, [.ref g1, .ref g2, .null, .ref a_1, .ref a_4, .int 0, .int 0, .long 0, .int 0])), (a_1, .inr (5, [.long 0, .long 0, .long 0, .long 0, .long 0, .long 0, .long 0, .long 0, .long 0, .long 0, .long 0])), (a_4, .inr (4, [.ref q_7, .ref q_8, .int 0, .int 0])), (q_7, .inl (cI, 2002, .inl (fun _ => 0))), (q_8, .inl (cI, 2002, .inl (fun _ => 0)))] := hD
  refine lv_aload_n hx hb dX7_init_36 rfl (lv_at hl 0 rfl) ?_
  refine lv_aload_n hx hb dX7_init_37 rfl (lv_at hl 3 rfl) ?_
  refine va_putF (ci := 7) (v := .ref g3) (ty := (.object "StrokePieces$Pieces")) (C := RX7) (T := TX7) (N := 9) hx hb hts inX7 tyX7 tyX7_ok nmX7 hown hK hP hD hS 0 rfl rfl 2 (by decide) (hts _ k_221) (fun _ h9 => h9) rfl hnm rfl (by decide +kernel) rfl rfl (Nat.le_of_ble_eq_true rfl) dX7_init_38 (fun H locs hP hD hS => ?_)
  have hP : va_P D vwCl [(h, .inr (7, [.ref g1, .ref g2, .ref g3, .ref a_1, .ref a_4, .int 0, .int 0, .long 0, .int 0])), (a_1, .inr (5, [.long 0, .long 0, .long 0, .long 0, .long 0, .long 0, .long 0, .long 0, .long 0, .long 0, .long 0])), (a_4, .inr (4, [.ref q_7, .ref q_8, .int 0, .int 0])), (q_7, .inl (cI, 2002, .inl (fun _ => 0))), (q_8, .inl (cI, 2002, .inl (fun _ => 0)))] H := hP
  have hD : va_D A [(h, .inr (7, [.ref g1, .ref g2, .ref g3, .ref a_1, .ref a_4, .int 0, .int 0, .long 0, .int 0])), (a_1, .inr (5, [.long 0, .long 0, .long 0, .long 0, .long 0, .long 0, .long 0, .long 0, .long 0, .long 0, .long 0])), (a_4, .inr (4, [.ref q_7, .ref q_8, .int 0, .int 0])), (q_7, .inl (cI, 2002, .inl (fun _ => 0))), (q_8, .inl (cI, 2002, .inl (fun _ => 0)))] := hD
  have hP9 := hP.sub (ws' := [(h, .inr (7, [.ref g1, .ref g2, .ref g3, .ref a_1, .ref a_4, .int 0, .int 0, .long 0, .int 0])), (a_1, .inr (5, [.long 0, .long 0, .long 0, .long 0, .long 0, .long 0, .long 0, .long 0, .long 0, .long 0, .long 0])), (a_4, .inr (4, [.ref q_7, .ref q_8, .int 0, .int 0])), (q_7, .inl (cI, 2002, .inl (fun _ => 0))), (q_8, .inl (cI, 2002, .inl (fun _ => 0)))]) [0, 1, 2, 3, 4] rfl
  have hD9 := hD.sub (ws' := [(h, .inr (7, [.ref g1, .ref g2, .ref g3, .ref a_1, .ref a_4, .int 0, .int 0, .long 0, .int 0])), (a_1, .inr (5, [.long 0, .long 0, .long 0, .long 0, .long 0, .long 0, .long 0, .long 0, .long 0, .long 0, .long 0])), (a_4, .inr (4, [.ref q_7, .ref q_8, .int 0, .int 0])), (q_7, .inl (cI, 2002, .inl (fun _ => 0))), (q_8, .inl (cI, 2002, .inl (fun _ => 0)))]) [0, 1, 2, 3, 4] (by decide) rfl
  exact hend (a_1, a_4, q_7, q_8) _ _ _ _ dX7_init_41 hP9 hD9 hS trivial
