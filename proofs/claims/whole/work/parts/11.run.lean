set_option maxHeartbeats 600000 in
set_option maxRecDepth 100000 in
theorem c_X4_start (l : Launch) (D : va_G) (cI cZ cB cJ : ClassId) (sz : Nat) (h : Nat) (h1 : Nat) (h2 : Nat) (r : RU) (rg : Int32) (hc : sq_bo rg) : sq_Mv l yX4_start wsX4_start { frames := 0, cells := 0, slots := 0, locals := 0 } D (sq_T cI cZ cB cJ) sz [.ref h, .int rg] [(h, .inr (4, [.ref h1, .ref h2, .int r.2.2.1, .int r.2.2.2])), (h1, .inl (cI, 2002, .inl r.1)), (h2, .inl (cI, 2002, .inl r.2.1))] (fun (u1 : RU) => u1 = ruStart rg r) (fun (u1 : RU) => [(h, .inr (4, [.ref h1, .ref h2, .int u1.2.2.1, .int u1.2.2.2])), (h1, .inl (cI, 2002, .inl u1.1)), (h2, .inl (cI, 2002, .inl u1.2.1))]) 0 0 := by
  refine sq_enterv cX4_start 2 (plainFor_of_name (by decide)) rfl (Nat.le_of_ble_eq_true rfl) ?_
  intro p e s m below meth c ls args A Q hargs hx hb hml hown hts hnm hN hP hK hD hA hS hl hend
  have hl : lv_has ls 2 [(0, .ref h), (1, .int rg)] := hl
  refine lv_aload_n hx hb dX4_start_0 rfl (lv_at hl 0 rfl) ?_
  refine lv_iconst (v := 0) hx hb dX4_start_1 (by decide) ?_
  refine va_put (ci := 4) (v := .int 0) (ty := .int) (C := RX4) (T := TX4) (N := 4) hx hb hts inX4 tyX4 tyX4_ok nmX4 hown hK hP hD hS 0 rfl rfl 2 (by decide) (hts _ k_208) (fun _ h9 => h9) rfl (by decide +kernel) rfl rfl (Nat.le_of_ble_eq_true rfl) dX4_start_2 (fun H locs hP hD hS => ?_)
  have hP : va_P D vwCl [(h, .inr (4, [.ref h1, .ref h2, .int 0, .int r.2.2.2])), (h1, .inl (cI, 2002, .inl r.1)), (h2, .inl (cI, 2002, .inl r.2.1))] H := hP
  have hD : va_D A [(h, .inr (4, [.ref h1, .ref h2, .int 0, .int r.2.2.2])), (h1, .inl (cI, 2002, .inl r.1)), (h2, .inl (cI, 2002, .inl r.2.1))] := hD
  refine lv_aload_n hx hb dX4_start_5 rfl (lv_at hl 0 rfl) ?_
  refine lv_iload_n hx hb dX4_start_6 rfl (lv_at hl 1 rfl) ?_
  refine va_put (ci := 4) (v := .int rg) (ty := .boolean) (C := RX4) (T := TX4) (N := 4) hx hb hts inX4 tyX4 tyX4_ok nmX4 hown hK hP hD hS 0 rfl rfl 3 (by decide) (hts _ k_209) (fun _ h9 => h9) rfl (by decide +kernel) hc.1 hc.2 (Nat.le_of_ble_eq_true rfl) dX4_start_7 (fun H locs hP hD hS => ?_)
  have hP : va_P D vwCl [(h, .inr (4, [.ref h1, .ref h2, .int 0, .int rg])), (h1, .inl (cI, 2002, .inl r.1)), (h2, .inl (cI, 2002, .inl r.2.1))] H := hP
  have hD : va_D A [(h, .inr (4, [.ref h1, .ref h2, .int 0, .int rg])), (h1, .inl (cI, 2002, .inl r.1)), (h2, .inl (cI, 2002, .inl r.2.1))] := hD
  have hP9 := hP.sub (ws' := [(h, .inr (4, [.ref h1, .ref h2, .int 0, .int rg])), (h1, .inl (cI, 2002, .inl r.1)), (h2, .inl (cI, 2002, .inl r.2.1))]) [0, 1, 2] rfl
  have hD9 := hD.sub (ws' := [(h, .inr (4, [.ref h1, .ref h2, .int 0, .int rg])), (h1, .inl (cI, 2002, .inl r.1)), (h2, .inl (cI, 2002, .inl r.2.1))]) [0, 1, 2] (by decide) rfl
  have hP9 : va_P D vwCl [(h, .inr (4, [.ref h1, .ref h2, .int ((r.1, r.2.1, 0, rg).2.2.1), .int ((r.1, r.2.1, 0, rg).2.2.2)])), (h1, .inl (cI, 2002, .inl ((r.1, r.2.1, 0, rg).1))), (h2, .inl (cI, 2002, .inl ((r.1, r.2.1, 0, rg).2.1)))] H := hP9
  have hD9 : va_D A [(h, .inr (4, [.ref h1, .ref h2, .int ((r.1, r.2.1, 0, rg).2.2.1), .int ((r.1, r.2.1, 0, rg).2.2.2)])), (h1, .inl (cI, 2002, .inl ((r.1, r.2.1, 0, rg).1))), (h2, .inl (cI, 2002, .inl ((r.1, r.2.1, 0, rg).2.1)))] := hD9
  exact hend (r.1, r.2.1, 0, rg) _ _ _ _ dX4_start_10 hP9 hD9 hS (show (r.1, r.2.1, 0, rg) = ruStart rg r from by (first | (simp only [ruStart, ↓reduceIte, eq_self, not_true_eq_false, not_false_eq_true, and_true, true_and, and_false, false_and]; done) | (simp [ruStart]; done)))

set_option maxHeartbeats 600000 in
set_option maxRecDepth 100000 in
theorem c_X4_add (l : Launch) (D : va_G) (cI cZ cB cJ : ClassId) (sz : Nat) (h : Nat) (h1 : Nat) (h2 : Nat) (r : RU) (px : Int32) (py : Int32) : sq_Mv l yX4_add wsX4_add { frames := 0, cells := 0, slots := 0, locals := 0 } D (sq_T cI cZ cB cJ) sz [.ref h, .int px, .int py] [(h, .inr (4, [.ref h1, .ref h2, .int r.2.2.1, .int r.2.2.2])), (h1, .inl (cI, 2002, .inl r.1)), (h2, .inl (cI, 2002, .inl r.2.1))] (fun (u1 : RU) => u1 = ruAdd px py r) (fun (u1 : RU) => [(h, .inr (4, [.ref h1, .ref h2, .int u1.2.2.1, .int u1.2.2.2])), (h1, .inl (cI, 2002, .inl u1.1)), (h2, .inl (cI, 2002, .inl u1.2.1))]) 0 0 := by
  refine sq_enterv cX4_add 4 (plainFor_of_name (by decide)) rfl (Nat.le_of_ble_eq_true rfl) ?_
  intro p e s m below meth c ls args A Q hargs hx hb hml hown hts hnm hN hP hK hD hA hS hl hend
  have hl : lv_has ls 4 [(0, .ref h), (1, .int px), (2, .int py)] := hl
  refine lv_aload_n hx hb dX4_add_0 rfl (lv_at hl 0 rfl) ?_
  refine va_get (ci := 4) (v := .int r.2.2.1) (C := RX4) (T := TX4) (N := 4) hx hb hts inX4 hown hK hP 0 rfl rfl 2 (by decide) (hts _ k_208) (fun _ h9 => h9) rfl dX4_add_1 ?_
  refine lv_iconst (v := 1) hx hb dX4_add_4 (by decide) ?_
  refine lv_isub hx hb dX4_add_5 ?_
  refine lv_istore_n (lv' := [(3, .int (r.2.2.1 - 1)), (0, .ref h), (1, .int px), (2, .int py)]) hx hb dX4_add_6 rfl hl (by decide) rfl (fun ls hl => ?_)
  have J39 : (¬ (¬ r.2.2.1 - 1 < 0 ∧ ¬ 2002 ≤ r.2.2.1 - 1 ∧ r.1 (r.2.2.1 - 1).toNatClampNeg = px ∧ r.2.1 (r.2.2.1 - 1).toNatClampNeg = py)) → W p l e ({ frames := 0, cells := 0, slots := 0, locals := 0 } : Room) s m args below meth c s.heap [] 0 0 Q (F0 m 39 ls []) := by
    intro cj_1
    refine lv_aload_n hx hb dX4_add_39 rfl (lv_at hl 1 rfl) ?_
    refine va_get (ci := 4) (v := .int r.2.2.1) (C := RX4) (T := TX4) (N := 4) hx hb hts inX4 hown hK hP 0 rfl rfl 2 (by decide) (hts _ k_208) (fun _ h9 => h9) rfl dX4_add_40 ?_
    refine lv_if_lt (tgt := 56) hx hb dX4_add_43 (by decide) (fun c_2 => ?_) (fun c_2 => ?_)
    · have hP9 := hP.sub (ws' := [(h, .inr (4, [.ref h1, .ref h2, .int r.2.2.1, .int r.2.2.2])), (h1, .inl (cI, 2002, .inl r.1)), (h2, .inl (cI, 2002, .inl r.2.1))]) [0, 1, 2] rfl
      have hD9 := hD.sub (ws' := [(h, .inr (4, [.ref h1, .ref h2, .int r.2.2.1, .int r.2.2.2])), (h1, .inl (cI, 2002, .inl r.1)), (h2, .inl (cI, 2002, .inl r.2.1))]) [0, 1, 2] (by decide) rfl
      exact hend r _ _ _ _ dX4_add_56 hP9 hD9 hS (show r = ruAdd px py r from by (first | (simp only [ruAdd, cj_1, c_2, ↓reduceIte, eq_self, not_true_eq_false, not_false_eq_true, and_true, true_and, and_false, false_and]; done) | (simp [ruAdd, cj_1, c_2]; done)))
    · refine lv_aload_n hx hb dX4_add_46 rfl (lv_at hl 1 rfl) ?_
      refine va_get (ci := 4) (v := .int r.2.2.1) (C := RX4) (T := TX4) (N := 4) hx hb hts inX4 hown hK hP 0 rfl rfl 2 (by decide) (hts _ k_208) (fun _ h9 => h9) rfl dX4_add_47 ?_
      refine lv_sipush (v := 2002) hx hb dX4_add_50 (by decide) ?_
      refine lv_icmp_lt (tgt := 57) hx hb dX4_add_53 (by decide) (fun c_3 => ?_) (fun c_3 => ?_)
      · refine lv_aload_n hx hb dX4_add_57 rfl (lv_at hl 1 rfl) ?_
        refine va_get (ci := 4) (v := .ref h1) (C := RX4) (T := TX4) (N := 4) hx hb hts inX4 hown hK hP 0 rfl rfl 0 (by decide) (hts _ k_206) (fun _ h9 => h9) rfl dX4_add_58 ?_
        refine lv_aload_n hx hb dX4_add_61 rfl (lv_at hl 1 rfl) ?_
        refine va_get (ci := 4) (v := .int r.2.2.1) (C := RX4) (T := TX4) (N := 4) hx hb hts inX4 hown hK hP 0 rfl rfl 2 (by decide) (hts _ k_208) (fun _ h9 => h9) rfl dX4_add_62 ?_
        refine lv_iload_n hx hb dX4_add_65 rfl (lv_at hl 2 rfl) ?_
        refine va_iast hx hb hK hP hD hS 1 0 rfl rfl (sq_in (sq_lo1 c_2) (sq_hi2 (n := 2002) c_3 (by decide))) dX4_add_66 (fun H locs hP hD hS => ?_)
        have hP : va_P D vwCl [(h, .inr (4, [.ref h1, .ref h2, .int r.2.2.1, .int r.2.2.2])), (h1, .inl (cI, 2002, .inl (upd r.1 r.2.2.1.toNatClampNeg px))), (h2, .inl (cI, 2002, .inl r.2.1))] H := hP
        have hD : va_D A [(h, .inr (4, [.ref h1, .ref h2, .int r.2.2.1, .int r.2.2.2])), (h1, .inl (cI, 2002, .inl (upd r.1 r.2.2.1.toNatClampNeg px))), (h2, .inl (cI, 2002, .inl r.2.1))] := hD
        refine lv_aload_n hx hb dX4_add_67 rfl (lv_at hl 1 rfl) ?_
        refine va_get (ci := 4) (v := .ref h2) (C := RX4) (T := TX4) (N := 4) hx hb hts inX4 hown hK hP 0 rfl rfl 1 (by decide) (hts _ k_207) (fun _ h9 => h9) rfl dX4_add_68 ?_
        refine lv_aload_n hx hb dX4_add_71 rfl (lv_at hl 1 rfl) ?_
        refine va_get (ci := 4) (v := .int r.2.2.1) (C := RX4) (T := TX4) (N := 4) hx hb hts inX4 hown hK hP 0 rfl rfl 2 (by decide) (hts _ k_208) (fun _ h9 => h9) rfl dX4_add_72 ?_
        refine lv_iload_n hx hb dX4_add_75 rfl (lv_at hl 3 rfl) ?_
        refine va_iast hx hb hK hP hD hS 2 0 rfl rfl (sq_in (sq_lo1 c_2) (sq_hi2 (n := 2002) c_3 (by decide))) dX4_add_76 (fun H locs hP hD hS => ?_)
        have hP : va_P D vwCl [(h, .inr (4, [.ref h1, .ref h2, .int r.2.2.1, .int r.2.2.2])), (h1, .inl (cI, 2002, .inl (upd r.1 r.2.2.1.toNatClampNeg px))), (h2, .inl (cI, 2002, .inl (upd r.2.1 r.2.2.1.toNatClampNeg py)))] H := hP
        have hD : va_D A [(h, .inr (4, [.ref h1, .ref h2, .int r.2.2.1, .int r.2.2.2])), (h1, .inl (cI, 2002, .inl (upd r.1 r.2.2.1.toNatClampNeg px))), (h2, .inl (cI, 2002, .inl (upd r.2.1 r.2.2.1.toNatClampNeg py)))] := hD
        refine lv_aload_n hx hb dX4_add_77 rfl (lv_at hl 1 rfl) ?_
        refine lv_dup hx hb dX4_add_78 rfl ?_
        refine va_get (ci := 4) (v := .int r.2.2.1) (C := RX4) (T := TX4) (N := 4) hx hb hts inX4 hown hK hP 0 rfl rfl 2 (by decide) (hts _ k_208) (fun _ h9 => h9) rfl dX4_add_79 ?_
        refine lv_iconst (v := 1) hx hb dX4_add_82 (by decide) ?_
        refine lv_iadd hx hb dX4_add_83 ?_
        refine va_put (ci := 4) (v := .int (r.2.2.1 + 1)) (ty := .int) (C := RX4) (T := TX4) (N := 4) hx hb hts inX4 tyX4 tyX4_ok nmX4 hown hK hP hD hS 0 rfl rfl 2 (by decide) (hts _ k_208) (fun _ h9 => h9) rfl (by decide +kernel) rfl rfl (Nat.le_of_ble_eq_true rfl) dX4_add_84 (fun H locs hP hD hS => ?_)
        have hP : va_P D vwCl [(h, .inr (4, [.ref h1, .ref h2, .int (r.2.2.1 + 1), .int r.2.2.2])), (h1, .inl (cI, 2002, .inl (upd r.1 r.2.2.1.toNatClampNeg px))), (h2, .inl (cI, 2002, .inl (upd r.2.1 r.2.2.1.toNatClampNeg py)))] H := hP
        have hD : va_D A [(h, .inr (4, [.ref h1, .ref h2, .int (r.2.2.1 + 1), .int r.2.2.2])), (h1, .inl (cI, 2002, .inl (upd r.1 r.2.2.1.toNatClampNeg px))), (h2, .inl (cI, 2002, .inl (upd r.2.1 r.2.2.1.toNatClampNeg py)))] := hD
        have hP9 := hP.sub (ws' := [(h, .inr (4, [.ref h1, .ref h2, .int (r.2.2.1 + 1), .int r.2.2.2])), (h1, .inl (cI, 2002, .inl (upd r.1 r.2.2.1.toNatClampNeg px))), (h2, .inl (cI, 2002, .inl (upd r.2.1 r.2.2.1.toNatClampNeg py)))]) [0, 1, 2] rfl
        have hD9 := hD.sub (ws' := [(h, .inr (4, [.ref h1, .ref h2, .int (r.2.2.1 + 1), .int r.2.2.2])), (h1, .inl (cI, 2002, .inl (upd r.1 r.2.2.1.toNatClampNeg px))), (h2, .inl (cI, 2002, .inl (upd r.2.1 r.2.2.1.toNatClampNeg py)))]) [0, 1, 2] (by decide) rfl
        have hP9 : va_P D vwCl [(h, .inr (4, [.ref h1, .ref h2, .int ((upd r.1 r.2.2.1.toNatClampNeg px, upd r.2.1 r.2.2.1.toNatClampNeg py, r.2.2.1 + 1, r.2.2.2).2.2.1), .int ((upd r.1 r.2.2.1.toNatClampNeg px, upd r.2.1 r.2.2.1.toNatClampNeg py, r.2.2.1 + 1, r.2.2.2).2.2.2)])), (h1, .inl (cI, 2002, .inl ((upd r.1 r.2.2.1.toNatClampNeg px, upd r.2.1 r.2.2.1.toNatClampNeg py, r.2.2.1 + 1, r.2.2.2).1))), (h2, .inl (cI, 2002, .inl ((upd r.1 r.2.2.1.toNatClampNeg px, upd r.2.1 r.2.2.1.toNatClampNeg py, r.2.2.1 + 1, r.2.2.2).2.1)))] H := hP9
        have hD9 : va_D A [(h, .inr (4, [.ref h1, .ref h2, .int ((upd r.1 r.2.2.1.toNatClampNeg px, upd r.2.1 r.2.2.1.toNatClampNeg py, r.2.2.1 + 1, r.2.2.2).2.2.1), .int ((upd r.1 r.2.2.1.toNatClampNeg px, upd r.2.1 r.2.2.1.toNatClampNeg py, r.2.2.1 + 1, r.2.2.2).2.2.2)])), (h1, .inl (cI, 2002, .inl ((upd r.1 r.2.2.1.toNatClampNeg px, upd r.2.1 r.2.2.1.toNatClampNeg py, r.2.2.1 + 1, r.2.2.2).1))), (h2, .inl (cI, 2002, .inl ((upd r.1 r.2.2.1.toNatClampNeg px, upd r.2.1 r.2.2.1.toNatClampNeg py, r.2.2.1 + 1, r.2.2.2).2.1)))] := hD9
        exact hend (upd r.1 r.2.2.1.toNatClampNeg px, upd r.2.1 r.2.2.1.toNatClampNeg py, r.2.2.1 + 1, r.2.2.2) _ _ _ _ dX4_add_87 hP9 hD9 hS (show (upd r.1 r.2.2.1.toNatClampNeg px, upd r.2.1 r.2.2.1.toNatClampNeg py, r.2.2.1 + 1, r.2.2.2) = ruAdd px py r from by (first | (simp only [ruAdd, cj_1, c_2, c_3, ↓reduceIte, eq_self, not_true_eq_false, not_false_eq_true, and_true, true_and, and_false, false_and]; done) | (simp [ruAdd, cj_1, c_2, c_3]; done)))
      · have hP9 := hP.sub (ws' := [(h, .inr (4, [.ref h1, .ref h2, .int r.2.2.1, .int r.2.2.2])), (h1, .inl (cI, 2002, .inl r.1)), (h2, .inl (cI, 2002, .inl r.2.1))]) [0, 1, 2] rfl
        have hD9 := hD.sub (ws' := [(h, .inr (4, [.ref h1, .ref h2, .int r.2.2.1, .int r.2.2.2])), (h1, .inl (cI, 2002, .inl r.1)), (h2, .inl (cI, 2002, .inl r.2.1))]) [0, 1, 2] (by decide) rfl
        exact hend r _ _ _ _ dX4_add_56 hP9 hD9 hS (show r = ruAdd px py r from by (first | (simp only [ruAdd, cj_1, c_2, c_3, ↓reduceIte, eq_self, not_true_eq_false, not_false_eq_true, and_true, true_and, and_false, false_and]; done) | (simp [ruAdd, cj_1, c_2, c_3]; done)))
  refine lv_iload_n hx hb dX4_add_7 rfl (lv_at hl 0 rfl) ?_
  refine lv_if_lt (tgt := 39) hx hb dX4_add_8 (by decide) (fun c_4 => ?_) (fun c_4 => ?_)
  · exact J39 (by (first | (simp only [ruAdd, c_4, ↓reduceIte, eq_self, not_true_eq_false, not_false_eq_true, and_true, true_and, and_false, false_and]; done) | (simp [ruAdd, c_4]; done)))
  · refine lv_iload_n hx hb dX4_add_11 rfl (lv_at hl 0 rfl) ?_
    refine lv_sipush (v := 2002) hx hb dX4_add_12 (by decide) ?_
    refine lv_icmp_ge (tgt := 39) hx hb dX4_add_15 (by decide) (fun c_5 => ?_) (fun c_5 => ?_)
    · exact J39 (by (first | (simp only [ruAdd, c_4, c_5, ↓reduceIte, eq_self, not_true_eq_false, not_false_eq_true, and_true, true_and, and_false, false_and]; done) | (simp [ruAdd, c_4, c_5]; done)))
    · refine lv_aload_n hx hb dX4_add_18 rfl (lv_at hl 1 rfl) ?_
      refine va_get (ci := 4) (v := .ref h1) (C := RX4) (T := TX4) (N := 4) hx hb hts inX4 hown hK hP 0 rfl rfl 0 (by decide) (hts _ k_206) (fun _ h9 => h9) rfl dX4_add_19 ?_
      refine lv_iload_n hx hb dX4_add_22 rfl (lv_at hl 0 rfl) ?_
      refine va_iald hx hb hK hP 1 0 rfl rfl (sq_in (sq_lo1 c_4) (sq_hi1 (n := 2002) c_5 (by decide))) dX4_add_23 ?_
      refine lv_iload_n hx hb dX4_add_24 rfl (lv_at hl 2 rfl) ?_
      refine lv_icmp_ne (tgt := 39) hx hb dX4_add_25 (by decide) (fun c_6 => ?_) (fun c_6 => ?_)
      · exact J39 (by (first | (simp only [ruAdd, c_4, c_5, c_6, ↓reduceIte, eq_self, not_true_eq_false, not_false_eq_true, and_true, true_and, and_false, false_and]; done) | (simp [ruAdd, c_4, c_5, c_6]; done)))
      · refine lv_aload_n hx hb dX4_add_28 rfl (lv_at hl 1 rfl) ?_
        refine va_get (ci := 4) (v := .ref h2) (C := RX4) (T := TX4) (N := 4) hx hb hts inX4 hown hK hP 0 rfl rfl 1 (by decide) (hts _ k_207) (fun _ h9 => h9) rfl dX4_add_29 ?_
        refine lv_iload_n hx hb dX4_add_32 rfl (lv_at hl 0 rfl) ?_
        refine va_iald hx hb hK hP 2 0 rfl rfl (sq_in (sq_lo1 c_4) (sq_hi1 (n := 2002) c_5 (by decide))) dX4_add_33 ?_
        refine lv_iload_n hx hb dX4_add_34 rfl (lv_at hl 3 rfl) ?_
        refine lv_icmp_ne (tgt := 39) hx hb dX4_add_35 (by decide) (fun c_7 => ?_) (fun c_7 => ?_)
        · exact J39 (by (first | (simp only [ruAdd, c_4, c_5, c_6, c_7, ↓reduceIte, eq_self, not_true_eq_false, not_false_eq_true, and_true, true_and, and_false, false_and]; done) | (simp [ruAdd, c_4, c_5, c_6, c_7]; done)))
        · have hP9 := hP.sub (ws' := [(h, .inr (4, [.ref h1, .ref h2, .int r.2.2.1, .int r.2.2.2])), (h1, .inl (cI, 2002, .inl r.1)), (h2, .inl (cI, 2002, .inl r.2.1))]) [0, 1, 2] rfl
          have hD9 := hD.sub (ws' := [(h, .inr (4, [.ref h1, .ref h2, .int r.2.2.1, .int r.2.2.2])), (h1, .inl (cI, 2002, .inl r.1)), (h2, .inl (cI, 2002, .inl r.2.1))]) [0, 1, 2] (by decide) rfl
          exact hend r _ _ _ _ dX4_add_38 hP9 hD9 hS (show r = ruAdd px py r from by (first | (simp only [ruAdd, c_4, c_5, c_6, c_7, ↓reduceIte, eq_self, not_true_eq_false, not_false_eq_true, and_true, true_and, and_false, false_and]; done) | (simp [ruAdd, c_4, c_5, c_6, c_7]; done)))

set_option maxHeartbeats 600000 in
set_option maxRecDepth 100000 in
theorem c_X4_dropLastLikeFirst (l : Launch) (D : va_G) (cI cZ cB cJ : ClassId) (sz : Nat) (h : Nat) (h1 : Nat) (h2 : Nat) (r : RU) : sq_Mv l yX4_dropLastLikeFirst wsX4_dropLastLikeFirst { frames := 0, cells := 0, slots := 0, locals := 0 } D (sq_T cI cZ cB cJ) sz [.ref h] [(h, .inr (4, [.ref h1, .ref h2, .int r.2.2.1, .int r.2.2.2])), (h1, .inl (cI, 2002, .inl r.1)), (h2, .inl (cI, 2002, .inl r.2.1))] (fun (u1 : RU) => u1 = ruDrop 2003 r) (fun (u1 : RU) => [(h, .inr (4, [.ref h1, .ref h2, .int u1.2.2.1, .int u1.2.2.2])), (h1, .inl (cI, 2002, .inl u1.1)), (h2, .inl (cI, 2002, .inl u1.2.1))]) 0 0 := by
  refine sq_enterv cX4_dropLastLikeFirst 2 (plainFor_of_name (by decide)) rfl (Nat.le_of_ble_eq_true rfl) ?_
  intro p e s m below meth c ls args A Q hargs hx hb hml hown hts hnm hN hP hK hD hA hS hl hend
  have hl : lv_has ls 2 [(0, .ref h)] := hl
  refine lv_aload_n hx hb dX4_dropLastLikeFirst_0 rfl (lv_at hl 0 rfl) ?_
  refine va_get (ci := 4) (v := .int r.2.2.1) (C := RX4) (T := TX4) (N := 4) hx hb hts inX4 hown hK hP 0 rfl rfl 2 (by decide) (hts _ k_208) (fun _ h9 => h9) rfl dX4_dropLastLikeFirst_1 ?_
  refine lv_iconst (v := 1) hx hb dX4_dropLastLikeFirst_4 (by decide) ?_
  refine lv_isub hx hb dX4_dropLastLikeFirst_5 ?_
  refine lv_istore_n (lv' := [(1, .int (r.2.2.1 - 1)), (0, .ref h)]) hx hb dX4_dropLastLikeFirst_6 rfl hl (by decide) rfl (fun ls hl => ?_)
  have L7 : ∀ (n : Nat) (r2 : RU) (last : Int32) (h_last : last = r2.2.2.1 - 1) (hq : ruDrop n r2 = ruDrop 2003 r) (hn : 0 < n ∧ (r2.2.2.1.toInt ≤ 2002 → r2.2.2.1.toInt < n)) (H : Heap) (locs : List Loc), va_P D vwCl [(h, .inr (4, [.ref h1, .ref h2, .int r2.2.2.1, .int r2.2.2.2])), (h1, .inl (cI, 2002, .inl r2.1)), (h2, .inl (cI, 2002, .inl r2.2.1))] H → va_D A [(h, .inr (4, [.ref h1, .ref h2, .int r2.2.2.1, .int r2.2.2.2])), (h1, .inl (cI, 2002, .inl r2.1)), (h2, .inl (cI, 2002, .inl r2.2.1))] → va_S A s.heap H locs → ∀ ls : Array Slot, lv_has ls 2 [(0, .ref h), (1, .int last)] → W p l e ({ frames := 0, cells := 0, slots := 0, locals := 0 } : Room) s m args below meth c H locs 0 0 Q (F0 m 7 ls []) := by
    intro n
    induction n with
    | zero =>
      intro r2 last h_last hq hn
      exact (by omega : False).elim
    | succ n ih =>
      intro r2 last h_last hq hn H locs hP hD hS ls hl
      subst h_last
      refine lv_aload_n hx hb dX4_dropLastLikeFirst_7 rfl (lv_at hl 0 rfl) ?_
      refine va_get (ci := 4) (v := .int r2.2.2.2) (C := RX4) (T := TX4) (N := 4) hx hb hts inX4 hown hK hP 0 rfl rfl 3 (by decide) (hts _ k_209) (fun _ h9 => h9) rfl dX4_dropLastLikeFirst_8 ?_
      refine lv_if_eq (tgt := 66) hx hb dX4_dropLastLikeFirst_11 (by decide) (fun c_1 => ?_) (fun c_1 => ?_)
      · have hP9 := hP.sub (ws' := [(h, .inr (4, [.ref h1, .ref h2, .int r2.2.2.1, .int r2.2.2.2])), (h1, .inl (cI, 2002, .inl r2.1)), (h2, .inl (cI, 2002, .inl r2.2.1))]) [0, 1, 2] rfl
        have hD9 := hD.sub (ws' := [(h, .inr (4, [.ref h1, .ref h2, .int r2.2.2.1, .int r2.2.2.2])), (h1, .inl (cI, 2002, .inl r2.1)), (h2, .inl (cI, 2002, .inl r2.2.1))]) [0, 1, 2] (by decide) rfl
        exact hend r2 _ _ _ _ dX4_dropLastLikeFirst_66 hP9 hD9 hS (show r2 = ruDrop 2003 r from by rw [← hq]; (first | (simp only [ruDrop, c_1, ↓reduceIte, eq_self, not_true_eq_false, not_false_eq_true, and_true, true_and, and_false, false_and]; done) | (simp [ruDrop, c_1]; done)))
      · refine lv_iload_n hx hb dX4_dropLastLikeFirst_14 rfl (lv_at hl 1 rfl) ?_
        refine lv_if_le (tgt := 66) hx hb dX4_dropLastLikeFirst_15 (by decide) (fun c_2 => ?_) (fun c_2 => ?_)
        · have hP9 := hP.sub (ws' := [(h, .inr (4, [.ref h1, .ref h2, .int r2.2.2.1, .int r2.2.2.2])), (h1, .inl (cI, 2002, .inl r2.1)), (h2, .inl (cI, 2002, .inl r2.2.1))]) [0, 1, 2] rfl
          have hD9 := hD.sub (ws' := [(h, .inr (4, [.ref h1, .ref h2, .int r2.2.2.1, .int r2.2.2.2])), (h1, .inl (cI, 2002, .inl r2.1)), (h2, .inl (cI, 2002, .inl r2.2.1))]) [0, 1, 2] (by decide) rfl
          exact hend r2 _ _ _ _ dX4_dropLastLikeFirst_66 hP9 hD9 hS (show r2 = ruDrop 2003 r from by rw [← hq]; (first | (simp only [ruDrop, c_1, c_2, ↓reduceIte, eq_self, not_true_eq_false, not_false_eq_true, and_true, true_and, and_false, false_and]; done) | (simp [ruDrop, c_1, c_2]; done)))
        · refine lv_iload_n hx hb dX4_dropLastLikeFirst_18 rfl (lv_at hl 1 rfl) ?_
          refine lv_sipush (v := 2002) hx hb dX4_dropLastLikeFirst_19 (by decide) ?_
          refine lv_icmp_ge (tgt := 66) hx hb dX4_dropLastLikeFirst_22 (by decide) (fun c_3 => ?_) (fun c_3 => ?_)
          · have hP9 := hP.sub (ws' := [(h, .inr (4, [.ref h1, .ref h2, .int r2.2.2.1, .int r2.2.2.2])), (h1, .inl (cI, 2002, .inl r2.1)), (h2, .inl (cI, 2002, .inl r2.2.1))]) [0, 1, 2] rfl
            have hD9 := hD.sub (ws' := [(h, .inr (4, [.ref h1, .ref h2, .int r2.2.2.1, .int r2.2.2.2])), (h1, .inl (cI, 2002, .inl r2.1)), (h2, .inl (cI, 2002, .inl r2.2.1))]) [0, 1, 2] (by decide) rfl
            exact hend r2 _ _ _ _ dX4_dropLastLikeFirst_66 hP9 hD9 hS (show r2 = ruDrop 2003 r from by rw [← hq]; (first | (simp only [ruDrop, c_1, c_2, c_3, ↓reduceIte, eq_self, not_true_eq_false, not_false_eq_true, and_true, true_and, and_false, false_and]; done) | (simp [ruDrop, c_1, c_2, c_3]; done)))
          · refine lv_aload_n hx hb dX4_dropLastLikeFirst_25 rfl (lv_at hl 0 rfl) ?_
            refine va_get (ci := 4) (v := .ref h1) (C := RX4) (T := TX4) (N := 4) hx hb hts inX4 hown hK hP 0 rfl rfl 0 (by decide) (hts _ k_206) (fun _ h9 => h9) rfl dX4_dropLastLikeFirst_26 ?_
            refine lv_iload_n hx hb dX4_dropLastLikeFirst_29 rfl (lv_at hl 1 rfl) ?_
            refine va_iald hx hb hK hP 1 0 rfl rfl (sq_in (sq_lo4 c_2) (sq_hi1 (n := 2002) c_3 (by decide))) dX4_dropLastLikeFirst_30 ?_
            refine lv_aload_n hx hb dX4_dropLastLikeFirst_31 rfl (lv_at hl 0 rfl) ?_
            refine va_get (ci := 4) (v := .ref h1) (C := RX4) (T := TX4) (N := 4) hx hb hts inX4 hown hK hP 0 rfl rfl 0 (by decide) (hts _ k_206) (fun _ h9 => h9) rfl dX4_dropLastLikeFirst_32 ?_
            refine lv_iconst (v := 0) hx hb dX4_dropLastLikeFirst_35 (by decide) ?_
            refine va_iald hx hb hK hP 1 0 rfl rfl (sq_in (by decide) (by decide)) dX4_dropLastLikeFirst_36 ?_
            refine lv_icmp_ne (tgt := 66) hx hb dX4_dropLastLikeFirst_37 (by decide) (fun c_4 => ?_) (fun c_4 => ?_)
            · have hP9 := hP.sub (ws' := [(h, .inr (4, [.ref h1, .ref h2, .int r2.2.2.1, .int r2.2.2.2])), (h1, .inl (cI, 2002, .inl r2.1)), (h2, .inl (cI, 2002, .inl r2.2.1))]) [0, 1, 2] rfl
              have hD9 := hD.sub (ws' := [(h, .inr (4, [.ref h1, .ref h2, .int r2.2.2.1, .int r2.2.2.2])), (h1, .inl (cI, 2002, .inl r2.1)), (h2, .inl (cI, 2002, .inl r2.2.1))]) [0, 1, 2] (by decide) rfl
              exact hend r2 _ _ _ _ dX4_dropLastLikeFirst_66 hP9 hD9 hS (show r2 = ruDrop 2003 r from by rw [← hq]; (first | (simp only [ruDrop, c_1, c_2, c_3, c_4, ↓reduceIte, eq_self, not_true_eq_false, not_false_eq_true, and_true, true_and, and_false, false_and]; done) | (simp [ruDrop, c_1, c_2, c_3, c_4]; done)))
            · refine lv_aload_n hx hb dX4_dropLastLikeFirst_40 rfl (lv_at hl 0 rfl) ?_
              refine va_get (ci := 4) (v := .ref h2) (C := RX4) (T := TX4) (N := 4) hx hb hts inX4 hown hK hP 0 rfl rfl 1 (by decide) (hts _ k_207) (fun _ h9 => h9) rfl dX4_dropLastLikeFirst_41 ?_
              refine lv_iload_n hx hb dX4_dropLastLikeFirst_44 rfl (lv_at hl 1 rfl) ?_
              refine va_iald hx hb hK hP 2 0 rfl rfl (sq_in (sq_lo4 c_2) (sq_hi1 (n := 2002) c_3 (by decide))) dX4_dropLastLikeFirst_45 ?_
              refine lv_aload_n hx hb dX4_dropLastLikeFirst_46 rfl (lv_at hl 0 rfl) ?_
              refine va_get (ci := 4) (v := .ref h2) (C := RX4) (T := TX4) (N := 4) hx hb hts inX4 hown hK hP 0 rfl rfl 1 (by decide) (hts _ k_207) (fun _ h9 => h9) rfl dX4_dropLastLikeFirst_47 ?_
              refine lv_iconst (v := 0) hx hb dX4_dropLastLikeFirst_50 (by decide) ?_
              refine va_iald hx hb hK hP 2 0 rfl rfl (sq_in (by decide) (by decide)) dX4_dropLastLikeFirst_51 ?_
              refine lv_icmp_ne (tgt := 66) hx hb dX4_dropLastLikeFirst_52 (by decide) (fun c_5 => ?_) (fun c_5 => ?_)
              · have hP9 := hP.sub (ws' := [(h, .inr (4, [.ref h1, .ref h2, .int r2.2.2.1, .int r2.2.2.2])), (h1, .inl (cI, 2002, .inl r2.1)), (h2, .inl (cI, 2002, .inl r2.2.1))]) [0, 1, 2] rfl
                have hD9 := hD.sub (ws' := [(h, .inr (4, [.ref h1, .ref h2, .int r2.2.2.1, .int r2.2.2.2])), (h1, .inl (cI, 2002, .inl r2.1)), (h2, .inl (cI, 2002, .inl r2.2.1))]) [0, 1, 2] (by decide) rfl
                exact hend r2 _ _ _ _ dX4_dropLastLikeFirst_66 hP9 hD9 hS (show r2 = ruDrop 2003 r from by rw [← hq]; (first | (simp only [ruDrop, c_1, c_2, c_3, c_4, c_5, ↓reduceIte, eq_self, not_true_eq_false, not_false_eq_true, and_true, true_and, and_false, false_and]; done) | (simp [ruDrop, c_1, c_2, c_3, c_4, c_5]; done)))
              · refine lv_aload_n hx hb dX4_dropLastLikeFirst_55 rfl (lv_at hl 0 rfl) ?_
                refine lv_iload_n hx hb dX4_dropLastLikeFirst_56 rfl (lv_at hl 1 rfl) ?_
                refine va_put (ci := 4) (v := .int (r2.2.2.1 - 1)) (ty := .int) (C := RX4) (T := TX4) (N := 4) hx hb hts inX4 tyX4 tyX4_ok nmX4 hown hK hP hD hS 0 rfl rfl 2 (by decide) (hts _ k_208) (fun _ h9 => h9) rfl (by decide +kernel) rfl rfl (Nat.le_of_ble_eq_true rfl) dX4_dropLastLikeFirst_57 (fun H locs hP hD hS => ?_)
                have hP : va_P D vwCl [(h, .inr (4, [.ref h1, .ref h2, .int (r2.2.2.1 - 1), .int r2.2.2.2])), (h1, .inl (cI, 2002, .inl r2.1)), (h2, .inl (cI, 2002, .inl r2.2.1))] H := hP
                have hD : va_D A [(h, .inr (4, [.ref h1, .ref h2, .int (r2.2.2.1 - 1), .int r2.2.2.2])), (h1, .inl (cI, 2002, .inl r2.1)), (h2, .inl (cI, 2002, .inl r2.2.1))] := hD
                refine lv_iinc (v := (r2.2.2.1 - 1) + (-1)) (lv' := [(1, .int ((r2.2.2.1 - 1) + (-1))), (0, .ref h)]) hx hb dX4_dropLastLikeFirst_60 hl (k := 1) rfl rfl (by decide) rfl (fun ls hl => ?_)
                refine lv_goto (tgt := 7) hx hb dX4_dropLastLikeFirst_63 (by decide) ?_
                exact ih (r2.1, r2.2.1, r2.2.2.1 - 1, r2.2.2.2) ((r2.2.2.1 - 1) + (-1)) (sq_m1 _) (by rw [← hq]; (first | (simp only [ruDrop, hq, hn, c_1, c_2, c_3, c_4, c_5, ↓reduceIte, eq_self, not_true_eq_false, not_false_eq_true, and_true, true_and, and_false, false_and]; done) | (simp [ruDrop, hq, hn, c_1, c_2, c_3, c_4, c_5]; done))) (sq_drop hn (by assumption) (by assumption)) _ _ (hP.sub [0, 1, 2] rfl) (hD.sub [0, 1, 2] (by decide) rfl) hS ls (lv_sub hl [1, 0] rfl)
  exact L7 (2003) r (r.2.2.1 - 1) (rfl) (rfl) (⟨by decide, fun h9 => by omega⟩) _ _ (hP.sub [0, 1, 2] rfl) (hD.sub [0, 1, 2] (by decide) rfl) hS ls (lv_sub hl [1, 0] rfl)

set_option maxHeartbeats 600000 in
set_option maxRecDepth 100000 in
theorem c_X4_isRing (l : Launch) (D : va_G) (cI cZ cB cJ : ClassId) (sz : Nat) (h : Nat) (h1 : Nat) (h2 : Nat) (r : RU) (hbo : sq_bo r.2.2.2) : sq_Mi l yX4_isRing wsX4_isRing { frames := 0, cells := 0, slots := 0, locals := 0 } D (sq_T cI cZ cB cJ) sz [.ref h] [(h, .inr (4, [.ref h1, .ref h2, .int r.2.2.1, .int r.2.2.2])), (h1, .inl (cI, 2002, .inl r.1)), (h2, .inl (cI, 2002, .inl r.2.1))] (fun (v9 : Int32) => (fun (_ : Unit) => v9 = r.2.2.2)) (fun (_ : Unit) => [(h, .inr (4, [.ref h1, .ref h2, .int r.2.2.1, .int r.2.2.2])), (h1, .inl (cI, 2002, .inl r.1)), (h2, .inl (cI, 2002, .inl r.2.1))]) 0 0 := by
  refine sq_enterz cX4_isRing 1 (plainFor_of_name (by decide)) rfl (Nat.le_of_ble_eq_true rfl) ?_
  intro p e s m below meth c ls args A Q hargs hx hb hml hown hts hnm hN hP hK hD hA hS hl hend
  have hl : lv_has ls 1 [(0, .ref h)] := hl
  refine lv_aload_n hx hb dX4_isRing_0 rfl (lv_at hl 0 rfl) ?_
  refine va_get (ci := 4) (v := .int r.2.2.2) (C := RX4) (T := TX4) (N := 4) hx hb hts inX4 hown hK hP 0 rfl rfl 3 (by decide) (hts _ k_209) (fun _ h9 => h9) rfl dX4_isRing_1 ?_
  have hP9 := hP.sub (ws' := [(h, .inr (4, [.ref h1, .ref h2, .int r.2.2.1, .int r.2.2.2])), (h1, .inl (cI, 2002, .inl r.1)), (h2, .inl (cI, 2002, .inl r.2.1))]) [0, 1, 2] rfl
  have hD9 := hD.sub (ws' := [(h, .inr (4, [.ref h1, .ref h2, .int r.2.2.1, .int r.2.2.2])), (h1, .inl (cI, 2002, .inl r.1)), (h2, .inl (cI, 2002, .inl r.2.1))]) [0, 1, 2] (by decide) rfl
  exact hend () r.2.2.2 _ _ _ _ dX4_isRing_4 hP9 hD9 hS (show r.2.2.2 = r.2.2.2 from rfl) hbo.1

set_option maxHeartbeats 600000 in
set_option maxRecDepth 100000 in
theorem c_X4_segments (l : Launch) (D : va_G) (cI cZ cB cJ : ClassId) (sz : Nat) (h : Nat) (h1 : Nat) (h2 : Nat) (r : RU) : sq_Mi l yX4_segments wsX4_segments { frames := 0, cells := 0, slots := 0, locals := 0 } D (sq_T cI cZ cB cJ) sz [.ref h] [(h, .inr (4, [.ref h1, .ref h2, .int r.2.2.1, .int r.2.2.2])), (h1, .inl (cI, 2002, .inl r.1)), (h2, .inl (cI, 2002, .inl r.2.1))] (fun (v9 : Int32) => (fun (_ : Unit) => v9 = ruSegs r)) (fun (_ : Unit) => [(h, .inr (4, [.ref h1, .ref h2, .int r.2.2.1, .int r.2.2.2])), (h1, .inl (cI, 2002, .inl r.1)), (h2, .inl (cI, 2002, .inl r.2.1))]) 0 0 := by
  refine sq_enteri cX4_segments 1 (plainFor_of_name (by decide)) rfl (Nat.le_of_ble_eq_true rfl) ?_
  intro p e s m below meth c ls args A Q hargs hx hb hml hown hts hnm hN hP hK hD hA hS hl hend
  have hl : lv_has ls 1 [(0, .ref h)] := hl
  refine lv_aload_n hx hb dX4_segments_0 rfl (lv_at hl 0 rfl) ?_
  refine va_get (ci := 4) (v := .int r.2.2.1) (C := RX4) (T := TX4) (N := 4) hx hb hts inX4 hown hK hP 0 rfl rfl 2 (by decide) (hts _ k_208) (fun _ h9 => h9) rfl dX4_segments_1 ?_
  refine lv_iconst (v := 2) hx hb dX4_segments_4 (by decide) ?_
  refine lv_icmp_ge (tgt := 10) hx hb dX4_segments_5 (by decide) (fun c_1 => ?_) (fun c_1 => ?_)
  · refine lv_aload_n hx hb dX4_segments_10 rfl (lv_at hl 0 rfl) ?_
    refine va_get (ci := 4) (v := .int r.2.2.2) (C := RX4) (T := TX4) (N := 4) hx hb hts inX4 hown hK hP 0 rfl rfl 3 (by decide) (hts _ k_209) (fun _ h9 => h9) rfl dX4_segments_11 ?_
    refine lv_if_eq (tgt := 24) hx hb dX4_segments_14 (by decide) (fun c_2 => ?_) (fun c_2 => ?_)
    · refine lv_aload_n hx hb dX4_segments_24 rfl (lv_at hl 0 rfl) ?_
      refine va_get (ci := 4) (v := .int r.2.2.1) (C := RX4) (T := TX4) (N := 4) hx hb hts inX4 hown hK hP 0 rfl rfl 2 (by decide) (hts _ k_208) (fun _ h9 => h9) rfl dX4_segments_25 ?_
      refine lv_iconst (v := 1) hx hb dX4_segments_28 (by decide) ?_
      refine lv_isub hx hb dX4_segments_29 ?_
      have hP9 := hP.sub (ws' := [(h, .inr (4, [.ref h1, .ref h2, .int r.2.2.1, .int r.2.2.2])), (h1, .inl (cI, 2002, .inl r.1)), (h2, .inl (cI, 2002, .inl r.2.1))]) [0, 1, 2] rfl
      have hD9 := hD.sub (ws' := [(h, .inr (4, [.ref h1, .ref h2, .int r.2.2.1, .int r.2.2.2])), (h1, .inl (cI, 2002, .inl r.1)), (h2, .inl (cI, 2002, .inl r.2.1))]) [0, 1, 2] (by decide) rfl
      exact hend () (r.2.2.1 - 1) _ _ _ _ dX4_segments_30 hP9 hD9 hS (show (r.2.2.1 - 1) = (ruSegs r) from by (first | (simp only [ruSegs, c_1, c_2, ↓reduceIte, eq_self, not_true_eq_false, not_false_eq_true, and_true, true_and, and_false, false_and]; done) | (simp [ruSegs, c_1, c_2]; done)))
    · refine lv_aload_n hx hb dX4_segments_17 rfl (lv_at hl 0 rfl) ?_
      refine va_get (ci := 4) (v := .int r.2.2.1) (C := RX4) (T := TX4) (N := 4) hx hb hts inX4 hown hK hP 0 rfl rfl 2 (by decide) (hts _ k_208) (fun _ h9 => h9) rfl dX4_segments_18 ?_
      refine lv_goto (tgt := 30) hx hb dX4_segments_21 (by decide) ?_
      have hP9 := hP.sub (ws' := [(h, .inr (4, [.ref h1, .ref h2, .int r.2.2.1, .int r.2.2.2])), (h1, .inl (cI, 2002, .inl r.1)), (h2, .inl (cI, 2002, .inl r.2.1))]) [0, 1, 2] rfl
      have hD9 := hD.sub (ws' := [(h, .inr (4, [.ref h1, .ref h2, .int r.2.2.1, .int r.2.2.2])), (h1, .inl (cI, 2002, .inl r.1)), (h2, .inl (cI, 2002, .inl r.2.1))]) [0, 1, 2] (by decide) rfl
      exact hend () r.2.2.1 _ _ _ _ dX4_segments_30 hP9 hD9 hS (show r.2.2.1 = (ruSegs r) from by (first | (simp only [ruSegs, c_1, c_2, ↓reduceIte, eq_self, not_true_eq_false, not_false_eq_true, and_true, true_and, and_false, false_and]; done) | (simp [ruSegs, c_1, c_2]; done)))
  · refine lv_iconst (v := 0) hx hb dX4_segments_8 (by decide) ?_
    have hP9 := hP.sub (ws' := [(h, .inr (4, [.ref h1, .ref h2, .int r.2.2.1, .int r.2.2.2])), (h1, .inl (cI, 2002, .inl r.1)), (h2, .inl (cI, 2002, .inl r.2.1))]) [0, 1, 2] rfl
    have hD9 := hD.sub (ws' := [(h, .inr (4, [.ref h1, .ref h2, .int r.2.2.1, .int r.2.2.2])), (h1, .inl (cI, 2002, .inl r.1)), (h2, .inl (cI, 2002, .inl r.2.1))]) [0, 1, 2] (by decide) rfl
    exact hend () 0 _ _ _ _ dX4_segments_9 hP9 hD9 hS (show 0 = (ruSegs r) from by (first | (simp only [ruSegs, c_1, ↓reduceIte, eq_self, not_true_eq_false, not_false_eq_true, and_true, true_and, and_false, false_and]; done) | (simp [ruSegs, c_1]; done)))

set_option maxHeartbeats 600000 in
set_option maxRecDepth 100000 in
theorem c_X4_inside (l : Launch) (D : va_G) (cI cZ cB cJ : ClassId) (sz : Nat) (h : Nat) (h1 : Nat) (h2 : Nat) (r : RU) (i : Int32) : sq_Mi l yX4_inside wsX4_inside { frames := 0, cells := 0, slots := 0, locals := 0 } D (sq_T cI cZ cB cJ) sz [.ref h, .int i] [(h, .inr (4, [.ref h1, .ref h2, .int r.2.2.1, .int r.2.2.2])), (h1, .inl (cI, 2002, .inl r.1)), (h2, .inl (cI, 2002, .inl r.2.1))] (fun (v9 : Int32) => (fun (_ : Unit) => v9 = ruIn i r)) (fun (_ : Unit) => [(h, .inr (4, [.ref h1, .ref h2, .int r.2.2.1, .int r.2.2.2])), (h1, .inl (cI, 2002, .inl r.1)), (h2, .inl (cI, 2002, .inl r.2.1))]) 0 0 := by
  refine sq_enteri cX4_inside 2 (plainFor_of_name (by decide)) rfl (Nat.le_of_ble_eq_true rfl) ?_
  intro p e s m below meth c ls args A Q hargs hx hb hml hown hts hnm hN hP hK hD hA hS hl hend
  have hl : lv_has ls 2 [(0, .ref h), (1, .int i)] := hl
  refine lv_iload_n hx hb dX4_inside_0 rfl (lv_at hl 1 rfl) ?_
  refine lv_if_lt (tgt := 23) hx hb dX4_inside_1 (by decide) (fun c_1 => ?_) (fun c_1 => ?_)
  · refine lv_iconst (v := 0) hx hb dX4_inside_23 (by decide) ?_
    have hP9 := hP.sub (ws' := [(h, .inr (4, [.ref h1, .ref h2, .int r.2.2.1, .int r.2.2.2])), (h1, .inl (cI, 2002, .inl r.1)), (h2, .inl (cI, 2002, .inl r.2.1))]) [0, 1, 2] rfl
    have hD9 := hD.sub (ws' := [(h, .inr (4, [.ref h1, .ref h2, .int r.2.2.1, .int r.2.2.2])), (h1, .inl (cI, 2002, .inl r.1)), (h2, .inl (cI, 2002, .inl r.2.1))]) [0, 1, 2] (by decide) rfl
    exact hend () 0 _ _ _ _ dX4_inside_24 hP9 hD9 hS (show 0 = (ruIn i r) from by (first | (simp only [ruIn, c_1, ↓reduceIte, eq_self, not_true_eq_false, not_false_eq_true, and_true, true_and, and_false, false_and]; done) | (simp [ruIn, c_1]; done)))
  · refine lv_iload_n hx hb dX4_inside_4 rfl (lv_at hl 1 rfl) ?_
    refine lv_aload_n hx hb dX4_inside_5 rfl (lv_at hl 0 rfl) ?_
    refine va_get (ci := 4) (v := .int r.2.2.1) (C := RX4) (T := TX4) (N := 4) hx hb hts inX4 hown hK hP 0 rfl rfl 2 (by decide) (hts _ k_208) (fun _ h9 => h9) rfl dX4_inside_6 ?_
    refine lv_icmp_ge (tgt := 23) hx hb dX4_inside_9 (by decide) (fun c_2 => ?_) (fun c_2 => ?_)
    · refine lv_iconst (v := 0) hx hb dX4_inside_23 (by decide) ?_
      have hP9 := hP.sub (ws' := [(h, .inr (4, [.ref h1, .ref h2, .int r.2.2.1, .int r.2.2.2])), (h1, .inl (cI, 2002, .inl r.1)), (h2, .inl (cI, 2002, .inl r.2.1))]) [0, 1, 2] rfl
      have hD9 := hD.sub (ws' := [(h, .inr (4, [.ref h1, .ref h2, .int r.2.2.1, .int r.2.2.2])), (h1, .inl (cI, 2002, .inl r.1)), (h2, .inl (cI, 2002, .inl r.2.1))]) [0, 1, 2] (by decide) rfl
      exact hend () 0 _ _ _ _ dX4_inside_24 hP9 hD9 hS (show 0 = (ruIn i r) from by (first | (simp only [ruIn, c_1, c_2, ↓reduceIte, eq_self, not_true_eq_false, not_false_eq_true, and_true, true_and, and_false, false_and]; done) | (simp [ruIn, c_1, c_2]; done)))
    · refine lv_iload_n hx hb dX4_inside_12 rfl (lv_at hl 1 rfl) ?_
      refine lv_sipush (v := 2002) hx hb dX4_inside_13 (by decide) ?_
      refine lv_icmp_ge (tgt := 23) hx hb dX4_inside_16 (by decide) (fun c_3 => ?_) (fun c_3 => ?_)
      · refine lv_iconst (v := 0) hx hb dX4_inside_23 (by decide) ?_
        have hP9 := hP.sub (ws' := [(h, .inr (4, [.ref h1, .ref h2, .int r.2.2.1, .int r.2.2.2])), (h1, .inl (cI, 2002, .inl r.1)), (h2, .inl (cI, 2002, .inl r.2.1))]) [0, 1, 2] rfl
        have hD9 := hD.sub (ws' := [(h, .inr (4, [.ref h1, .ref h2, .int r.2.2.1, .int r.2.2.2])), (h1, .inl (cI, 2002, .inl r.1)), (h2, .inl (cI, 2002, .inl r.2.1))]) [0, 1, 2] (by decide) rfl
        exact hend () 0 _ _ _ _ dX4_inside_24 hP9 hD9 hS (show 0 = (ruIn i r) from by (first | (simp only [ruIn, c_1, c_2, c_3, ↓reduceIte, eq_self, not_true_eq_false, not_false_eq_true, and_true, true_and, and_false, false_and]; done) | (simp [ruIn, c_1, c_2, c_3]; done)))
      · refine lv_iload_n hx hb dX4_inside_19 rfl (lv_at hl 1 rfl) ?_
        refine lv_goto (tgt := 24) hx hb dX4_inside_20 (by decide) ?_
        have hP9 := hP.sub (ws' := [(h, .inr (4, [.ref h1, .ref h2, .int r.2.2.1, .int r.2.2.2])), (h1, .inl (cI, 2002, .inl r.1)), (h2, .inl (cI, 2002, .inl r.2.1))]) [0, 1, 2] rfl
        have hD9 := hD.sub (ws' := [(h, .inr (4, [.ref h1, .ref h2, .int r.2.2.1, .int r.2.2.2])), (h1, .inl (cI, 2002, .inl r.1)), (h2, .inl (cI, 2002, .inl r.2.1))]) [0, 1, 2] (by decide) rfl
        exact hend () i _ _ _ _ dX4_inside_24 hP9 hD9 hS (show i = (ruIn i r) from by (first | (simp only [ruIn, c_1, c_2, c_3, ↓reduceIte, eq_self, not_true_eq_false, not_false_eq_true, and_true, true_and, and_false, false_and]; done) | (simp [ruIn, c_1, c_2, c_3]; done)))

set_option maxHeartbeats 600000 in
set_option maxRecDepth 100000 in
theorem c_X4_xAt (l : Launch) (D : va_G) (cI cZ cB cJ : ClassId) (sz : Nat) (h : Nat) (h1 : Nat) (h2 : Nat) (r : RU) (i : Int32) : sq_Mi l yX4_xAt wsX4_xAt { frames := 1, cells := 0, slots := 0, locals := 21 } D (sq_T cI cZ cB cJ) sz [.ref h, .int i] [(h, .inr (4, [.ref h1, .ref h2, .int r.2.2.1, .int r.2.2.2])), (h1, .inl (cI, 2002, .inl r.1)), (h2, .inl (cI, 2002, .inl r.2.1))] (fun (v9 : Int32) => (fun (_ : Unit) => v9 = ruX i r)) (fun (_ : Unit) => [(h, .inr (4, [.ref h1, .ref h2, .int r.2.2.1, .int r.2.2.2])), (h1, .inl (cI, 2002, .inl r.1)), (h2, .inl (cI, 2002, .inl r.2.1))]) 0 0 := by
  refine sq_enteri cX4_xAt 2 (plainFor_of_name (by decide)) rfl (Nat.le_of_ble_eq_true rfl) ?_
  intro p e s m below meth c ls args A Q hargs hx hb hml hown hts hnm hN hP hK hD hA hS hl hend
  have hl : lv_has ls 2 [(0, .ref h), (1, .int i)] := hl
  refine lv_aload_n hx hb dX4_xAt_0 rfl (lv_at hl 0 rfl) ?_
  refine va_get (ci := 4) (v := .ref h1) (C := RX4) (T := TX4) (N := 4) hx hb hts inX4 hown hK hP 0 rfl rfl 0 (by decide) (hts _ k_206) (fun _ h9 => h9) rfl dX4_xAt_1 ?_
  refine lv_aload_n hx hb dX4_xAt_4 rfl (lv_at hl 0 rfl) ?_
  refine lv_iload_n hx hb dX4_xAt_5 rfl (lv_at hl 1 rfl) ?_
  refine sq_goi (wc := [(h, .inr (4, [.ref h1, .ref h2, .int r.2.2.1, .int r.2.2.2])), (h1, .inl (cI, 2002, .inl r.1)), (h2, .inl (cI, 2002, .inl r.2.1))]) (wr := []) [0, 1, 2] [] hP hD hS hA rfl rfl (by decide) (by decide) (by decide) (fun hPc hDc => va_runV (As := [.int i]) (rest := [.ref h1]) ⟨hx, hb, hml, hown, hts⟩ (c_X4_inside l D cI cZ cB cJ _ h h1 h2 r i ) ⟨callB_of 1 hts (sq_gi k_422) rfl rfl rfl (hts _ k_9) (hts _ k_419) hdX4_inside ⟨Nat.le_of_ble_eq_true rfl, Nat.le_of_ble_eq_true rfl⟩, (hts _ k_421), (hts _ ks_3)⟩ (sq_preV hPc hDc hK hN (q0 := 0) (ci := 4) rfl rfl) rfl rfl hl.1 rfl (lv_room (Nat.le_of_ble_eq_true rfl)) dX4_xAt_6 ⟨Nat.le_of_ble_eq_true rfl, Nat.le_of_ble_eq_true rfl⟩) (fun r_1 u H locs hw_2 hP hD hS => ?_)
  have hw_2 : r_1 = ruIn i r := hw_2
  have e_3 := hw_2
  clear hw_2
  subst e_3
  have hP : va_P D vwCl [(h, .inr (4, [.ref h1, .ref h2, .int r.2.2.1, .int r.2.2.2])), (h1, .inl (cI, 2002, .inl r.1)), (h2, .inl (cI, 2002, .inl r.2.1))] H := hP
  have hD : va_D A [(h, .inr (4, [.ref h1, .ref h2, .int r.2.2.1, .int r.2.2.2])), (h1, .inl (cI, 2002, .inl r.1)), (h2, .inl (cI, 2002, .inl r.2.1))] := hD
  refine va_iald hx hb hK hP 1 0 rfl rfl (ruIn_in i r) dX4_xAt_9 ?_
  have hP9 := hP.sub (ws' := [(h, .inr (4, [.ref h1, .ref h2, .int r.2.2.1, .int r.2.2.2])), (h1, .inl (cI, 2002, .inl r.1)), (h2, .inl (cI, 2002, .inl r.2.1))]) [0, 1, 2] rfl
  have hD9 := hD.sub (ws' := [(h, .inr (4, [.ref h1, .ref h2, .int r.2.2.1, .int r.2.2.2])), (h1, .inl (cI, 2002, .inl r.1)), (h2, .inl (cI, 2002, .inl r.2.1))]) [0, 1, 2] (by decide) rfl
  exact hend () (r.1 (ruIn i r).toNatClampNeg) _ _ _ _ dX4_xAt_10 hP9 hD9 hS (show (r.1 (ruIn i r).toNatClampNeg) = (ruX i r) from rfl)

set_option maxHeartbeats 600000 in
set_option maxRecDepth 100000 in
theorem c_X4_yAt (l : Launch) (D : va_G) (cI cZ cB cJ : ClassId) (sz : Nat) (h : Nat) (h1 : Nat) (h2 : Nat) (r : RU) (i : Int32) : sq_Mi l yX4_yAt wsX4_yAt { frames := 1, cells := 0, slots := 0, locals := 21 } D (sq_T cI cZ cB cJ) sz [.ref h, .int i] [(h, .inr (4, [.ref h1, .ref h2, .int r.2.2.1, .int r.2.2.2])), (h1, .inl (cI, 2002, .inl r.1)), (h2, .inl (cI, 2002, .inl r.2.1))] (fun (v9 : Int32) => (fun (_ : Unit) => v9 = ruY i r)) (fun (_ : Unit) => [(h, .inr (4, [.ref h1, .ref h2, .int r.2.2.1, .int r.2.2.2])), (h1, .inl (cI, 2002, .inl r.1)), (h2, .inl (cI, 2002, .inl r.2.1))]) 0 0 := by
  refine sq_enteri cX4_yAt 2 (plainFor_of_name (by decide)) rfl (Nat.le_of_ble_eq_true rfl) ?_
  intro p e s m below meth c ls args A Q hargs hx hb hml hown hts hnm hN hP hK hD hA hS hl hend
  have hl : lv_has ls 2 [(0, .ref h), (1, .int i)] := hl
  refine lv_aload_n hx hb dX4_yAt_0 rfl (lv_at hl 0 rfl) ?_
  refine va_get (ci := 4) (v := .ref h2) (C := RX4) (T := TX4) (N := 4) hx hb hts inX4 hown hK hP 0 rfl rfl 1 (by decide) (hts _ k_207) (fun _ h9 => h9) rfl dX4_yAt_1 ?_
  refine lv_aload_n hx hb dX4_yAt_4 rfl (lv_at hl 0 rfl) ?_
  refine lv_iload_n hx hb dX4_yAt_5 rfl (lv_at hl 1 rfl) ?_
  refine sq_goi (wc := [(h, .inr (4, [.ref h1, .ref h2, .int r.2.2.1, .int r.2.2.2])), (h1, .inl (cI, 2002, .inl r.1)), (h2, .inl (cI, 2002, .inl r.2.1))]) (wr := []) [0, 1, 2] [] hP hD hS hA rfl rfl (by decide) (by decide) (by decide) (fun hPc hDc => va_runV (As := [.int i]) (rest := [.ref h2]) ⟨hx, hb, hml, hown, hts⟩ (c_X4_inside l D cI cZ cB cJ _ h h1 h2 r i ) ⟨callB_of 1 hts (sq_gi k_422) rfl rfl rfl (hts _ k_9) (hts _ k_419) hdX4_inside ⟨Nat.le_of_ble_eq_true rfl, Nat.le_of_ble_eq_true rfl⟩, (hts _ k_421), (hts _ ks_3)⟩ (sq_preV hPc hDc hK hN (q0 := 0) (ci := 4) rfl rfl) rfl rfl hl.1 rfl (lv_room (Nat.le_of_ble_eq_true rfl)) dX4_yAt_6 ⟨Nat.le_of_ble_eq_true rfl, Nat.le_of_ble_eq_true rfl⟩) (fun r_1 u H locs hw_2 hP hD hS => ?_)
  have hw_2 : r_1 = ruIn i r := hw_2
  have e_3 := hw_2
  clear hw_2
  subst e_3
  have hP : va_P D vwCl [(h, .inr (4, [.ref h1, .ref h2, .int r.2.2.1, .int r.2.2.2])), (h1, .inl (cI, 2002, .inl r.1)), (h2, .inl (cI, 2002, .inl r.2.1))] H := hP
  have hD : va_D A [(h, .inr (4, [.ref h1, .ref h2, .int r.2.2.1, .int r.2.2.2])), (h1, .inl (cI, 2002, .inl r.1)), (h2, .inl (cI, 2002, .inl r.2.1))] := hD
  refine va_iald hx hb hK hP 2 0 rfl rfl (ruIn_in i r) dX4_yAt_9 ?_
  have hP9 := hP.sub (ws' := [(h, .inr (4, [.ref h1, .ref h2, .int r.2.2.1, .int r.2.2.2])), (h1, .inl (cI, 2002, .inl r.1)), (h2, .inl (cI, 2002, .inl r.2.1))]) [0, 1, 2] rfl
  have hD9 := hD.sub (ws' := [(h, .inr (4, [.ref h1, .ref h2, .int r.2.2.1, .int r.2.2.2])), (h1, .inl (cI, 2002, .inl r.1)), (h2, .inl (cI, 2002, .inl r.2.1))]) [0, 1, 2] (by decide) rfl
  exact hend () (r.2.1 (ruIn i r).toNatClampNeg) _ _ _ _ dX4_yAt_10 hP9 hD9 hS (show (r.2.1 (ruIn i r).toNatClampNeg) = (ruY i r) from rfl)
