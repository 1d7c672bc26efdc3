set_option maxHeartbeats 600000 in
set_option maxRecDepth 100000 in
theorem c_tpLeast (l : Launch) (D : va_G) (cI cZ cB cJ : ClassId) (sz : Nat) (lm : Int32) : sq_Ml l yX6_leastCosine wsX6_leastCosine { frames := 0, cells := 0, slots := 0, locals := 0 } D (sq_T cI cZ cB cJ) sz [.int lm] [] (fun (v9 : Int64) => (fun (_ : Unit) => v9 = tpLeast lm)) (fun (_ : Unit) => []) 0 0 := by
  refine sq_enterl cX6_leastCosine 3 (plainFor_of_name (by decide)) rfl (Nat.le_of_ble_eq_true rfl) ?_
  intro p e s m below meth c ls args A Q hargs hx hb hml hown hts hnm hN hP hK hD hA hS hl hend
  have hl : lv_has ls 3 [(0, .int lm)] := hl
  refine lv_iload_n hx hb dX6_leastCosine_0 rfl (lv_at hl 0 rfl) ?_
  refine lv_i2l hx hb dX6_leastCosine_1 rfl ?_
  refine lv_iload_n hx hb dX6_leastCosine_2 rfl (lv_at hl 0 rfl) ?_
  refine lv_i2l hx hb dX6_leastCosine_3 rfl ?_
  refine lv_lmul hx hb dX6_leastCosine_4 ?_
  refine lv_lstore_n (lv' := [(1, .long (lm.toInt64 * lm.toInt64)), (0, .int lm)]) hx hb dX6_leastCosine_5 rfl hl (by decide) rfl (fun ls hl => ?_)
  refine lv_lload_n hx hb dX6_leastCosine_6 rfl (lv_at hl 0 rfl) ?_
  refine lv_lconst (v := 0) hx hb dX6_leastCosine_7 (by decide) ?_
  refine sq_lgt (tgt := 16) hx hb dX6_leastCosine_8 dX6_leastCosine_9 (by decide) (fun c_1 => ?_) (fun c_1 => ?_)
  · refine lv_ldc2 hx hb hown (hts _ k_59) dX6_leastCosine_16 ?_
    refine lv_lload_n hx hb dX6_leastCosine_19 rfl (lv_at hl 0 rfl) ?_
    refine lv_ldiv hx hb dX6_leastCosine_20 (sq_pos (by assumption)) ?_
    refine lv_ldc2 hx hb hown (hts _ k_58) dX6_leastCosine_21 ?_
    refine lv_lsub hx hb dX6_leastCosine_24 ?_
    have hP9 := hP.sub (ws' := []) [] rfl
    have hD9 := hD.sub (ws' := []) [] (by decide) rfl
    exact hend () ((562949953421312 / (lm.toInt64 * lm.toInt64)) - 65536) _ _ _ _ dX6_leastCosine_25 hP9 hD9 hS (show ((562949953421312 / (lm.toInt64 * lm.toInt64)) - 65536) = (tpLeast lm) from by (first | (simp only [tpLeast, c_1, ↓reduceIte, eq_self, not_true_eq_false, not_false_eq_true, and_true, true_and, and_false, false_and]; done) | (simp [tpLeast, c_1]; done)))
  · refine lv_ldc2 hx hb hown (hts _ k_58) dX6_leastCosine_12 ?_
    have hP9 := hP.sub (ws' := []) [] rfl
    have hD9 := hD.sub (ws' := []) [] (by decide) rfl
    exact hend () 65536 _ _ _ _ dX6_leastCosine_15 hP9 hD9 hS (show 65536 = (tpLeast lm) from by (first | (simp only [tpLeast, c_1, ↓reduceIte, eq_self, not_true_eq_false, not_false_eq_true, and_true, true_and, and_false, false_and]; done) | (simp [tpLeast, c_1]; done)))

set_option maxHeartbeats 600000 in
set_option maxRecDepth 100000 in
theorem c_X6_set (l : Launch) (D : va_G) (cI cZ cB cJ : ClassId) (sz : Nat) (h : Nat) (t : TP) (nh : Int32) (cp : Int32) (jn : Int32) (lm : Int32) : sq_Mi l yX6_set wsX6_set { frames := 1, cells := 0, slots := 0, locals := 22 } D (sq_T cI cZ cB cJ) sz [.ref h, .int nh, .int cp, .int jn, .int lm] [(h, .inr (6, [.long t.1, .int t.2.1, .int t.2.2.1, .long t.2.2.2]))] (fun (v9 : Int32) => (fun (u1 : TP) => v9 = tpOk nh cp jn lm ∧ u1 = tpSet nh cp jn lm t)) (fun (u1 : TP) => [(h, .inr (6, [.long u1.1, .int u1.2.1, .int u1.2.2.1, .long u1.2.2.2]))]) 0 0 := by
  refine sq_enterz cX6_set 5 (plainFor_of_name (by decide)) rfl (Nat.le_of_ble_eq_true rfl) ?_
  intro p e s m below meth c ls args A Q hargs hx hb hml hown hts hnm hN hP hK hD hA hS hl hend
  have hl : lv_has ls 5 [(0, .ref h), (1, .int nh), (2, .int cp), (3, .int jn), (4, .int lm)] := hl
  refine lv_iload_n hx hb dX6_set_0 rfl (lv_at hl 1 rfl) ?_
  refine lv_iconst (v := 1) hx hb dX6_set_1 (by decide) ?_
  refine lv_icmp_lt (tgt := 20) hx hb dX6_set_2 (by decide) (fun c_1 => ?_) (fun c_1 => ?_)
  · refine lv_iconst (v := 0) hx hb dX6_set_20 (by decide) ?_
    have hP9 := hP.sub (ws' := [(h, .inr (6, [.long t.1, .int t.2.1, .int t.2.2.1, .long t.2.2.2]))]) [0] rfl
    have hD9 := hD.sub (ws' := [(h, .inr (6, [.long t.1, .int t.2.1, .int t.2.2.1, .long t.2.2.2]))]) [0] (by decide) rfl
    exact hend t 0 _ _ _ _ dX6_set_21 hP9 hD9 hS ⟨(show 0 = (tpOk nh cp jn lm) from by (first | (simp only [tpOk, tpSet, c_1, ↓reduceIte, eq_self, not_true_eq_false, not_false_eq_true, and_true, true_and, and_false, false_and]; done) | (simp [tpOk, tpSet, c_1]; done))), (show t = tpSet nh cp jn lm t from by (first | (simp only [tpOk, tpSet, c_1, ↓reduceIte, eq_self, not_true_eq_false, not_false_eq_true, and_true, true_and, and_false, false_and]; done) | (simp [tpOk, tpSet, c_1]; done)))⟩ rfl
  · refine lv_iload_n hx hb dX6_set_5 rfl (lv_at hl 1 rfl) ?_
    refine lv_ldc hx hb hown (hts _ k_324) dX6_set_6 ?_
    refine lv_icmp_gt (tgt := 20) hx hb dX6_set_8 (by decide) (fun c_2 => ?_) (fun c_2 => ?_)
    · refine lv_iconst (v := 0) hx hb dX6_set_20 (by decide) ?_
      have hP9 := hP.sub (ws' := [(h, .inr (6, [.long t.1, .int t.2.1, .int t.2.2.1, .long t.2.2.2]))]) [0] rfl
      have hD9 := hD.sub (ws' := [(h, .inr (6, [.long t.1, .int t.2.1, .int t.2.2.1, .long t.2.2.2]))]) [0] (by decide) rfl
      exact hend t 0 _ _ _ _ dX6_set_21 hP9 hD9 hS ⟨(show 0 = (tpOk nh cp jn lm) from by (first | (simp only [tpOk, tpSet, c_1, c_2, ↓reduceIte, eq_self, not_true_eq_false, not_false_eq_true, and_true, true_and, and_false, false_and]; done) | (simp [tpOk, tpSet, c_1, c_2]; done))), (show t = tpSet nh cp jn lm t from by (first | (simp only [tpOk, tpSet, c_1, c_2, ↓reduceIte, eq_self, not_true_eq_false, not_false_eq_true, and_true, true_and, and_false, false_and]; done) | (simp [tpOk, tpSet, c_1, c_2]; done)))⟩ rfl
    · refine lv_iload_n hx hb dX6_set_11 rfl (lv_at hl 2 rfl) ?_
      refine lv_if_lt (tgt := 20) hx hb dX6_set_12 (by decide) (fun c_3 => ?_) (fun c_3 => ?_)
      · refine lv_iconst (v := 0) hx hb dX6_set_20 (by decide) ?_
        have hP9 := hP.sub (ws' := [(h, .inr (6, [.long t.1, .int t.2.1, .int t.2.2.1, .long t.2.2.2]))]) [0] rfl
        have hD9 := hD.sub (ws' := [(h, .inr (6, [.long t.1, .int t.2.1, .int t.2.2.1, .long t.2.2.2]))]) [0] (by decide) rfl
        exact hend t 0 _ _ _ _ dX6_set_21 hP9 hD9 hS ⟨(show 0 = (tpOk nh cp jn lm) from by (first | (simp only [tpOk, tpSet, c_1, c_2, c_3, ↓reduceIte, eq_self, not_true_eq_false, not_false_eq_true, and_true, true_and, and_false, false_and]; done) | (simp [tpOk, tpSet, c_1, c_2, c_3]; done))), (show t = tpSet nh cp jn lm t from by (first | (simp only [tpOk, tpSet, c_1, c_2, c_3, ↓reduceIte, eq_self, not_true_eq_false, not_false_eq_true, and_true, true_and, and_false, false_and]; done) | (simp [tpOk, tpSet, c_1, c_2, c_3]; done)))⟩ rfl
      · refine lv_iload_n hx hb dX6_set_15 rfl (lv_at hl 2 rfl) ?_
        refine lv_iconst (v := 1) hx hb dX6_set_16 (by decide) ?_
        refine lv_icmp_le (tgt := 22) hx hb dX6_set_17 (by decide) (fun c_4 => ?_) (fun c_4 => ?_)
        · refine lv_iload_n hx hb dX6_set_22 rfl (lv_at hl 3 rfl) ?_
          refine lv_if_lt (tgt := 45) hx hb dX6_set_23 (by decide) (fun c_5 => ?_) (fun c_5 => ?_)
          · refine lv_iconst (v := 0) hx hb dX6_set_45 (by decide) ?_
            have hP9 := hP.sub (ws' := [(h, .inr (6, [.long t.1, .int t.2.1, .int t.2.2.1, .long t.2.2.2]))]) [0] rfl
            have hD9 := hD.sub (ws' := [(h, .inr (6, [.long t.1, .int t.2.1, .int t.2.2.1, .long t.2.2.2]))]) [0] (by decide) rfl
            exact hend t 0 _ _ _ _ dX6_set_46 hP9 hD9 hS ⟨(show 0 = (tpOk nh cp jn lm) from by (first | (simp only [tpOk, tpSet, c_1, c_2, c_3, c_4, c_5, ↓reduceIte, eq_self, not_true_eq_false, not_false_eq_true, and_true, true_and, and_false, false_and]; done) | (simp [tpOk, tpSet, c_1, c_2, c_3, c_4, c_5]; done))), (show t = tpSet nh cp jn lm t from by (first | (simp only [tpOk, tpSet, c_1, c_2, c_3, c_4, c_5, ↓reduceIte, eq_self, not_true_eq_false, not_false_eq_true, and_true, true_and, and_false, false_and]; done) | (simp [tpOk, tpSet, c_1, c_2, c_3, c_4, c_5]; done)))⟩ rfl
          · refine lv_iload_n hx hb dX6_set_26 rfl (lv_at hl 3 rfl) ?_
            refine lv_iconst (v := 1) hx hb dX6_set_27 (by decide) ?_
            refine lv_icmp_gt (tgt := 45) hx hb dX6_set_28 (by decide) (fun c_6 => ?_) (fun c_6 => ?_)
            · refine lv_iconst (v := 0) hx hb dX6_set_45 (by decide) ?_
              have hP9 := hP.sub (ws' := [(h, .inr (6, [.long t.1, .int t.2.1, .int t.2.2.1, .long t.2.2.2]))]) [0] rfl
              have hD9 := hD.sub (ws' := [(h, .inr (6, [.long t.1, .int t.2.1, .int t.2.2.1, .long t.2.2.2]))]) [0] (by decide) rfl
              exact hend t 0 _ _ _ _ dX6_set_46 hP9 hD9 hS ⟨(show 0 = (tpOk nh cp jn lm) from by (first | (simp only [tpOk, tpSet, c_1, c_2, c_3, c_4, c_5, c_6, ↓reduceIte, eq_self, not_true_eq_false, not_false_eq_true, and_true, true_and, and_false, false_and]; done) | (simp [tpOk, tpSet, c_1, c_2, c_3, c_4, c_5, c_6]; done))), (show t = tpSet nh cp jn lm t from by (first | (simp only [tpOk, tpSet, c_1, c_2, c_3, c_4, c_5, c_6, ↓reduceIte, eq_self, not_true_eq_false, not_false_eq_true, and_true, true_and, and_false, false_and]; done) | (simp [tpOk, tpSet, c_1, c_2, c_3, c_4, c_5, c_6]; done)))⟩ rfl
            · refine lv_iload hx hb dX6_set_31 (lv_at hl 4 rfl) ?_
              refine lv_ldc hx hb hown (hts _ k_325) dX6_set_33 ?_
              refine lv_icmp_lt (tgt := 45) hx hb dX6_set_35 (by decide) (fun c_7 => ?_) (fun c_7 => ?_)
              · refine lv_iconst (v := 0) hx hb dX6_set_45 (by decide) ?_
                have hP9 := hP.sub (ws' := [(h, .inr (6, [.long t.1, .int t.2.1, .int t.2.2.1, .long t.2.2.2]))]) [0] rfl
                have hD9 := hD.sub (ws' := [(h, .inr (6, [.long t.1, .int t.2.1, .int t.2.2.1, .long t.2.2.2]))]) [0] (by decide) rfl
                exact hend t 0 _ _ _ _ dX6_set_46 hP9 hD9 hS ⟨(show 0 = (tpOk nh cp jn lm) from by (first | (simp only [tpOk, tpSet, c_1, c_2, c_3, c_4, c_5, c_6, c_7, ↓reduceIte, eq_self, not_true_eq_false, not_false_eq_true, and_true, true_and, and_false, false_and]; done) | (simp [tpOk, tpSet, c_1, c_2, c_3, c_4, c_5, c_6, c_7]; done))), (show t = tpSet nh cp jn lm t from by (first | (simp only [tpOk, tpSet, c_1, c_2, c_3, c_4, c_5, c_6, c_7, ↓reduceIte, eq_self, not_true_eq_false, not_false_eq_true, and_true, true_and, and_false, false_and]; done) | (simp [tpOk, tpSet, c_1, c_2, c_3, c_4, c_5, c_6, c_7]; done)))⟩ rfl
              · refine lv_iload hx hb dX6_set_38 (lv_at hl 4 rfl) ?_
                refine lv_ldc hx hb hown (hts _ k_326) dX6_set_40 ?_
                refine lv_icmp_le (tgt := 47) hx hb dX6_set_42 (by decide) (fun c_8 => ?_) (fun c_8 => ?_)
                · refine lv_aload_n hx hb dX6_set_47 rfl (lv_at hl 0 rfl) ?_
                  refine lv_iload_n hx hb dX6_set_48 rfl (lv_at hl 1 rfl) ?_
                  refine lv_i2l hx hb dX6_set_49 rfl ?_
                  refine va_put (ci := 6) (v := .long nh.toInt64) (ty := .long) (C := RX6) (T := TX6) (N := 4) hx hb hts inX6 tyX6 tyX6_ok nmX6 hown hK hP hD hS 0 rfl rfl 0 (by decide) (hts _ k_60) (fun _ h9 => h9) rfl (by decide +kernel) rfl rfl (Nat.le_of_ble_eq_true rfl) dX6_set_50 (fun H locs hP hD hS => ?_)
                  have hP : va_P D vwCl [(h, .inr (6, [.long nh.toInt64, .int t.2.1, .int t.2.2.1, .long t.2.2.2]))] H := hP
                  have hD : va_D A [(h, .inr (6, [.long nh.toInt64, .int t.2.1, .int t.2.2.1, .long t.2.2.2]))] := hD
                  refine lv_aload_n hx hb dX6_set_53 rfl (lv_at hl 0 rfl) ?_
                  have J64 : W p l e ({ frames := 1, cells := 0, slots := 0, locals := 22 } : Room) s m args below meth c H locs 0 0 Q (F0 m 64 ls [.int (if cp = 1 then 1 else 0), .ref h]) := by
                    refine va_put (ci := 6) (v := .int (if cp = 1 then 1 else 0)) (ty := .boolean) (C := RX6) (T := TX6) (N := 4) hx hb hts inX6 tyX6 tyX6_ok nmX6 hown hK hP hD hS 0 rfl rfl 1 (by decide) (hts _ k_61) (fun _ h9 => h9) rfl (by decide +kernel) sq_bi.1 sq_bi.2 (Nat.le_of_ble_eq_true rfl) dX6_set_64 (fun H locs hP hD hS => ?_)
                    have hP : va_P D vwCl [(h, .inr (6, [.long nh.toInt64, .int (if cp = 1 then 1 else 0), .int t.2.2.1, .long t.2.2.2]))] H := hP
                    have hD : va_D A [(h, .inr (6, [.long nh.toInt64, .int (if cp = 1 then 1 else 0), .int t.2.2.1, .long t.2.2.2]))] := hD
                    refine lv_aload_n hx hb dX6_set_67 rfl (lv_at hl 0 rfl) ?_
                    have J78 : W p l e ({ frames := 1, cells := 0, slots := 0, locals := 22 } : Room) s m args below meth c H locs 0 0 Q (F0 m 78 ls [.int (if jn = 1 then 1 else 0), .ref h]) := by
                      refine va_put (ci := 6) (v := .int (if jn = 1 then 1 else 0)) (ty := .boolean) (C := RX6) (T := TX6) (N := 4) hx hb hts inX6 tyX6 tyX6_ok nmX6 hown hK hP hD hS 0 rfl rfl 2 (by decide) (hts _ k_62) (fun _ h9 => h9) rfl (by decide +kernel) sq_bi.1 sq_bi.2 (Nat.le_of_ble_eq_true rfl) dX6_set_78 (fun H locs hP hD hS => ?_)
                      have hP : va_P D vwCl [(h, .inr (6, [.long nh.toInt64, .int (if cp = 1 then 1 else 0), .int (if jn = 1 then 1 else 0), .long t.2.2.2]))] H := hP
                      have hD : va_D A [(h, .inr (6, [.long nh.toInt64, .int (if cp = 1 then 1 else 0), .int (if jn = 1 then 1 else 0), .long t.2.2.2]))] := hD
                      refine lv_aload_n hx hb dX6_set_81 rfl (lv_at hl 0 rfl) ?_
                      refine lv_iload hx hb dX6_set_82 (lv_at hl 4 rfl) ?_
                      refine sq_gol (wc := []) (wr := [(h, .inr (6, [.long nh.toInt64, .int (if cp = 1 then 1 else 0), .int (if jn = 1 then 1 else 0), .long t.2.2.2]))]) [] [0] hP hD hS hA rfl rfl (by decide) (by decide) (by decide) (fun hPc hDc => va_runS (As := [.int lm]) (rest := [.ref h]) ⟨hx, hb, hml, hown, hts⟩ (c_tpLeast l D cI cZ cB cJ _ lm ) ⟨callB_of 1 hts (sq_gi k_57) rfl rfl rfl (hts _ k_3) (hts _ k_55) hdX6_leastCosine ⟨Nat.le_of_ble_eq_true rfl, Nat.le_of_ble_eq_true rfl⟩, (hts _ k_56)⟩ (sq_preS hPc hDc hK hN) rfl rfl hl.1 rfl (lv_room (Nat.le_of_ble_eq_true rfl)) dX6_set_84 ⟨Nat.le_of_ble_eq_true rfl, Nat.le_of_ble_eq_true rfl⟩) (fun r_9 u H locs hw_10 hP hD hS => ?_)
                      have hw_10 : r_9 = tpLeast lm := hw_10
                      have e_11 := hw_10
                      clear hw_10
                      subst e_11
                      have hP : va_P D vwCl [(h, .inr (6, [.long nh.toInt64, .int (if cp = 1 then 1 else 0), .int (if jn = 1 then 1 else 0), .long t.2.2.2]))] H := hP
                      have hD : va_D A [(h, .inr (6, [.long nh.toInt64, .int (if cp = 1 then 1 else 0), .int (if jn = 1 then 1 else 0), .long t.2.2.2]))] := hD
                      refine va_put (ci := 6) (v := .long (tpLeast lm)) (ty := .long) (C := RX6) (T := TX6) (N := 4) hx hb hts inX6 tyX6 tyX6_ok nmX6 hown hK hP hD hS 0 rfl rfl 3 (by decide) (hts _ k_63) (fun _ h9 => h9) rfl (by decide +kernel) rfl rfl (Nat.le_of_ble_eq_true rfl) dX6_set_87 (fun H locs hP hD hS => ?_)
                      have hP : va_P D vwCl [(h, .inr (6, [.long nh.toInt64, .int (if cp = 1 then 1 else 0), .int (if jn = 1 then 1 else 0), .long (tpLeast lm)]))] H := hP
                      have hD : va_D A [(h, .inr (6, [.long nh.toInt64, .int (if cp = 1 then 1 else 0), .int (if jn = 1 then 1 else 0), .long (tpLeast lm)]))] := hD
                      refine lv_iconst (v := 1) hx hb dX6_set_90 (by decide) ?_
                      have hP9 := hP.sub (ws' := [(h, .inr (6, [.long nh.toInt64, .int (if cp = 1 then 1 else 0), .int (if jn = 1 then 1 else 0), .long (tpLeast lm)]))]) [0] rfl
                      have hD9 := hD.sub (ws' := [(h, .inr (6, [.long nh.toInt64, .int (if cp = 1 then 1 else 0), .int (if jn = 1 then 1 else 0), .long (tpLeast lm)]))]) [0] (by decide) rfl
                      have hP9 : va_P D vwCl [(h, .inr (6, [.long ((nh.toInt64, if cp = 1 then 1 else 0, if jn = 1 then 1 else 0, tpLeast lm).1), .int ((nh.toInt64, if cp = 1 then 1 else 0, if jn = 1 then 1 else 0, tpLeast lm).2.1), .int ((nh.toInt64, if cp = 1 then 1 else 0, if jn = 1 then 1 else 0, tpLeast lm).2.2.1), .long ((nh.toInt64, if cp = 1 then 1 else 0, if jn = 1 then 1 else 0, tpLeast lm).2.2.2)]))] H := hP9
                      have hD9 : va_D A [(h, .inr (6, [.long ((nh.toInt64, if cp = 1 then 1 else 0, if jn = 1 then 1 else 0, tpLeast lm).1), .int ((nh.toInt64, if cp = 1 then 1 else 0, if jn = 1 then 1 else 0, tpLeast lm).2.1), .int ((nh.toInt64, if cp = 1 then 1 else 0, if jn = 1 then 1 else 0, tpLeast lm).2.2.1), .long ((nh.toInt64, if cp = 1 then 1 else 0, if jn = 1 then 1 else 0, tpLeast lm).2.2.2)]))] := hD9
                      exact hend (nh.toInt64, if cp = 1 then 1 else 0, if jn = 1 then 1 else 0, tpLeast lm) 1 _ _ _ _ dX6_set_91 hP9 hD9 hS ⟨(show 1 = (tpOk nh cp jn lm) from by (first | (simp only [tpOk, tpSet, c_1, c_2, c_3, c_4, c_5, c_6, c_7, c_8, ↓reduceIte, eq_self, not_true_eq_false, not_false_eq_true, and_true, true_and, and_false, false_and]; done) | (simp [tpOk, tpSet, c_1, c_2, c_3, c_4, c_5, c_6, c_7, c_8]; done))), (show (nh.toInt64, if cp = 1 then 1 else 0, if jn = 1 then 1 else 0, tpLeast lm) = tpSet nh cp jn lm t from by (first | (simp only [tpOk, tpSet, c_1, c_2, c_3, c_4, c_5, c_6, c_7, c_8, ↓reduceIte, eq_self, not_true_eq_false, not_false_eq_true, and_true, true_and, and_false, false_and]; done) | (simp [tpOk, tpSet, c_1, c_2, c_3, c_4, c_5, c_6, c_7, c_8]; done)))⟩ rfl
                    refine lv_iload_n hx hb dX6_set_68 rfl (lv_at hl 3 rfl) ?_
                    refine lv_iconst (v := 1) hx hb dX6_set_69 (by decide) ?_
                    refine lv_icmp_ne (tgt := 77) hx hb dX6_set_70 (by decide) (fun c_12 => ?_) (fun c_12 => ?_)
                    · refine lv_iconst (v := 0) hx hb dX6_set_77 (by decide) ?_
                      exact sq_ti (show 0 = (if jn = 1 then 1 else 0) from by (first | (simp only [tpOk, tpSet, c_1, c_2, c_3, c_4, c_5, c_6, c_7, c_8, c_12, ↓reduceIte, eq_self, not_true_eq_false, not_false_eq_true, and_true, true_and, and_false, false_and]; done) | (simp [tpOk, tpSet, c_1, c_2, c_3, c_4, c_5, c_6, c_7, c_8, c_12]; done))) J78
                    · refine lv_iconst (v := 1) hx hb dX6_set_73 (by decide) ?_
                      refine lv_goto (tgt := 78) hx hb dX6_set_74 (by decide) ?_
                      exact sq_ti (show 1 = (if jn = 1 then 1 else 0) from by (first | (simp only [tpOk, tpSet, c_1, c_2, c_3, c_4, c_5, c_6, c_7, c_8, c_12, ↓reduceIte, eq_self, not_true_eq_false, not_false_eq_true, and_true, true_and, and_false, false_and]; done) | (simp [tpOk, tpSet, c_1, c_2, c_3, c_4, c_5, c_6, c_7, c_8, c_12]; done))) J78
                  refine lv_iload_n hx hb dX6_set_54 rfl (lv_at hl 2 rfl) ?_
                  refine lv_iconst (v := 1) hx hb dX6_set_55 (by decide) ?_
                  refine lv_icmp_ne (tgt := 63) hx hb dX6_set_56 (by decide) (fun c_13 => ?_) (fun c_13 => ?_)
                  · refine lv_iconst (v := 0) hx hb dX6_set_63 (by decide) ?_
                    exact sq_ti (show 0 = (if cp = 1 then 1 else 0) from by (first | (simp only [tpOk, tpSet, c_1, c_2, c_3, c_4, c_5, c_6, c_7, c_8, c_13, ↓reduceIte, eq_self, not_true_eq_false, not_false_eq_true, and_true, true_and, and_false, false_and]; done) | (simp [tpOk, tpSet, c_1, c_2, c_3, c_4, c_5, c_6, c_7, c_8, c_13]; done))) J64
                  · refine lv_iconst (v := 1) hx hb dX6_set_59 (by decide) ?_
                    refine lv_goto (tgt := 64) hx hb dX6_set_60 (by decide) ?_
                    exact sq_ti (show 1 = (if cp = 1 then 1 else 0) from by (first | (simp only [tpOk, tpSet, c_1, c_2, c_3, c_4, c_5, c_6, c_7, c_8, c_13, ↓reduceIte, eq_self, not_true_eq_false, not_false_eq_true, and_true, true_and, and_false, false_and]; done) | (simp [tpOk, tpSet, c_1, c_2, c_3, c_4, c_5, c_6, c_7, c_8, c_13]; done))) J64
                · refine lv_iconst (v := 0) hx hb dX6_set_45 (by decide) ?_
                  have hP9 := hP.sub (ws' := [(h, .inr (6, [.long t.1, .int t.2.1, .int t.2.2.1, .long t.2.2.2]))]) [0] rfl
                  have hD9 := hD.sub (ws' := [(h, .inr (6, [.long t.1, .int t.2.1, .int t.2.2.1, .long t.2.2.2]))]) [0] (by decide) rfl
                  exact hend t 0 _ _ _ _ dX6_set_46 hP9 hD9 hS ⟨(show 0 = (tpOk nh cp jn lm) from by (first | (simp only [tpOk, tpSet, c_1, c_2, c_3, c_4, c_5, c_6, c_7, c_8, ↓reduceIte, eq_self, not_true_eq_false, not_false_eq_true, and_true, true_and, and_false, false_and]; done) | (simp [tpOk, tpSet, c_1, c_2, c_3, c_4, c_5, c_6, c_7, c_8]; done))), (show t = tpSet nh cp jn lm t from by (first | (simp only [tpOk, tpSet, c_1, c_2, c_3, c_4, c_5, c_6, c_7, c_8, ↓reduceIte, eq_self, not_true_eq_false, not_false_eq_true, and_true, true_and, and_false, false_and]; done) | (simp [tpOk, tpSet, c_1, c_2, c_3, c_4, c_5, c_6, c_7, c_8]; done)))⟩ rfl
        · refine lv_iconst (v := 0) hx hb dX6_set_20 (by decide) ?_
          have hP9 := hP.sub (ws' := [(h, .inr (6, [.long t.1, .int t.2.1, .int t.2.2.1, .long t.2.2.2]))]) [0] rfl
          have hD9 := hD.sub (ws' := [(h, .inr (6, [.long t.1, .int t.2.1, .int t.2.2.1, .long t.2.2.2]))]) [0] (by decide) rfl
          exact hend t 0 _ _ _ _ dX6_set_21 hP9 hD9 hS ⟨(show 0 = (tpOk nh cp jn lm) from by (first | (simp only [tpOk, tpSet, c_1, c_2, c_3, c_4, ↓reduceIte, eq_self, not_true_eq_false, not_false_eq_true, and_true, true_and, and_false, false_and]; done) | (simp [tpOk, tpSet, c_1, c_2, c_3, c_4]; done))), (show t = tpSet nh cp jn lm t from by (first | (simp only [tpOk, tpSet, c_1, c_2, c_3, c_4, ↓reduceIte, eq_self, not_true_eq_false, not_false_eq_true, and_true, true_and, and_false, false_and]; done) | (simp [tpOk, tpSet, c_1, c_2, c_3, c_4]; done)))⟩ rfl

set_option maxHeartbeats 600000 in
set_option maxRecDepth 100000 in
theorem c_X6_half (l : Launch) (D : va_G) (cI cZ cB cJ : ClassId) (sz : Nat) (h : Nat) (t : TP) : sq_Ml l yX6_half wsX6_half { frames := 0, cells := 0, slots := 0, locals := 0 } D (sq_T cI cZ cB cJ) sz [.ref h] [(h, .inr (6, [.long t.1, .int t.2.1, .int t.2.2.1, .long t.2.2.2]))] (fun (v9 : Int64) => (fun (_ : Unit) => v9 = t.1)) (fun (_ : Unit) => [(h, .inr (6, [.long t.1, .int t.2.1, .int t.2.2.1, .long t.2.2.2]))]) 0 0 := by
  refine sq_enterl cX6_half 1 (plainFor_of_name (by decide)) rfl (Nat.le_of_ble_eq_true rfl) ?_
  intro p e s m below meth c ls args A Q hargs hx hb hml hown hts hnm hN hP hK hD hA hS hl hend
  have hl : lv_has ls 1 [(0, .ref h)] := hl
  refine lv_aload_n hx hb dX6_half_0 rfl (lv_at hl 0 rfl) ?_
  refine va_get (ci := 6) (v := .long t.1) (C := RX6) (T := TX6) (N := 4) hx hb hts inX6 hown hK hP 0 rfl rfl 0 (by decide) (hts _ k_60) (fun _ h9 => h9) rfl dX6_half_1 ?_
  have hP9 := hP.sub (ws' := [(h, .inr (6, [.long t.1, .int t.2.1, .int t.2.2.1, .long t.2.2.2]))]) [0] rfl
  have hD9 := hD.sub (ws' := [(h, .inr (6, [.long t.1, .int t.2.1, .int t.2.2.1, .long t.2.2.2]))]) [0] (by decide) rfl
  exact hend () t.1 _ _ _ _ dX6_half_4 hP9 hD9 hS (show t.1 = t.1 from rfl)

set_option maxHeartbeats 600000 in
set_option maxRecDepth 100000 in
theorem c_X6_hasCaps (l : Launch) (D : va_G) (cI cZ cB cJ : ClassId) (sz : Nat) (h : Nat) (t : TP) (hbo : sq_bo t.2.1) : sq_Mi l yX6_hasCaps wsX6_hasCaps { frames := 0, cells := 0, slots := 0, locals := 0 } D (sq_T cI cZ cB cJ) sz [.ref h] [(h, .inr (6, [.long t.1, .int t.2.1, .int t.2.2.1, .long t.2.2.2]))] (fun (v9 : Int32) => (fun (_ : Unit) => v9 = t.2.1)) (fun (_ : Unit) => [(h, .inr (6, [.long t.1, .int t.2.1, .int t.2.2.1, .long t.2.2.2]))]) 0 0 := by
  refine sq_enterz cX6_hasCaps 1 (plainFor_of_name (by decide)) rfl (Nat.le_of_ble_eq_true rfl) ?_
  intro p e s m below meth c ls args A Q hargs hx hb hml hown hts hnm hN hP hK hD hA hS hl hend
  have hl : lv_has ls 1 [(0, .ref h)] := hl
  refine lv_aload_n hx hb dX6_hasCaps_0 rfl (lv_at hl 0 rfl) ?_
  refine va_get (ci := 6) (v := .int t.2.1) (C := RX6) (T := TX6) (N := 4) hx hb hts inX6 hown hK hP 0 rfl rfl 1 (by decide) (hts _ k_61) (fun _ h9 => h9) rfl dX6_hasCaps_1 ?_
  have hP9 := hP.sub (ws' := [(h, .inr (6, [.long t.1, .int t.2.1, .int t.2.2.1, .long t.2.2.2]))]) [0] rfl
  have hD9 := hD.sub (ws' := [(h, .inr (6, [.long t.1, .int t.2.1, .int t.2.2.1, .long t.2.2.2]))]) [0] (by decide) rfl
  exact hend () t.2.1 _ _ _ _ dX6_hasCaps_4 hP9 hD9 hS (show t.2.1 = t.2.1 from rfl) hbo.1

set_option maxHeartbeats 600000 in
set_option maxRecDepth 100000 in
theorem c_X6_allowsMitre (l : Launch) (D : va_G) (cI cZ cB cJ : ClassId) (sz : Nat) (h : Nat) (t : TP) (cs : Int64) : sq_Mi l yX6_allowsMitre wsX6_allowsMitre { frames := 0, cells := 0, slots := 0, locals := 0 } D (sq_T cI cZ cB cJ) sz [.ref h, .long cs] [(h, .inr (6, [.long t.1, .int t.2.1, .int t.2.2.1, .long t.2.2.2]))] (fun (v9 : Int32) => (fun (_ : Unit) => v9 = tpMitre cs t)) (fun (_ : Unit) => [(h, .inr (6, [.long t.1, .int t.2.1, .int t.2.2.1, .long t.2.2.2]))]) 0 0 := by
  refine sq_enterz cX6_allowsMitre 3 (plainFor_of_name (by decide)) rfl (Nat.le_of_ble_eq_true rfl) ?_
  intro p e s m below meth c ls args A Q hargs hx hb hml hown hts hnm hN hP hK hD hA hS hl hend
  have hl : lv_has ls 3 [(0, .ref h), (1, .long cs)] := hl
  refine lv_aload_n hx hb dX6_allowsMitre_0 rfl (lv_at hl 0 rfl) ?_
  refine va_get (ci := 6) (v := .int t.2.2.1) (C := RX6) (T := TX6) (N := 4) hx hb hts inX6 hown hK hP 0 rfl rfl 2 (by decide) (hts _ k_62) (fun _ h9 => h9) rfl dX6_allowsMitre_1 ?_
  refine lv_if_ne (tgt := 34) hx hb dX6_allowsMitre_4 (by decide) (fun c_1 => ?_) (fun c_1 => ?_)
  · refine lv_iconst (v := 0) hx hb dX6_allowsMitre_34 (by decide) ?_
    have hP9 := hP.sub (ws' := [(h, .inr (6, [.long t.1, .int t.2.1, .int t.2.2.1, .long t.2.2.2]))]) [0] rfl
    have hD9 := hD.sub (ws' := [(h, .inr (6, [.long t.1, .int t.2.1, .int t.2.2.1, .long t.2.2.2]))]) [0] (by decide) rfl
    exact hend () 0 _ _ _ _ dX6_allowsMitre_35 hP9 hD9 hS (show 0 = (tpMitre cs t) from by (first | (simp only [tpMitre, c_1, ↓reduceIte, eq_self, not_true_eq_false, not_false_eq_true, and_true, true_and, and_false, false_and]; done) | (simp [tpMitre, c_1]; done))) rfl
  · refine lv_lload_n hx hb dX6_allowsMitre_7 rfl (lv_at hl 1 rfl) ?_
    refine lv_ldc2 hx hb hown (hts _ k_58) dX6_allowsMitre_8 ?_
    refine lv_lmul hx hb dX6_allowsMitre_11 ?_
    refine lv_aload_n hx hb dX6_allowsMitre_12 rfl (lv_at hl 0 rfl) ?_
    refine va_get (ci := 6) (v := .long t.2.2.2) (C := RX6) (T := TX6) (N := 4) hx hb hts inX6 hown hK hP 0 rfl rfl 3 (by decide) (hts _ k_63) (fun _ h9 => h9) rfl dX6_allowsMitre_13 ?_
    refine lv_aload_n hx hb dX6_allowsMitre_16 rfl (lv_at hl 0 rfl) ?_
    refine va_get (ci := 6) (v := .long t.1) (C := RX6) (T := TX6) (N := 4) hx hb hts inX6 hown hK hP 0 rfl rfl 0 (by decide) (hts _ k_60) (fun _ h9 => h9) rfl dX6_allowsMitre_17 ?_
    refine lv_lmul hx hb dX6_allowsMitre_20 ?_
    refine lv_aload_n hx hb dX6_allowsMitre_21 rfl (lv_at hl 0 rfl) ?_
    refine va_get (ci := 6) (v := .long t.1) (C := RX6) (T := TX6) (N := 4) hx hb hts inX6 hown hK hP 0 rfl rfl 0 (by decide) (hts _ k_60) (fun _ h9 => h9) rfl dX6_allowsMitre_22 ?_
    refine lv_lmul hx hb dX6_allowsMitre_25 ?_
    refine sq_llt (tgt := 34) hx hb dX6_allowsMitre_26 dX6_allowsMitre_27 (by decide) (fun c_2 => ?_) (fun c_2 => ?_)
    · refine lv_iconst (v := 0) hx hb dX6_allowsMitre_34 (by decide) ?_
      have hP9 := hP.sub (ws' := [(h, .inr (6, [.long t.1, .int t.2.1, .int t.2.2.1, .long t.2.2.2]))]) [0] rfl
      have hD9 := hD.sub (ws' := [(h, .inr (6, [.long t.1, .int t.2.1, .int t.2.2.1, .long t.2.2.2]))]) [0] (by decide) rfl
      exact hend () 0 _ _ _ _ dX6_allowsMitre_35 hP9 hD9 hS (show 0 = (tpMitre cs t) from by (first | (simp only [tpMitre, c_1, c_2, ↓reduceIte, eq_self, not_true_eq_false, not_false_eq_true, and_true, true_and, and_false, false_and]; done) | (simp [tpMitre, c_1, c_2]; done))) rfl
    · refine lv_iconst (v := 1) hx hb dX6_allowsMitre_30 (by decide) ?_
      refine lv_goto (tgt := 35) hx hb dX6_allowsMitre_31 (by decide) ?_
      have hP9 := hP.sub (ws' := [(h, .inr (6, [.long t.1, .int t.2.1, .int t.2.2.1, .long t.2.2.2]))]) [0] rfl
      have hD9 := hD.sub (ws' := [(h, .inr (6, [.long t.1, .int t.2.1, .int t.2.2.1, .long t.2.2.2]))]) [0] (by decide) rfl
      exact hend () 1 _ _ _ _ dX6_allowsMitre_35 hP9 hD9 hS (show 1 = (tpMitre cs t) from by (first | (simp only [tpMitre, c_1, c_2, ↓reduceIte, eq_self, not_true_eq_false, not_false_eq_true, and_true, true_and, and_false, false_and]; done) | (simp [tpMitre, c_1, c_2]; done))) rfl

set_option maxHeartbeats 600000 in
set_option maxRecDepth 100000 in
theorem c_X6_reach (l : Launch) (D : va_G) (cI cZ cB cJ : ClassId) (sz : Nat) (h : Nat) (t : TP) (cs : Int64) : sq_Ml l yX6_reach wsX6_reach { frames := 2, cells := 0, slots := 0, locals := 48 } D (sq_T cI cZ cB cJ) sz [.ref h, .long cs] [(h, .inr (6, [.long t.1, .int t.2.1, .int t.2.2.1, .long t.2.2.2]))] (fun (v9 : Int64) => (fun (_ : Unit) => v9 = tpReach cs t)) (fun (_ : Unit) => [(h, .inr (6, [.long t.1, .int t.2.1, .int t.2.2.1, .long t.2.2.2]))]) 0 0 := by
  refine sq_enterl cX6_reach 3 (plainFor_of_name (by decide)) rfl (Nat.le_of_ble_eq_true rfl) ?_
  intro p e s m below meth c ls args A Q hargs hx hb hml hown hts hnm hN hP hK hD hA hS hl hend
  have hl : lv_has ls 3 [(0, .ref h), (1, .long cs)] := hl
  refine lv_aload_n hx hb dX6_reach_0 rfl (lv_at hl 0 rfl) ?_
  refine va_get (ci := 6) (v := .long t.1) (C := RX6) (T := TX6) (N := 4) hx hb hts inX6 hown hK hP 0 rfl rfl 0 (by decide) (hts _ k_60) (fun _ h9 => h9) rfl dX6_reach_1 ?_
  refine lv_aload_n hx hb dX6_reach_4 rfl (lv_at hl 0 rfl) ?_
  refine va_get (ci := 6) (v := .long t.1) (C := RX6) (T := TX6) (N := 4) hx hb hts inX6 hown hK hP 0 rfl rfl 0 (by decide) (hts _ k_60) (fun _ h9 => h9) rfl dX6_reach_5 ?_
  refine lv_lmul hx hb dX6_reach_8 ?_
  refine lv_ldc2 hx hb hown (hts _ k_58) dX6_reach_9 ?_
  refine lv_lmul hx hb dX6_reach_12 ?_
  refine lv_aload_n hx hb dX6_reach_13 rfl (lv_at hl 0 rfl) ?_
  refine va_get (ci := 6) (v := .long t.1) (C := RX6) (T := TX6) (N := 4) hx hb hts inX6 hown hK hP 0 rfl rfl 0 (by decide) (hts _ k_60) (fun _ h9 => h9) rfl dX6_reach_14 ?_
  refine lv_aload_n hx hb dX6_reach_17 rfl (lv_at hl 0 rfl) ?_
  refine va_get (ci := 6) (v := .long t.1) (C := RX6) (T := TX6) (N := 4) hx hb hts inX6 hown hK hP 0 rfl rfl 0 (by decide) (hts _ k_60) (fun _ h9 => h9) rfl dX6_reach_18 ?_
  refine lv_lmul hx hb dX6_reach_21 ?_
  refine lv_lload_n hx hb dX6_reach_22 rfl (lv_at hl 1 rfl) ?_
  refine lv_ladd hx hb dX6_reach_23 ?_
  refine sq_gol (wc := []) (wr := [(h, .inr (6, [.long t.1, .int t.2.1, .int t.2.2.1, .long t.2.2.2]))]) [] [0] hP hD hS hA rfl rfl (by decide) (by decide) (by decide) (fun hPc hDc => va_runSN (As := [.long ((t.1 * t.1) * 65536), .long ((t.1 * t.1) + cs)]) (rest := []) ⟨hx, hb, hml, hown, hts⟩ (c_X8_rounded l D cI cZ cB cJ _ ((t.1 * t.1) * 65536) ((t.1 * t.1) + cs) ) ⟨va_cnB 2 hts (sq_gi k_454) rfl rfl rfl (va_Nw.of rfl (hN.at (args := args) 26 rfl)) (hts _ k_1) hdX8_rounded ⟨Nat.le_of_ble_eq_true rfl, Nat.le_of_ble_eq_true rfl⟩, (hts _ k_453), trivial⟩ (sq_preS hPc hDc hK hN) rfl rfl hl.1 rfl (lv_room (Nat.le_of_ble_eq_true rfl)) dX6_reach_24 ⟨Nat.le_of_ble_eq_true rfl, Nat.le_of_ble_eq_true rfl⟩) (fun r_1 u H locs hw_2 hP hD hS => ?_)
  have hw_2 : r_1 = kRound ((t.1 * t.1) * 65536) ((t.1 * t.1) + cs) := hw_2
  have e_3 := hw_2
  clear hw_2
  subst e_3
  have hP : va_P D vwCl [(h, .inr (6, [.long t.1, .int t.2.1, .int t.2.2.1, .long t.2.2.2]))] H := hP
  have hD : va_D A [(h, .inr (6, [.long t.1, .int t.2.1, .int t.2.2.1, .long t.2.2.2]))] := hD
  have hP9 := hP.sub (ws' := [(h, .inr (6, [.long t.1, .int t.2.1, .int t.2.2.1, .long t.2.2.2]))]) [0] rfl
  have hD9 := hD.sub (ws' := [(h, .inr (6, [.long t.1, .int t.2.1, .int t.2.2.1, .long t.2.2.2]))]) [0] (by decide) rfl
  exact hend () (kRound ((t.1 * t.1) * 65536) ((t.1 * t.1) + cs)) _ _ _ _ dX6_reach_27 hP9 hD9 hS (show (kRound ((t.1 * t.1) * 65536) ((t.1 * t.1) + cs)) = (tpReach cs t) from rfl)
