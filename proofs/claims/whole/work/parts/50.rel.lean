/-! every call keeps the relation, and both answer alike -/
section relAll
variable {w : LR} {t : TP} {d : PT} {P : PS} {k : WK} {mp : MP} {mt : MT} {md : MD} {mS : MS} {mk : MK}
theorem rel_init : REL ((fun _ => 0), (fun _ => 0), (fun _ => 0), (fun _ => 0), 0, 0) (32768, 0, 0, tpLeast 655360) ((fun _ => 0), (fun _ => 0), 0, 0, 0, 0) ((fun _ => 0), (fun _ => 0), 0, 0, 0) (0, 0, 0, 0) ((fun _ => 0), (fun _ => 0), (fun _ => 0), 0, 0) (32768, 0, 0, 655360) ((fun _ => 0), (fun _ => 0), 0, 0) ((fun _ => 0), (fun _ => 0), 0, 0) (0, 0, 0, 0, 0) := by
  have hz0 : sq_bo 0 := ⟨rfl, rfl⟩
  have hz : ∀ j : Nat, sq_bo ((fun _ : Nat => (0 : Int32)) j) := fun _ => hz0
  have hl : RLn (fun _ : Nat => (0 : Int32)) := fun _ => ⟨(by decide : (0 : Int) ≤ (0 : Int32).toInt), (by decide : (0 : Int32).toInt ≤ 536870912)⟩
  refine ⟨⟨0, 0, fun _ => 0, rfl, rfl, rfl, by omega, by omega, fun _ => rfl, fun j hj => by omega, fun j hj => by omega, rfl, fun j hj => by omega, fun j hj => by omega, fun j i hj => by omega, fun hj => by omega, (by decide : (0 : Int) ≤ (0 : Int32).toInt), (by decide : (0 : Int32).toInt < 2000), hz⟩, ?_, ?_, ⟨msOk0, rfl, RC0⟩, rfl⟩
  · exact ⟨rfl, (by decide : (1 : Int) ≤ (32768 : Int32).toInt), (by decide : (32768 : Int32).toInt ≤ 4194304), rfl, Or.inl rfl, rfl, Or.inl rfl, 655360, rfl, (by decide : (65536 : Int) ≤ (655360 : Int32).toInt), (by decide : (655360 : Int32).toInt ≤ 6553600), rfl⟩
  · exact ⟨rfl, rfl, rfl, (by decide : (0 : Int) ≤ (0 : Int32).toInt), (by decide : (0 : Int32).toInt ≤ 8), hl, hl, hz0, fun hp => absurd (show (0 : Int32) ≤ 0 by decide) hp, fun hp => absurd (show (0 : Int32) ≤ 0 by decide) hp⟩
theorem rel_bo (h : REL w t d P k mp mt md mS mk) : sq_bo t.2.1 ∧ sq_bo d.2.2.2.2.2 ∧ (∀ j, sq_bo (w.2.2.2.1 j)) ∧ w.2.2.2.2.2.toInt ≤ 2000 ∧ mpOk mp ∧ msOk mS := by
  obtain ⟨⟨n, c, f, h1⟩, h2, h3, h4, h5⟩ := h
  obtain ⟨a1, a2, a3, a4, a5, a6, a7, a8, a9, a10, a11, a12, a13, a14, a15, a16⟩ := h1
  obtain ⟨t1, t2, t3, t4, t5, -⟩ := h2
  exact ⟨by rw [t4]; exact sq_bo01 t5, h3.2.2.2.2.2.2.2.1, a16, by omega, ⟨⟨by omega, by omega⟩, a14, a15⟩, h4.1⟩
theorem rel_move (h : REL w t d P k mp mt md mS mk) (x y : Int32) : lrBeginR x y w = mMoveR x y mp ∧ REL (lrBegin x y w) t d P k (mMove x y mp) mt md mS mk := by
  obtain ⟨h1, h2⟩ := h
  obtain ⟨q1, q2⟩ := move_rp h1 x y
  exact ⟨q1, q2, h2⟩
theorem rel_line (h : REL w t d P k mp mt md mS mk) (x y : Int32) : lrExtR x y w = mLineR x y mp ∧ REL (lrExt x y w) t d P k (mLine x y mp) mt md mS mk := by
  obtain ⟨h1, h2⟩ := h
  obtain ⟨q1, q2⟩ := line_rp h1 x y
  exact ⟨q1, q2, h2⟩
theorem rel_close (h : REL w t d P k mp mt md mS mk) : lrShutR w = mCloseR mp ∧ REL (lrShut w) t d P k (mClose mp) mt md mS mk := by
  obtain ⟨h1, h2⟩ := h
  obtain ⟨q1, q2⟩ := close_rp h1
  exact ⟨q1, q2, h2⟩
theorem rel_clear (h : REL w t d P k mp mt md mS mk) : w.2.2.2.2.1 = mp.2.2.2.1 ∧ REL (lrEmpty w) t d (psEmpty P) k (mClear mp) mt md (mEmpty mS) mk := by
  obtain ⟨h1, h2, h3, h4, h5⟩ := h
  obtain ⟨q1, q2⟩ := clear_rp h1
  exact ⟨q1, q2, h2, h3, ⟨msOk0, rfl, RC0⟩, h5⟩
theorem rel_pen (h : REL w t d P k mp mt md mS mk) (a b c e : Int32) : tpOk a b c e = mPenOk a b c e ∧ REL w (tpSet a b c e t) d P k mp (mPen a b c e mt) md mS mk := by
  obtain ⟨h1, h2, h3, h4, h5⟩ := h
  obtain ⟨q1, q2⟩ := pen_rt h2 a b c e
  exact ⟨q1, h1, q2, h3, h4, h5⟩
theorem rel_length (h : REL w t d P k mp mt md mS mk) (a b : Int32) : ptGiveOk a b = mLenOk a b ∧ REL w t (ptGive a b d) P k mp mt (mLen a b md) mS mk := by
  obtain ⟨h1, h2, h3, h4, h5⟩ := h
  obtain ⟨q1, q2⟩ := length_rd h3 a b
  exact ⟨q1, h1, h2, q2, h4, h5⟩
theorem rel_dashes (h : REL w t d P k mp mt md mS mk) (a b : Int32) : ptUseOk a b d = mDashOk a b md ∧ REL w t (ptUse a b d) P k mp mt (mDash a b md) mS mk := by
  obtain ⟨h1, h2, h3, h4, h5⟩ := h
  obtain ⟨q1, q2⟩ := dashes_rd h3 a b
  exact ⟨q1, h1, h2, q2, h4, h5⟩
theorem rel_stroke (h : REL w t d P k mp mt md mS mk) (rd rr : RU) (mw : MW) (mr : MR) : mStrSafe mp md mt mw mk mS mr ∧ skR (skAll t d w k P rd rr) = mStrV (mStr0 mp md mt mw mk mS mr) ∧ REL w t d (skP (skAll t d w k P rd rr)) (skK (skAll t d w k P rd rr)) mp mt md (mStrS (mStr0 mp md mt mw mk mS mr)) (mStrK (mStr0 mp md mt mw mk mS mr)) := stroke_rel h rd rr mw mr
theorem rel_pieces (h : REL w t d P k mp mt md mS mk) : P.2.2.1 = mS.2.2.1 := h.2.2.2.1.2.1
theorem rel_sort (h : REL w t d P k mp mt md mS mk) (i : Int32) : psKind i P = mSort i mS := sort_eq h.2.2.2.1 i
theorem rel_corner (h : REL w t d P k mp mt md mS mk) (i a b : Int32) : psPlace i a b P = mCornV i a b mS := corner_eq h.2.2.2.1 i a b
theorem rel_walked (h : REL w t d P k mp mt md mS mk) : k.1 = mk.2.2.2.2 := h.2.2.2.2
end relAll
