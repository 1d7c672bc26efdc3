/-! every call keeps the relation, and both answer alike -/
section relAll
variable {w : LR} {t : TP} {d : PT} {P : PS} {k : WK} {mp : MP} {mt : MT} {md : MD} {mS : MS} {mk : MK}
theorem rel_init : REL ((fun _ => 0), (fun _ => 0), (fun _ => 0), (fun _ => 0), 0, 0) (32768, 0, 0, tpLeast 655360) ((fun _ => 0), (fun _ => 0), 0, 0, 0, 0) ((fun _ => 0), (fun _ => 0), 0, 0, 0) (0, 0, 0, 0) ((fun _ => 0), (fun _ => 0), (fun _ => 0), 0, 0) (32768, 0, 0, 655360) ((fun _ => 0), (fun _ => 0), 0, 0) ((fun _ => 0), (fun _ => 0), 0, 0) (0, 0, 0, 0, 0) := sorry
theorem rel_bo (h : REL w t d P k mp mt md mS mk) : sq_bo t.2.1 ∧ sq_bo d.2.2.2.2.2 ∧ (∀ j, sq_bo (w.2.2.2.1 j)) ∧ w.2.2.2.2.2.toInt ≤ 2000 ∧ mpOk mp ∧ msOk mS := sorry
theorem rel_move (h : REL w t d P k mp mt md mS mk) (x y : Int32) : lrBeginR x y w = mMoveR x y mp ∧ REL (lrBegin x y w) t d P k (mMove x y mp) mt md mS mk := sorry
theorem rel_line (h : REL w t d P k mp mt md mS mk) (x y : Int32) : lrExtR x y w = mLineR x y mp ∧ REL (lrExt x y w) t d P k (mLine x y mp) mt md mS mk := sorry
theorem rel_close (h : REL w t d P k mp mt md mS mk) : lrShutR w = mCloseR mp ∧ REL (lrShut w) t d P k (mClose mp) mt md mS mk := sorry
theorem rel_clear (h : REL w t d P k mp mt md mS mk) : w.2.2.2.2.1 = mp.2.2.2.1 ∧ REL (lrEmpty w) t d (psEmpty P) k (mClear mp) mt md (mEmpty mS) mk := sorry
theorem rel_pen (h : REL w t d P k mp mt md mS mk) (a b c e : Int32) : tpOk a b c e = mPenOk a b c e ∧ REL w (tpSet a b c e t) d P k mp (mPen a b c e mt) md mS mk := sorry
theorem rel_length (h : REL w t d P k mp mt md mS mk) (a b : Int32) : ptGiveOk a b = mLenOk a b ∧ REL w t (ptGive a b d) P k mp mt (mLen a b md) mS mk := sorry
theorem rel_dashes (h : REL w t d P k mp mt md mS mk) (a b : Int32) : ptUseOk a b d = mDashOk a b md ∧ REL w t (ptUse a b d) P k mp mt (mDash a b md) mS mk := sorry
theorem rel_stroke (h : REL w t d P k mp mt md mS mk) (rd rr : RU) (mw : MW) (mr : MR) : mStrSafe mp md mt mw mk mS mr ∧ skR (skAll t d w k P rd rr) = mStrV (mStr0 mp md mt mw mk mS mr) ∧ REL w t d (skP (skAll t d w k P rd rr)) (skK (skAll t d w k P rd rr)) mp mt md (mStrS (mStr0 mp md mt mw mk mS mr)) (mStrK (mStr0 mp md mt mw mk mS mr)) := sorry
theorem rel_pieces (h : REL w t d P k mp mt md mS mk) : P.2.2.1 = mS.2.2.1 := sorry
theorem rel_sort (h : REL w t d P k mp mt md mS mk) (i : Int32) : psKind i P = mSort i mS := sorry
theorem rel_corner (h : REL w t d P k mp mt md mS mk) (i a b : Int32) : psPlace i a b P = mCornV i a b mS := sorry
theorem rel_walked (h : REL w t d P k mp mt md mS mk) : k.1 = mk.2.2.2.2 := sorry
end relAll
