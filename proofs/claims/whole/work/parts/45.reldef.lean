/-! how the class's state and the reference's belong together -/
/-- points and rows: n points, c rows, row j begins at f j -/
def RPn (w : LR) (mp : MP) (n c : Nat) (f : Nat → Nat) : Prop :=
  w.2.2.2.2.1.toInt = (n : Int) ∧ mp.2.2.2.1.toInt = (n : Int) ∧ w.2.2.2.2.2.toInt = (c : Int) ∧ n ≤ 2000 ∧ c ≤ n ∧ (c = 0 → n = 0) ∧
  (∀ j, j < n → w.1 j = mp.1 j ∧ w.2.1 j = mp.2.1 j ∧ kPlace (w.1 j).toInt64 = 1 ∧ kPlace (w.2.1 j).toInt64 = 1) ∧
  (∀ j, j < c → (w.2.2.1 j).toInt = (f j : Int) ∧ f j < n) ∧ f 0 = 0 ∧ (∀ j, j + 1 < c → f j < f (j + 1)) ∧
  (∀ j, j < c → mp.2.2.1 (f j) = (if w.2.2.2.1 j = 0 then 1 else 3)) ∧
  (∀ j i, j < c → f j < i → i < n → (j + 1 < c → i < f (j + 1)) → mp.2.2.1 i = 0) ∧
  (0 < c → mp.2.2.2.2.toInt = (f (c - 1) : Int)) ∧ 0 ≤ mp.2.2.2.2.toInt ∧ mp.2.2.2.2.toInt < 2000 ∧ (∀ j, sq_bo (w.2.2.2.1 j))
def RP (w : LR) (mp : MP) : Prop := ∃ n c f, RPn w mp n c f
/-- pen -/
def RT (t : TP) (mt : MT) : Prop :=
  t.1 = mt.1.toInt64 ∧ 1 ≤ mt.1.toInt ∧ mt.1.toInt ≤ 4194304 ∧ t.2.1 = mt.2.1 ∧ (mt.2.1 = 0 ∨ mt.2.1 = 1) ∧ t.2.2.1 = mt.2.2.1 ∧ (mt.2.2.1 = 0 ∨ mt.2.2.1 = 1) ∧
  ∃ lm : Int32, mt.2.2.2 = lm.toInt64 ∧ 65536 ≤ lm.toInt ∧ lm.toInt ≤ 6553600 ∧ t.2.2.2 = tpLeast lm
/-- lengths in their range -/
def RLn (f : Nat → Int32) : Prop := ∀ j, 0 ≤ (f j).toInt ∧ (f j).toInt ≤ 536870912
/-- dashes -/
def RD (d : PT) (md : MD) : Prop :=
  d.1 = md.1 ∧ d.2.1 = md.2.1 ∧ d.2.2.1 = md.2.2.1 ∧ 0 ≤ md.2.2.1.toInt ∧ md.2.2.1.toInt ≤ 8 ∧ RLn md.1 ∧ RLn md.2.1 ∧ sq_bo d.2.2.2.2.2 ∧
  (¬ md.2.2.1 ≤ 0 → ∀ k : MK, mStOk md k ∧ mStart1 md k = (k.1, d.2.2.2.1, d.2.2.2.2.1, d.2.2.2.2.2, k.2.2.2.2)) ∧
  (¬ md.2.2.1 ≤ 0 → (0 ≤ d.2.2.2.1.toInt ∧ d.2.2.2.1.toInt < md.2.2.1.toInt) ∧ (d.2.2.2.2.2 = 0 ∨ d.2.2.2.2.2 = 1) ∧ 0 ≤ d.2.2.2.2.1.toInt ∧ d.2.2.2.2.1.toInt ≤ 536870912)
/-- what n pieces hold -/
def RC (n : Nat) (kd pl so co : Nat → Int32) : Prop := ∀ i, i < n → kd i = so i ∧ (kd i = 0 ∨ kd i = 1 ∨ kd i = 2 ∨ kd i = 3) ∧ ∀ j, j < (if kd i = 1 then 6 else 8) → pl (8 * i + j) = co (8 * i + j)
/-- pieces while a stroke is made -/
def RI (P : PS) (S : MS) : Prop := P.2.2.2.2 = S.2.2.2 ∧ msOk S ∧ (S.2.2.2 = 0 → P.2.2.1 = S.2.2.1 ∧ RC S.2.2.1.toNatClampNeg P.1 P.2.1 S.1 S.2.1)
/-- pieces at rest -/
def RS (P : PS) (S : MS) : Prop := msOk S ∧ P.2.2.1 = S.2.2.1 ∧ RC S.2.2.1.toNatClampNeg P.1 P.2.1 S.1 S.2.1
def REL (w : LR) (t : TP) (d : PT) (P : PS) (k : WK) (mp : MP) (mt : MT) (md : MD) (mS : MS) (mk : MK) : Prop := RP w mp ∧ RT t mt ∧ RD d md ∧ RS P mS ∧ k.1 = mk.2.2.2.2
