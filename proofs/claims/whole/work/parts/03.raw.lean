/-! the methods of the landed code as functions on the numbers that its cells hold: no machine here -/
abbrev sq_T (cI cZ cB cJ : ClassId) : List (ClassId × FieldType) := [(cI, .int), (cZ, .boolean), (cB, .byte), (cJ, .long)]
def sq_bo (x : Int32) : Prop := narrow .boolean (.int x) = .int x ∧ fits .boolean (.int x) = true
theorem sq_lo1 {i : Int32} (h : ¬ i < 0) : 0 ≤ i.toInt := by
  rw [Int32.lt_iff_toInt_lt] at h
  exact Int.not_lt.mp h
theorem sq_lo2 {i : Int32} (h : 0 ≤ i) : 0 ≤ i.toInt := by
  rw [Int32.le_iff_toInt_le] at h
  exact h
theorem sq_lo3 {i : Int32} (h : 0 < i) : 0 ≤ i.toInt := by
  rw [Int32.lt_iff_toInt_lt] at h
  exact Int.le_of_lt h
theorem sq_lo4 {i : Int32} (h : ¬ i ≤ 0) : 0 ≤ i.toInt := by
  rw [Int32.le_iff_toInt_le] at h
  have h4 : (0 : Int32).toInt = 0 := rfl
  omega
theorem sq_hi1 {i M : Int32} {n : Nat} (h : ¬ M ≤ i) (hM : M.toInt ≤ (n : Int)) : i.toInt < (n : Int) := by
  rw [Int32.le_iff_toInt_le] at h
  omega
theorem sq_hi2 {i M : Int32} {n : Nat} (h : i < M) (hM : M.toInt ≤ (n : Int)) : i.toInt < (n : Int) := by
  rw [Int32.lt_iff_toInt_lt] at h
  omega
theorem sq_in {i : Int32} {n : Nat} (h0 : 0 ≤ i.toInt) (h1 : i.toInt < (n : Int)) : vp_in i n := vp_in_iff.mpr ⟨h0, h1⟩
section sqTop
variable {p : Program} {l : Launch} {e : Env} {R : Room} {s : State} {m : MethodId} {args : Array Value} {below : List Frame} {meth : Method} {c : Code} {H : Heap} {locs : List Loc} {cells slots : Nat} {Q : State → Prop} {pc : Nat} {ls : Array Slot} {rest : List Value}
theorem sq_ti {x y : Int32} (h : x = y) (k : W p l e R s m args below meth c H locs cells slots Q (F0 m pc ls (.int y :: rest))) : W p l e R s m args below meth c H locs cells slots Q (F0 m pc ls (.int x :: rest)) := by rw [h]; exact k
theorem sq_tl {x y : Int64} (h : x = y) (k : W p l e R s m args below meth c H locs cells slots Q (F0 m pc ls (.long y :: rest))) : W p l e R s m args below meth c H locs cells slots Q (F0 m pc ls (.long x :: rest)) := by rw [h]; exact k
end sqTop
def kPlace (v : Int64) : Int32 := if v < -536870912 then 0 else if 536870912 < v then 0 else 1
def kUnits (v : Int32) : Int32 := if v < 0 then 0 else if 536870912 < v then 0 else 1
def kFloor (x y : Int64) : Int64 := if 0 ≤ x ^^^ y then x / y else if x / y * y = x then x / y else x / y - 1
def kRound (a b : Int64) : Int64 := if 0 < b then kFloor (2 * a + b) (2 * b) else 0
def kRootL : Nat → Int64 → Int64 → Int64 → Int64
  | 0, _, found, _ => found
  | n + 1, rest, found, bit => if bit ≤ 0 then found else if rest < found + bit then kRootL n rest (found >>> ((1 : Int32).toInt64 &&& 63)) (bit >>> ((2 : Int32).toInt64 &&& 63)) else kRootL n (rest - (found + bit)) ((found >>> ((1 : Int32).toInt64 &&& 63)) + bit) (bit >>> ((2 : Int32).toInt64 &&& 63))
def kRoot (v : Int64) : Int64 := kRootL 32 v 0 1152921504606846976
/-- a run: x, y, how many, whether it is a ring -/
abbrev RU : Type := (Nat → Int32) × (Nat → Int32) × Int32 × Int32
def ruStart (c : Int32) (r : RU) : RU := (r.1, r.2.1, 0, c)
def ruAdd (px py : Int32) (r : RU) : RU :=
  if ¬ r.2.2.1 - 1 < 0 ∧ ¬ 2002 ≤ r.2.2.1 - 1 ∧ r.1 (r.2.2.1 - 1).toNatClampNeg = px ∧ r.2.1 (r.2.2.1 - 1).toNatClampNeg = py then r
  else if r.2.2.1 < 0 then r else if r.2.2.1 < 2002 then (upd r.1 r.2.2.1.toNatClampNeg px, upd r.2.1 r.2.2.1.toNatClampNeg py, r.2.2.1 + 1, r.2.2.2)
  else r
def ruDrop : Nat → RU → RU
  | 0, r => r
  | n + 1, r => if r.2.2.2 = 0 then r else if r.2.2.1 - 1 ≤ 0 then r else if 2002 ≤ r.2.2.1 - 1 then r else if r.1 (r.2.2.1 - 1).toNatClampNeg = r.1 (0 : Int32).toNatClampNeg then (if r.2.1 (r.2.2.1 - 1).toNatClampNeg = r.2.1 (0 : Int32).toNatClampNeg then ruDrop n (r.1, r.2.1, r.2.2.1 - 1, r.2.2.2) else r) else r
def ruSegs (r : RU) : Int32 := if 2 ≤ r.2.2.1 then (if r.2.2.2 = 0 then r.2.2.1 - 1 else r.2.2.1) else 0
def ruIn (i : Int32) (r : RU) : Int32 := if i < 0 then 0 else if r.2.2.1 ≤ i then 0 else if 2002 ≤ i then 0 else i
theorem ruIn_in (i : Int32) (r : RU) : vp_in (ruIn i r) 2002 := by
  unfold ruIn
  split
  · exact sq_in (by decide) (by decide)
  · split
    · exact sq_in (by decide) (by decide)
    · split
      · exact sq_in (by decide) (by decide)
      · exact sq_in (sq_lo1 (by assumption)) (sq_hi1 (n := 2002) (by assumption) (by decide))
def ruX (i : Int32) (r : RU) : Int32 := r.1 (ruIn i r).toNatClampNeg
def ruY (i : Int32) (r : RU) : Int32 := r.2.1 (ruIn i r).toNatClampNeg
/-- a segment: ax ay bx by dx dy size nx ny tx ty -/
abbrev SG : Type := Int64 × Int64 × Int64 × Int64 × Int64 × Int64 × Int64 × Int64 × Int64 × Int64 × Int64
/-- the pen: half, caps, bevels, bound -/
abbrev TP : Type := Int64 × Int32 × Int32 × Int64
def tpLeast (limit : Int32) : Int64 := if 0 < limit.toInt64 * limit.toInt64 then 562949953421312 / (limit.toInt64 * limit.toInt64) - 65536 else 65536
def tpBad (h c j m : Int32) : Prop := h < 1 ∨ 4194304 < h ∨ c < 0 ∨ 1 < c ∨ j < 0 ∨ 1 < j ∨ m < 65536 ∨ 6553600 < m
/-- the pieces: kinds, places, count, corners, state -/
abbrev PS : Type := (Nat → Int32) × (Nat → Int32) × Int32 × Int32 × Int32
def psEmpty (P : PS) : PS := (P.1, P.2.1, 0, 0, 0)
def psGoing (P : PS) : Int32 := if P.2.2.2.2 = 0 then 1 else 0
def psStop (why : Int32) (P : PS) : PS := (P.1, P.2.1, P.2.2.1, P.2.2.2.1, if P.2.2.2.2 = 0 then why else P.2.2.2.2)
def psStart (k : Int32) (P : PS) : PS :=
  if P.2.2.2.2 = 0 then (if P.2.2.1 < 0 then psStop (-3) P else if P.2.2.1 < 2000 then (upd P.1 P.2.2.1.toNatClampNeg k, P.2.1, P.2.2.1 + 1, 0, P.2.2.2.2) else psStop (-3) P) else P
def psAt (P : PS) : Int32 := (P.2.2.1 - 1) * 8 + 2 * P.2.2.2.1
def psAdd (px py : Int64) (P : PS) : PS :=
  if P.2.2.2.2 = 0 then (if kPlace px = 0 then psStop (-4) P else if kPlace py = 0 then psStop (-4) P else
    if psAt P < 0 then P else if 16000 ≤ psAt P + 1 then P else if P.2.2.2.1 < 4 then
      (P.1, upd (upd P.2.1 (psAt P).toNatClampNeg px.toInt32) (psAt P + 1).toNatClampNeg py.toInt32, P.2.2.1, P.2.2.2.1 + 1, P.2.2.2.2) else P) else P
def psKind (i : Int32) (P : PS) : Int32 := if i < 0 then (-1) else if P.2.2.1 ≤ i then (-1) else if 2000 ≤ i then (-1) else P.1 i.toNatClampNeg
def psPlace (i k what : Int32) (P : PS) : Int32 :=
  if psKind i P = (-1) then 0 else if k < 0 then 0 else if k < (if psKind i P = 1 then 3 else 4) then
    (if what < 0 then 0 else if what ≤ 1 then
      (if i * 8 + 2 * k + what < 0 then 0 else if 16000 ≤ i * 8 + 2 * k + what then 0 else P.2.1 (i * 8 + 2 * k + what).toNatClampNeg) else 0) else 0
def sgSet (r : RU) (i : Int32) (g : SG) : SG :=
  ((ruX i r).toInt64, (ruY i r).toInt64, (ruX (i + 1) r).toInt64, (ruY (i + 1) r).toInt64, (ruX (i + 1) r).toInt64 - (ruX i r).toInt64, (ruY (i + 1) r).toInt64 - (ruY i r).toInt64,
    kRoot (((ruX (i + 1) r).toInt64 - (ruX i r).toInt64) * ((ruX (i + 1) r).toInt64 - (ruX i r).toInt64) + ((ruY (i + 1) r).toInt64 - (ruY i r).toInt64) * ((ruY (i + 1) r).toInt64 - (ruY i r).toInt64)),
    g.2.2.2.2.2.2.2.1, g.2.2.2.2.2.2.2.2.1, g.2.2.2.2.2.2.2.2.2.1, g.2.2.2.2.2.2.2.2.2.2)
def sgWiden (h : Int64) (g : SG) : SG :=
  (g.1, g.2.1, g.2.2.1, g.2.2.2.1, g.2.2.2.2.1, g.2.2.2.2.2.1, g.2.2.2.2.2.2.1, kRound (-g.2.2.2.2.2.1 * h) g.2.2.2.2.2.2.1, kRound (g.2.2.2.2.1 * h) g.2.2.2.2.2.2.1, kRound (g.2.2.2.2.1 * h) g.2.2.2.2.2.2.1, kRound (g.2.2.2.2.2.1 * h) g.2.2.2.2.2.2.1)
def sgCutX (u : Int64) (g : SG) : Int32 := (g.1 + kRound (g.2.2.2.2.1 * u) g.2.2.2.2.2.2.1).toInt32
def sgCutY (u : Int64) (g : SG) : Int32 := (g.2.1 + kRound (g.2.2.2.2.2.1 * u) g.2.2.2.2.2.2.1).toInt32
def tpOk (h c j m : Int32) : Int32 :=
  if h < 1 then 0 else if 4194304 < h then 0 else if c < 0 then 0 else if c ≤ 1 then (if j < 0 then 0 else if 1 < j then 0 else if m < 65536 then 0 else if m ≤ 6553600 then 1 else 0) else 0
def tpSet (h c j m : Int32) (t : TP) : TP := if tpOk h c j m = 0 then t else (h.toInt64, if c = 1 then 1 else 0, if j = 1 then 1 else 0, tpLeast m)
def tpMitre (c : Int64) (t : TP) : Int32 := if t.2.2.1 = 0 then (if c * 65536 < t.2.2.2 * t.1 * t.1 then 0 else 1) else 0
def tpReach (c : Int64) (t : TP) : Int64 := kRound (t.1 * t.1 * 65536) (t.1 * t.1 + c)
theorem sq_bi {c : Prop} [Decidable c] : sq_bo (if c then 1 else 0) := by
  split <;> exact ⟨rfl, rfl⟩
theorem sq_dbl {b : Int64} (h : 0 < b) : ¬ 2 * b = 0 := by
  intro e
  have h1 := congrArg Int64.toInt e
  rw [Int64.toInt_mul] at h1
  rw [Int64.lt_iff_toInt_lt] at h
  have h2 := Int64.toInt_lt b
  have h3 : (2 : Int64).toInt = 2 := rfl
  have h4 : (0 : Int64).toInt = 0 := rfl
  rw [h3, h4] at h1
  rw [h4] at h
  rw [Int.bmod_def] at h1
  split at h1 <;> omega
theorem psAt_even (P : PS) : (psAt P).toInt % 2 = 0 := by
  unfold psAt
  rw [Int32.toInt_add, Int32.toInt_mul, Int32.toInt_mul]
  have h3 : (8 : Int32).toInt = 8 := rfl
  have h4 : (2 : Int32).toInt = 2 := rfl
  rw [h3, h4]
  generalize (P.2.2.1 - 1).toInt = x
  generalize P.2.2.2.1.toInt = y
  have e1 : (2 : Nat) ^ 32 = 4294967296 := rfl
  rw [e1, Int.bmod_def, Int.bmod_def, Int.bmod_def]
  split <;> split <;> split <;> omega
theorem sq_p1 {i : Int32} {n : Nat} (h0 : 0 ≤ i.toInt) (he : i.toInt % 2 = 0) (h : (i + 1).toInt < (n : Int)) : i.toInt < (n : Int) := by
  have h2 := Int32.toInt_lt i
  have h6 : (i + 1).toInt = i.toInt + 1 := by
    rw [Int32.toInt_add]
    have h3 : (1 : Int32).toInt = 1 := rfl
    have e1 : (2 : Nat) ^ 32 = 4294967296 := rfl
    rw [h3, e1, Int.bmod_def]
    split <;> omega
  omega
theorem sq_p2 {i : Int32} (h0 : 0 ≤ i.toInt) (he : i.toInt % 2 = 0) : 0 ≤ (i + 1).toInt := by
  have h2 := Int32.toInt_lt i
  rw [Int32.toInt_add]
  have h3 : (1 : Int32).toInt = 1 := rfl
  have e1 : (2 : Nat) ^ 32 = 4294967296 := rfl
  rw [h3, e1, Int.bmod_def]
  split <;> omega
/-- the pieces of a segment, and of a run -/
def olSide (g : SG) (P : PS) : PS :=
  psAdd (g.1 - g.2.2.2.2.2.2.2.1) (g.2.1 - g.2.2.2.2.2.2.2.2.1) (psAdd (g.2.2.1 - g.2.2.2.2.2.2.2.1) (g.2.2.2.1 - g.2.2.2.2.2.2.2.2.1) (psAdd (g.2.2.1 + g.2.2.2.2.2.2.2.1) (g.2.2.2.1 + g.2.2.2.2.2.2.2.2.1) (psAdd (g.1 + g.2.2.2.2.2.2.2.1) (g.2.1 + g.2.2.2.2.2.2.2.2.1) (psStart 0 P))))
def olBegin (g : SG) (P : PS) : PS :=
  psAdd (g.1 + g.2.2.2.2.2.2.2.1) (g.2.1 + g.2.2.2.2.2.2.2.2.1) (psAdd (g.1 + g.2.2.2.2.2.2.2.1 - g.2.2.2.2.2.2.2.2.2.1) (g.2.1 + g.2.2.2.2.2.2.2.2.1 - g.2.2.2.2.2.2.2.2.2.2) (psAdd (g.1 - g.2.2.2.2.2.2.2.1 - g.2.2.2.2.2.2.2.2.2.1) (g.2.1 - g.2.2.2.2.2.2.2.2.1 - g.2.2.2.2.2.2.2.2.2.2) (psAdd (g.1 - g.2.2.2.2.2.2.2.1) (g.2.1 - g.2.2.2.2.2.2.2.2.1) (psStart 3 P))))
def olEnd (g : SG) (P : PS) : PS :=
  psAdd (g.2.2.1 - g.2.2.2.2.2.2.2.1) (g.2.2.2.1 - g.2.2.2.2.2.2.2.2.1) (psAdd (g.2.2.1 - g.2.2.2.2.2.2.2.1 + g.2.2.2.2.2.2.2.2.2.1) (g.2.2.2.1 - g.2.2.2.2.2.2.2.2.1 + g.2.2.2.2.2.2.2.2.2.2) (psAdd (g.2.2.1 + g.2.2.2.2.2.2.2.1 + g.2.2.2.2.2.2.2.2.2.1) (g.2.2.2.1 + g.2.2.2.2.2.2.2.2.1 + g.2.2.2.2.2.2.2.2.2.2) (psAdd (g.2.2.1 + g.2.2.2.2.2.2.2.1) (g.2.2.2.1 + g.2.2.2.2.2.2.2.2.1) (psStart 3 P))))
def olTurn (a b : SG) : Int64 := a.2.2.2.2.1 * b.2.2.2.2.2.1 - a.2.2.2.2.2.1 * b.2.2.2.2.1
def olOut (a b : SG) : Int64 := if olTurn a b ≤ 0 then 1 else -1
def olCos (a b : SG) : Int64 := a.2.2.2.2.2.2.2.1 * b.2.2.2.2.2.2.2.1 + a.2.2.2.2.2.2.2.2.1 * b.2.2.2.2.2.2.2.2.1
def olTwo (t : TP) (a b : SG) (P : PS) : PS :=
  psAdd (a.2.2.1 + olOut a b * a.2.2.2.2.2.2.2.1) (a.2.2.2.1 + olOut a b * a.2.2.2.2.2.2.2.2.1) (psAdd a.2.2.1 a.2.2.2.1 (psStart (if tpMitre (olCos a b) t = 0 then 1 else 2) P))
def olTip (t : TP) (a b : SG) (P : PS) : PS :=
  if tpMitre (olCos a b) t = 0 then P else psAdd (a.2.2.1 + olOut a b * kRound ((a.2.2.2.2.2.2.2.1 + b.2.2.2.2.2.2.2.1) * tpReach (olCos a b) t) 65536) (a.2.2.2.1 + olOut a b * kRound ((a.2.2.2.2.2.2.2.2.1 + b.2.2.2.2.2.2.2.2.1) * tpReach (olCos a b) t) 65536) P
def olJoin (t : TP) (a b : SG) (P : PS) : PS :=
  if olTurn a b = 0 then P else psAdd (a.2.2.1 + olOut a b * b.2.2.2.2.2.2.2.1) (a.2.2.2.1 + olOut a b * b.2.2.2.2.2.2.2.2.1) (olTip t a b (olTwo t a b P))
/-- a segment of a run, made wide; nothing of what the cell held before is left in it -/
def sgMk (r : RU) (i : Int32) (h : Int64) : SG := sgWiden h (sgSet r i (0, 0, 0, 0, 0, 0, 0, 0, 0, 0, 0))
theorem sgMk_eq (r : RU) (i : Int32) (h : Int64) (g : SG) : sgWiden h (sgSet r i g) = sgMk r i h := rfl
/-- the sides and joins of a run from segment i on: the pieces, and the segment that stands then -/
def olLoop (t : TP) (r : RU) : Nat → Int32 → SG → PS → PS × SG
  | 0, _, a, P => (P, a)
  | n + 1, i, a, P =>
    if ruSegs r ≤ i then (P, a) else if psGoing P = 0 then (P, a) else
    if i + 1 < ruSegs r then olLoop t r n (i + 1) (sgMk r (i + 1) t.1) (olJoin t a (sgMk r (i + 1) t.1) (olSide a P))
    else if r.2.2.2 = 0 then olLoop t r n (i + 1) a (olSide a P)
    else olLoop t r n (i + 1) (sgMk r 0 t.1) (olJoin t a (sgMk r 0 t.1) (olSide a P))
def olCapped (t : TP) (r : RU) : Int32 := if t.2.1 = 0 then 0 else if r.2.2.2 = 0 then 1 else 0
def olMake (t : TP) (r : RU) (P : PS) : PS :=
  if ruSegs r = 0 then P else
  let q := olLoop t r 2004 0 (sgMk r 0 t.1) (if olCapped t r = 0 then P else olBegin (sgMk r 0 t.1) P)
  if olCapped t r = 0 then q.1 else olEnd q.2 q.1
theorem sq_drop {n : Nat} {c : Int32} (hn : 0 < n + 1 ∧ (c.toInt ≤ 2002 → c.toInt < ((n + 1 : Nat) : Int))) (h1 : ¬ c - 1 ≤ 0) (h2 : ¬ 2002 ≤ c - 1) : 0 < n ∧ ((c - 1).toInt ≤ 2002 → (c - 1).toInt < (n : Int)) := by
  rw [Int32.le_iff_toInt_le] at h1 h2
  have h3 : (1 : Int32).toInt = 1 := rfl
  have h4 : (2002 : Int32).toInt = 2002 := rfl
  have h5 : (0 : Int32).toInt = 0 := rfl
  have h6 := Int32.toInt_lt c
  have h7 := Int32.le_toInt c
  rw [h5] at h1
  rw [h4] at h2
  rw [Int32.toInt_sub, h3, Int.bmod_def] at h1 h2 ⊢
  have hn2 := hn.2
  split at h1 <;> constructor <;> (try intro _) <;> (have h8 := hn2 (by omega)) <;> omega
theorem sq_m1 (x : Int32) : x + (-1) = x - 1 := (Int32.sub_eq_add_neg x 1).symm
theorem sq_succ {i : Int32} (h0 : 0 ≤ i.toInt) (h : i.toInt ≤ 2147483000) : (i + 1).toInt = i.toInt + 1 := by
  rw [Int32.toInt_add]
  have h3 : (1 : Int32).toInt = 1 := rfl
  rw [h3, Int.bmod_def]
  split <;> omega
theorem sq_next {i k : Int32} {n : Nat} (hi : 0 ≤ i.toInt ∧ i.toInt ≤ 2003 ∧ 2004 ≤ i.toInt + ((n + 1 : Nat) : Int)) (h : ¬ k ≤ i) (hk : k.toInt ≤ 2002) : 0 ≤ (i + 1).toInt ∧ (i + 1).toInt ≤ 2003 ∧ 2004 ≤ (i + 1).toInt + (n : Int) := by
  rw [Int32.le_iff_toInt_le] at h
  rw [sq_succ hi.1 (by omega)]
  omega
theorem sq_shr (x s : Int64) (k : Nat) (hs : (s.toBitVec.smod 64).toNat = k) : (x >>> s).toInt = x.toInt / 2 ^ k := by
  show (x.toBitVec.sshiftRight (s.toBitVec.smod 64).toNat).toInt = _
  rw [hs, BitVec.toInt_sshiftRight, Int.shiftRight_eq_div_pow]
  rfl
theorem sq_bit {n : Nat} {bit : Int64} (hm : ∃ k, n + 1 = k + 1 ∧ bit.toInt < ((4 ^ k : Nat) : Int)) (h : ¬ bit ≤ 0) : ∃ k, n = k + 1 ∧ (bit >>> ((2 : Int32).toInt64 &&& 63)).toInt < ((4 ^ k : Nat) : Int) := by
  obtain ⟨k, e, hk⟩ := hm
  have e : n = k := Nat.succ.inj e
  subst e
  rw [Int64.le_iff_toInt_le] at h
  have h4 : (0 : Int64).toInt = 0 := rfl
  rw [h4] at h
  rw [sq_shr bit ((2 : Int32).toInt64 &&& 63) 2 (by decide)]
  cases n with
  | zero => exact absurd hk (by simp; omega)
  | succ j =>
    refine ⟨j, rfl, ?_⟩
    rw [Nat.pow_succ] at hk
    have h5 : ((4 ^ j * 4 : Nat) : Int) = ((4 ^ j : Nat) : Int) * 4 := by simp
    rw [h5] at hk
    generalize ((4 ^ j : Nat) : Int) = z at hk ⊢
    have h6 : (2 : Int) ^ 2 = 4 := rfl
    rw [h6]
    omega
/-- the dashes: given, used, count, firstAt, firstLeft, firstGap -/
abbrev PT : Type := (Nat → Int32) × (Nat → Int32) × Int32 × Int32 × Int64 × Int32
def ptGiveOk (k v : Int32) : Int32 := if k < 0 then 0 else if 8 ≤ k then 0 else if kUnits v = 0 then 0 else 1
def ptGive (k v : Int32) (d : PT) : PT := if ptGiveOk k v = 0 then d else (upd d.1 k.toNatClampNeg v, d.2.1, d.2.2.1, d.2.2.2.1, d.2.2.2.2.1, d.2.2.2.2.2)
/-- the sum of the given lengths from k on -/
def ptSum (f : Nat → Int32) (m : Int32) : Nat → Int32 → Int64 → Int64
  | 0, _, z => z
  | n + 1, k, z => if m ≤ k then z else ptSum f m n (k + 1) (z + (f k.toNatClampNeg).toInt64)
def ptCopy (f : Nat → Int32) (m : Int32) : Nat → Int32 → (Nat → Int32) → (Nat → Int32)
  | 0, _, g => g
  | n + 1, k, g => if m ≤ k then g else ptCopy f m n (k + 1) (upd g k.toNatClampNeg (f k.toNatClampNeg))
/-- the whole dashes that the rest of the offset passes -/
def ptSkip (f : Nat → Int32) (m : Int32) : Nat → Int32 → Int64 → Int32 × Int64
  | 0, k, z => (k, z)
  | n + 1, k, z => if m - 1 ≤ k then (k, z) else if 7 ≤ k then (k, z) else if z < (f k.toNatClampNeg).toInt64 then (k, z) else ptSkip f m n (k + 1) (z - (f k.toNatClampNeg).toInt64)
def ptPass (off : Int32) (z : Int64) (d : PT) : PT :=
  if 0 < z then
    let q := ptSkip d.2.1 d.2.2.1 9 0 (off.toInt64 - off.toInt64 / z * z)
    (d.1, d.2.1, d.2.2.1, q.1, (d.2.1 q.1.toNatClampNeg).toInt64 - q.2, if (off.toInt64 / z * d.2.2.1.toInt64 + q.1.toInt64) &&& 1 = 1 then 1 else 0)
  else d
def ptUseOk (m off : Int32) (d : PT) : Int32 := if m < 0 then 0 else if 8 < m then 0 else if kUnits off = 0 then 0 else if m ≤ 0 then 1 else if ptSum d.1 m 9 0 0 = 0 then 0 else 1
def ptUse (m off : Int32) (d : PT) : PT := if ptUseOk m off d = 0 then d else ptPass off (ptSum d.1 m 9 0 0) (d.1, ptCopy d.1 m 9 0 d.2.1, m, d.2.2.2.1, d.2.2.2.2.1, d.2.2.2.2.2)
def ptUsed (d : PT) : Int32 := if d.2.2.1 ≤ 0 then 0 else 1
def ptBehind (i : Int32) (d : PT) : Int32 := if d.2.2.1 ≤ i + 1 then 0 else i + 1
def ptLen (i : Int32) (d : PT) : Int64 := if i < 0 then 0 else if 8 ≤ i then 0 else (d.2.1 i.toNatClampNeg).toInt64
/-- the rows: x, y, first, closed, points, count -/
abbrev LR : Type := (Nat → Int32) × (Nat → Int32) × (Nat → Int32) × (Nat → Int32) × Int32 × Int32
def lrPutR (px py : Int32) (w : LR) : Int32 := if w.2.2.2.2.1 < 0 then (-3) else if w.2.2.2.2.1 < 2000 then w.2.2.2.2.1 + 1 else (-3)
def lrPut (px py : Int32) (w : LR) : LR := if w.2.2.2.2.1 < 0 then w else if w.2.2.2.2.1 < 2000 then (upd w.1 w.2.2.2.2.1.toNatClampNeg px, upd w.2.1 w.2.2.2.2.1.toNatClampNeg py, w.2.2.1, w.2.2.2.1, w.2.2.2.2.1 + 1, w.2.2.2.2.2) else w
def lrNew (w : LR) : LR := (w.1, w.2.1, upd w.2.2.1 w.2.2.2.2.2.toNatClampNeg w.2.2.2.2.1, upd w.2.2.2.1 w.2.2.2.2.2.toNatClampNeg (vp_nar .boolean 0), w.2.2.2.2.1, w.2.2.2.2.2 + 1)
def lrBeginR (px py : Int32) (w : LR) : Int32 :=
  if kPlace px.toInt64 = 0 then (-4) else if kPlace py.toInt64 = 0 then (-4) else if 2000 ≤ w.2.2.2.2.1 then (-3) else if w.2.2.2.2.2 < 0 then (-3) else if w.2.2.2.2.2 < 2000 then lrPutR px py (lrNew w) else (-3)
def lrBegin (px py : Int32) (w : LR) : LR :=
  if kPlace px.toInt64 = 0 then w else if kPlace py.toInt64 = 0 then w else if 2000 ≤ w.2.2.2.2.1 then w else if w.2.2.2.2.2 < 0 then w else if w.2.2.2.2.2 < 2000 then lrPut px py (lrNew w) else w
def lrExtR (px py : Int32) (w : LR) : Int32 :=
  if w.2.2.2.2.2 - 1 < 0 then (-2) else if 2000 ≤ w.2.2.2.2.2 - 1 then (-2) else if w.2.2.2.1 (w.2.2.2.2.2 - 1).toNatClampNeg = 0 then (if kPlace px.toInt64 = 0 then (-4) else if kPlace py.toInt64 = 0 then (-4) else lrPutR px py w) else (-2)
def lrExt (px py : Int32) (w : LR) : LR :=
  if w.2.2.2.2.2 - 1 < 0 then w else if 2000 ≤ w.2.2.2.2.2 - 1 then w else if w.2.2.2.1 (w.2.2.2.2.2 - 1).toNatClampNeg = 0 then (if kPlace px.toInt64 = 0 then w else if kPlace py.toInt64 = 0 then w else lrPut px py w) else w
def lrShutR (w : LR) : Int32 := if w.2.2.2.2.2 - 1 < 0 then (-2) else if w.2.2.2.2.2 - 1 < 2000 then w.2.2.2.2.1 else (-2)
def lrShut (w : LR) : LR := if w.2.2.2.2.2 - 1 < 0 then w else if w.2.2.2.2.2 - 1 < 2000 then (w.1, w.2.1, w.2.2.1, upd w.2.2.2.1 (w.2.2.2.2.2 - 1).toNatClampNeg (vp_nar .boolean 1), w.2.2.2.2.1, w.2.2.2.2.2) else w
def lrEmpty (w : LR) : LR := (w.1, w.2.1, w.2.2.1, w.2.2.2.1, 0, 0)
def lrEnd (i : Int32) (w : LR) : Int32 := if w.2.2.2.2.2 ≤ i + 1 then w.2.2.2.2.1 else if 2000 ≤ i + 1 then w.2.2.2.2.1 else w.2.2.1 (i + 1).toNatClampNeg
def lrCopyL (w : LR) (z : Int32) : Nat → Int32 → RU → RU
  | 0, _, r => r
  | n + 1, i, r => if i < 0 then r else if z ≤ i then r else if 2000 ≤ i then r else lrCopyL w z n (i + 1) (ruAdd (w.1 i.toNatClampNeg) (w.2.1 i.toNatClampNeg) r)
def lrCopy (i : Int32) (w : LR) (r : RU) : RU :=
  if i < 0 then ruStart 0 r else if w.2.2.2.2.2 ≤ i then ruStart 0 r else if i < 2000 then ruDrop 2003 (lrCopyL w (lrEnd i w) 2001 (w.2.2.1 i.toNatClampNeg) (ruStart (w.2.2.2.1 i.toNatClampNeg) r)) else ruStart 0 r
/-- the walk: taken, at, left, gap -/
abbrev WK : Type := Int32 × Int32 × Int64 × Int32
def wkCount (k : WK) : WK := if k.1 < 20000 then (k.1 + 1, k.2.1, k.2.2.1, k.2.2.2) else k
def wkCountP (k : WK) (P : PS) : PS := if k.1 < 20000 then P else psStop (-3) P
def wkTake (d : PT) (k : WK) : WK := ((wkCount k).1, ptBehind (wkCount k).2.1 d, ptLen (ptBehind (wkCount k).2.1 d) d, if (wkCount k).2.2.2 = 0 then 1 else 0)
def wkDash (x y : Int32) (k : WK) (r : RU) : RU := if k.2.2.2 = 0 then ruAdd x y (ruStart 0 r) else ruStart 0 r
def wkCutR (x y : Int32) (k : WK) (r : RU) : RU := if k.2.2.2 = 0 then ruAdd x y r else r
def wkCutP (t : TP) (x y : Int32) (k : WK) (r : RU) (P : PS) : PS := if k.2.2.2 = 0 then olMake t (ruAdd x y r) P else P
/-- along one segment: gone, the walk, the pieces, the run of the dash -/
def wkPassL (t : TP) (d : PT) (w : SG) : Nat → Int32 → Int64 → WK → PS → RU → Int64 × WK × PS × RU
  | 0, _, g, k, P, r => (g, k, P, r)
  | n + 1, tn, g, k, P, r =>
    if 20000 < tn then (g, k, P, r) else if w.2.2.2.2.2.2.1 - g ≤ k.2.2.1 then (g, k, P, r) else if psGoing P = 0 then (g, k, P, r) else
    wkPassL t d w n (tn + 1) (g + k.2.2.1) (wkTake d k) (wkCountP k (wkCutP t (sgCutX (g + k.2.2.1) w) (sgCutY (g + k.2.2.1) w) k r P))
      (wkDash (sgCutX (g + k.2.2.1) w) (sgCutY (g + k.2.2.1) w) (wkTake d k) (wkCutR (sgCutX (g + k.2.2.1) w) (sgCutY (g + k.2.2.1) w) k r))
def wkPass (t : TP) (d : PT) (w : SG) (k : WK) (P : PS) (r : RU) : WK × PS × RU :=
  let q := wkPassL t d w 20002 0 0 k P r
  ((q.2.1.1, q.2.1.2.1, q.2.1.2.2.1 - (w.2.2.2.2.2.2.1 - q.1), q.2.1.2.2.2), q.2.2.1, if q.2.1.2.2.2 = 0 then ruAdd w.2.2.1.toInt32 w.2.2.2.1.toInt32 q.2.2.2 else q.2.2.2)
def sgW (r : RU) (i : Int32) : SG := sgSet r i (0, 0, 0, 0, 0, 0, 0, 0, 0, 0, 0)
def wkAlongL (t : TP) (d : PT) (r0 : RU) : Nat → Int32 → WK → PS → RU → WK × PS × RU
  | 0, _, k, P, r => (k, P, r)
  | n + 1, i, k, P, r => if ruSegs r0 ≤ i then (k, P, r) else if psGoing P = 0 then (k, P, r) else
    wkAlongL t d r0 n (i + 1) (wkPass t d (sgW r0 i) k P r).1 (wkPass t d (sgW r0 i) k P r).2.1 (wkPass t d (sgW r0 i) k P r).2.2
/-- a run is fit to be used -/
def ruOk (r : RU) : Prop := sq_bo r.2.2.2 ∧ 0 ≤ r.2.2.1.toInt ∧ r.2.2.1.toInt ≤ 2002
theorem ruOk.start {r : RU} {v : Int32} (hv : sq_bo v) : ruOk (ruStart v r) := ⟨hv, (by decide : (0 : Int) ≤ (0 : Int32).toInt), (by decide : (0 : Int32).toInt ≤ 2002)⟩
theorem ruOk.add {r : RU} {x y : Int32} (h : ruOk r) : ruOk (ruAdd x y r) := by
  unfold ruAdd
  split
  · exact h
  · split
    · exact h
    · split
      · next h1 h2 h3 =>
        refine ⟨h.1, ?_⟩
        show 0 ≤ (r.2.2.1 + 1).toInt ∧ (r.2.2.1 + 1).toInt ≤ 2002
        have h4 := h.2
        rw [Int32.lt_iff_toInt_lt] at h3
        have h5 : (2002 : Int32).toInt = 2002 := rfl
        rw [sq_succ h4.1 (by omega)]
        omega
      · exact h
theorem sq_pred {i : Int32} (h : -2147483648 < i.toInt) : (i - 1).toInt = i.toInt - 1 := by
  have h2 := Int32.toInt_lt i
  rw [Int32.toInt_sub]
  have h3 : (1 : Int32).toInt = 1 := rfl
  rw [h3, Int.bmod_def]
  split <;> omega
theorem ruOk.drop {n : Nat} : ∀ {r : RU}, ruOk r → ruOk (ruDrop n r) := by
  induction n with
  | zero => exact fun h => h
  | succ n ih =>
    intro r h
    unfold ruDrop
    split
    · exact h
    · split
      · exact h
      · split
        · exact h
        · split
          · split
            · next h1 h2 h3 h4 h5 =>
              apply ih
              refine ⟨h.1, ?_⟩
              show 0 ≤ (r.2.2.1 - 1).toInt ∧ (r.2.2.1 - 1).toInt ≤ 2002
              have h6 := h.2
              have h7 := sq_lo4 h2
              rw [sq_pred (by omega)] at h7 ⊢
              omega
            · exact h
          · exact h
theorem ruOk.segs {r : RU} (h : ruOk r) : (ruSegs r).toInt ≤ 2002 := by
  unfold ruSegs
  have h6 := h.2
  split
  · split
    · rw [sq_pred (by omega)]; omega
    · exact h6.2
  · decide
theorem sq_next7 {i : Int32} {n : Nat} (hi : 0 ≤ i.toInt ∧ i.toInt ≤ 7 ∧ 9 ≤ i.toInt + ((n + 1 : Nat) : Int)) (h : ¬ 7 ≤ i) : 0 ≤ (i + 1).toInt ∧ (i + 1).toInt ≤ 7 ∧ 9 ≤ (i + 1).toInt + (n : Int) := by
  rw [Int32.le_iff_toInt_le] at h
  have h5 : (7 : Int32).toInt = 7 := rfl
  rw [sq_succ hi.1 (by omega)]
  omega
theorem sq_pos {z : Int64} (h : 0 < z) : ¬ z = 0 := fun e => by
  subst e
  exact absurd h (by decide)
theorem sq_next8 {i m : Int32} {n : Nat} (hi : 0 ≤ i.toInt ∧ i.toInt ≤ 8 ∧ 9 ≤ i.toInt + ((n + 1 : Nat) : Int)) (h : ¬ m ≤ i) (hm : ¬ 8 < m) : 0 ≤ (i + 1).toInt ∧ (i + 1).toInt ≤ 8 ∧ 9 ≤ (i + 1).toInt + (n : Int) := by
  rw [Int32.le_iff_toInt_le] at h
  rw [Int32.lt_iff_toInt_lt] at hm
  have h5 : (8 : Int32).toInt = 8 := rfl
  rw [sq_succ hi.1 (by omega)]
  omega
theorem sq_in8 {i m : Int32} {n : Nat} (hi : 0 ≤ i.toInt ∧ i.toInt ≤ 8 ∧ 9 ≤ i.toInt + ((n + 1 : Nat) : Int)) (h : ¬ m ≤ i) (hm : ¬ 8 < m) : vp_in i 8 := by
  rw [Int32.le_iff_toInt_le] at h
  rw [Int32.lt_iff_toInt_lt] at hm
  have h5 : (8 : Int32).toInt = 8 := rfl
  exact sq_in hi.1 (by omega)
theorem sq_next20 {j : Int32} {n : Nat} (hi : 0 < n + 1 ∧ (0 ≤ j.toInt → 2001 ≤ j.toInt + ((n + 1 : Nat) : Int))) (h0 : ¬ j < 0) (h : ¬ 2000 ≤ j) : 0 < n ∧ (0 ≤ (j + 1).toInt → 2001 ≤ (j + 1).toInt + (n : Int)) := by
  have h1 := sq_lo1 h0
  rw [Int32.le_iff_toInt_le] at h
  have h5 : (2000 : Int32).toInt = 2000 := rfl
  have h6 := hi.2 h1
  rw [sq_succ h1 (by omega)]
  omega
theorem sq_p3 {i : Int32} (h0 : ¬ i < 0) (h : i < 2000) : 0 ≤ (i + 1).toInt := by
  have h1 := sq_lo1 h0
  rw [Int32.lt_iff_toInt_lt] at h
  have h5 : (2000 : Int32).toInt = 2000 := rfl
  rw [sq_succ h1 (by omega)]
  omega
def wkFirst (d : PT) (k : WK) : WK := (k.1, d.2.2.2.1, d.2.2.2.2.1, d.2.2.2.2.2)
def wkAlong (t : TP) (d : PT) (r0 : RU) (k : WK) (P : PS) (r : RU) : WK × PS × RU :=
  if ruSegs r0 = 0 then (k, P, r) else
  let q := wkAlongL t d r0 2004 0 (wkCount (wkFirst d k)) (wkCountP (wkFirst d k) P) (wkDash (ruX 0 r0) (ruY 0 r0) (wkCount (wkFirst d k)) r)
  (q.1, if q.1.2.2.2 = 0 then olMake t q.2.2 q.2.1 else q.2.1, q.2.2)
/-- all rows from one on: the walk, the pieces, the run of the dash, the run -/
def skRows (t : TP) (d : PT) (w : LR) : Nat → Int32 → WK → PS → RU → RU → WK × PS × RU × RU
  | 0, _, k, P, rd, rr => (k, P, rd, rr)
  | n + 1, i, k, P, rd, rr => if w.2.2.2.2.2 ≤ i then (k, P, rd, rr) else if psGoing P = 0 then (k, P, rd, rr) else
    if ptUsed d = 0 then skRows t d w n (i + 1) k (olMake t (lrCopy i w rr) P) rd (lrCopy i w rr)
    else skRows t d w n (i + 1) (wkAlong t d (lrCopy i w rr) k P rd).1 (wkAlong t d (lrCopy i w rr) k P rd).2.1 (wkAlong t d (lrCopy i w rr) k P rd).2.2 (lrCopy i w rr)
def wkReset (k : WK) : WK := (0, k.2.1, k.2.2.1, k.2.2.2)
def skAll (t : TP) (d : PT) (w : LR) (k : WK) (P : PS) (rd rr : RU) : WK × PS × RU × RU := skRows t d w 2001 0 (wkReset k) (psEmpty P) rd rr
def skR (q : WK × PS × RU × RU) : Int32 := if psGoing q.2.1 = 0 then q.2.1.2.2.2.2 else q.2.1.2.2.1
def skK (q : WK × PS × RU × RU) : WK := if psGoing q.2.1 = 0 then wkReset q.1 else q.1
def skP (q : WK × PS × RU × RU) : PS := if psGoing q.2.1 = 0 then psEmpty q.2.1 else q.2.1
theorem wkCount_gap (k : WK) : (wkCount k).2.2.2 = k.2.2.2 := by
  unfold wkCount
  split <;> rfl
theorem ruOk.dash {x y : Int32} {k : WK} {r : RU} : ruOk (wkDash x y k r) := by
  unfold wkDash
  split
  · exact ruOk.add (ruOk.start ⟨rfl, rfl⟩)
  · exact ruOk.start ⟨rfl, rfl⟩
theorem wkPassL_ok {t : TP} {d : PT} {w : SG} {n : Nat} : ∀ {tn : Int32} {g : Int64} {k : WK} {P : PS} {r : RU}, sq_bo k.2.2.2 → ruOk r → sq_bo (wkPassL t d w n tn g k P r).2.1.2.2.2 ∧ ruOk (wkPassL t d w n tn g k P r).2.2.2 := by
  induction n with
  | zero => exact fun h1 h2 => ⟨h1, h2⟩
  | succ n ih =>
    intro tn g k P r h1 h2
    unfold wkPassL
    split
    · exact ⟨h1, h2⟩
    · split
      · exact ⟨h1, h2⟩
      · split
        · exact ⟨h1, h2⟩
        · exact ih sq_bi ruOk.dash
theorem wkPass_ok {t : TP} {d : PT} {w : SG} {k : WK} {P : PS} {r : RU} (h1 : sq_bo k.2.2.2) (h2 : ruOk r) : sq_bo (wkPass t d w k P r).1.2.2.2 ∧ ruOk (wkPass t d w k P r).2.2 := by
  have h := wkPassL_ok (t := t) (d := d) (w := w) (n := 20002) (tn := 0) (g := 0) (P := P) h1 h2
  unfold wkPass
  refine ⟨h.1, ?_⟩
  dsimp only
  split
  · exact h.2.add
  · exact h.2
theorem lrCopyL_ok {w : LR} {z : Int32} {n : Nat} : ∀ {i : Int32} {r : RU}, ruOk r → ruOk (lrCopyL w z n i r) := by
  induction n with
  | zero => exact fun h => h
  | succ n ih =>
    intro i r h
    unfold lrCopyL
    split
    · exact h
    · split
      · exact h
      · split
        · exact h
        · exact ih h.add
theorem lrCopy_ok {w : LR} {i : Int32} {r : RU} (hcl : ∀ j, sq_bo (w.2.2.2.1 j)) : ruOk (lrCopy i w r) := by
  unfold lrCopy
  split
  · exact ruOk.start ⟨rfl, rfl⟩
  · split
    · exact ruOk.start ⟨rfl, rfl⟩
    · split
      · exact (lrCopyL_ok (ruOk.start (hcl _))).drop
      · exact ruOk.start ⟨rfl, rfl⟩
theorem sq_nextN {i k : Int32} {n : Nat} (N : Nat) (hN : N ≤ 2147000000) (hi : 0 ≤ i.toInt ∧ i.toInt ≤ (N : Int) + 1 ∧ (N : Int) + 2 ≤ i.toInt + ((n + 1 : Nat) : Int)) (h : i.toInt ≤ N) : 0 ≤ (i + 1).toInt ∧ (i + 1).toInt ≤ (N : Int) + 1 ∧ (N : Int) + 2 ≤ (i + 1).toInt + (n : Int) := by
  rw [sq_succ hi.1 (by omega)]
  omega
theorem sq_nlt {i M : Int32} (h : ¬ M < i) : i.toInt ≤ M.toInt := by
  rw [Int32.lt_iff_toInt_lt] at h
  omega
theorem sq_nle2 {i M : Int32} {z : Int} (h : ¬ M ≤ i) (hM : M.toInt ≤ z + 1) : i.toInt ≤ z := by
  rw [Int32.le_iff_toInt_le] at h
  omega
theorem wkPassL_way {t : TP} {d : PT} {q : RU} {j : Int32} {w : SG} {n : Nat} : ∀ {tn : Int32} {g : Int64} {k : WK} {P : PS} {r : RU}, wkPassL t d (sgSet q j w) n tn g k P r = wkPassL t d (sgW q j) n tn g k P r := by
  induction n with
  | zero => exact rfl
  | succ n ih =>
    intro tn g k P r
    unfold wkPassL
    rw [ih]
    rfl
theorem wkPass_way {t : TP} {d : PT} {q : RU} {j : Int32} {w : SG} {k : WK} {P : PS} {r : RU} : wkPass t d (sgSet q j w) k P r = wkPass t d (sgW q j) k P r := by
  unfold wkPass
  rw [wkPassL_way]
  rfl
theorem tpOk_bo (h k j m : Int32) : sq_bo (tpOk h k j m) := by
  unfold tpOk
  repeat' split
  all_goals exact ⟨rfl, rfl⟩
theorem ptGiveOk_bo (k v : Int32) : sq_bo (ptGiveOk k v) := by
  unfold ptGiveOk
  repeat' split
  all_goals exact ⟨rfl, rfl⟩
theorem ptUseOk_bo (k v : Int32) (d : PT) : sq_bo (ptUseOk k v d) := by
  unfold ptUseOk
  repeat' split
  all_goals exact ⟨rfl, rfl⟩
theorem sq_cI {D : va_G} {cl : List vw_C} {cI cZ cB cJ cA : ClassId} {s : State} (h : va_K D cl (sq_T cI cZ cB cJ ++ [(cA, .int)]) s) : cI = cA := by
  have h1 : s.vm.findClass ("[" ++ FieldType.int.toString) = some cA := (h.2 4 (cA, .int) rfl).2
  have h2 : s.vm.findClass ("[" ++ FieldType.int.toString) = some cI := (h.2 0 (cI, .int) rfl).2
  exact Option.some.inj (h2.symm.trans h1)
theorem sq_cZ {D : va_G} {cl : List vw_C} {cI cZ cB cJ cA : ClassId} {s : State} (h : va_K D cl (sq_T cI cZ cB cJ ++ [(cA, .boolean)]) s) : cZ = cA := by
  have h1 : s.vm.findClass ("[" ++ FieldType.boolean.toString) = some cA := (h.2 4 (cA, .boolean) rfl).2
  have h2 : s.vm.findClass ("[" ++ FieldType.boolean.toString) = some cZ := (h.2 1 (cZ, .boolean) rfl).2
  exact Option.some.inj (h2.symm.trans h1)
theorem sq_cB {D : va_G} {cl : List vw_C} {cI cZ cB cJ cA : ClassId} {s : State} (h : va_K D cl (sq_T cI cZ cB cJ ++ [(cA, .byte)]) s) : cB = cA := by
  have h1 : s.vm.findClass ("[" ++ FieldType.byte.toString) = some cA := (h.2 4 (cA, .byte) rfl).2
  have h2 : s.vm.findClass ("[" ++ FieldType.byte.toString) = some cB := (h.2 2 (cB, .byte) rfl).2
  exact Option.some.inj (h2.symm.trans h1)
theorem sq_cJ {D : va_G} {cl : List vw_C} {cI cZ cB cJ cA : ClassId} {s : State} (h : va_K D cl (sq_T cI cZ cB cJ ++ [(cA, .long)]) s) : cJ = cA := by
  have h1 : s.vm.findClass ("[" ++ FieldType.long.toString) = some cA := (h.2 4 (cA, .long) rfl).2
  have h2 : s.vm.findClass ("[" ++ FieldType.long.toString) = some cJ := (h.2 3 (cJ, .long) rfl).2
  exact Option.some.inj (h2.symm.trans h1)
section sqNew
variable {p : Program} {l : Launch} {e : Env} {R : Room} {s : State} {m : MethodId} {args : Array Value} {below : List Frame} {meth : Method} {c : Code} {H : Heap} {locs : List Loc} {cells slots : Nat} {Q : State → Prop} {cc : ByteArray} {pc : Nat} {ls : Array Slot} {rest : List Value} {D : va_G} {cl : List vw_C} {A : Nat → Prop} {ws : va_W} {H0 : Heap} {cI cZ cB cJ : ClassId}
theorem sq_newI (hexec : p.tables.exec = Jvm.exec) (hb : c.code = cc) (harr : (Cond.arrayClass .int).before args s = true) (hK : va_K D cl (sq_T cI cZ cB cJ) s) (hP : va_P D cl ws H) (hD : va_D A ws) (hS : va_S A H0 H locs) (hA : ∀ q, H0.size ≤ q → A q) {n : Int32} {N0 : Nat} (hn : ¬ n < 0) (hN : n.toNatClampNeg = N0) (hbytes : N0 * componentBytes .int ≤ 536870912) (hcells : cells + 1 ≤ R.cells) (hslots : slots + N0 ≤ R.slots) (hdg : decode cc pc = .ok (.newarray .int, 2))
    (kk : ∀ (q : Nat) (H1 : Heap), va_P D cl (ws ++ [(q, .inl (cI, N0, .inl (fun _ => 0)))]) H1 → va_D A (ws ++ [(q, .inl (cI, N0, .inl (fun _ => 0)))]) → va_S A H0 H1 locs → W p l e R s m args below meth c H1 locs (cells + 1) (slots + N0) Q (F0 m (pc + 2) ls (.ref q :: rest))) : W p l e R s m args below meth c H locs cells slots Q (F0 m pc ls (.int n :: rest)) := by
  refine va_newa (atype := .int) (ty := .int) (a0 := (N0, .inl (fun _ => 0))) hexec hb harr rfl hK hP hD hS hA (fun _ => rfl) hn hN hbytes hcells hslots hdg (fun q cA H1 hK1 hP1 hD1 hS1 => ?_)
  have e1 := sq_cI hK1
  subst e1
  exact kk q H1 hP1 hD1 hS1
theorem sq_newZ (hexec : p.tables.exec = Jvm.exec) (hb : c.code = cc) (harr : (Cond.arrayClass .boolean).before args s = true) (hK : va_K D cl (sq_T cI cZ cB cJ) s) (hP : va_P D cl ws H) (hD : va_D A ws) (hS : va_S A H0 H locs) (hA : ∀ q, H0.size ≤ q → A q) {n : Int32} {N0 : Nat} (hn : ¬ n < 0) (hN : n.toNatClampNeg = N0) (hbytes : N0 * componentBytes .boolean ≤ 536870912) (hcells : cells + 1 ≤ R.cells) (hslots : slots + N0 ≤ R.slots) (hdg : decode cc pc = .ok (.newarray .boolean, 2))
    (kk : ∀ (q : Nat) (H1 : Heap), va_P D cl (ws ++ [(q, .inl (cZ, N0, .inl (fun _ => 0)))]) H1 → va_D A (ws ++ [(q, .inl (cZ, N0, .inl (fun _ => 0)))]) → va_S A H0 H1 locs → W p l e R s m args below meth c H1 locs (cells + 1) (slots + N0) Q (F0 m (pc + 2) ls (.ref q :: rest))) : W p l e R s m args below meth c H locs cells slots Q (F0 m pc ls (.int n :: rest)) := by
  refine va_newa (atype := .boolean) (ty := .boolean) (a0 := (N0, .inl (fun _ => 0))) hexec hb harr rfl hK hP hD hS hA (fun _ => rfl) hn hN hbytes hcells hslots hdg (fun q cA H1 hK1 hP1 hD1 hS1 => ?_)
  have e1 := sq_cZ hK1
  subst e1
  exact kk q H1 hP1 hD1 hS1
theorem sq_newB (hexec : p.tables.exec = Jvm.exec) (hb : c.code = cc) (harr : (Cond.arrayClass .byte).before args s = true) (hK : va_K D cl (sq_T cI cZ cB cJ) s) (hP : va_P D cl ws H) (hD : va_D A ws) (hS : va_S A H0 H locs) (hA : ∀ q, H0.size ≤ q → A q) {n : Int32} {N0 : Nat} (hn : ¬ n < 0) (hN : n.toNatClampNeg = N0) (hbytes : N0 * componentBytes .byte ≤ 536870912) (hcells : cells + 1 ≤ R.cells) (hslots : slots + N0 ≤ R.slots) (hdg : decode cc pc = .ok (.newarray .byte, 2))
    (kk : ∀ (q : Nat) (H1 : Heap), va_P D cl (ws ++ [(q, .inl (cB, N0, .inl (fun _ => 0)))]) H1 → va_D A (ws ++ [(q, .inl (cB, N0, .inl (fun _ => 0)))]) → va_S A H0 H1 locs → W p l e R s m args below meth c H1 locs (cells + 1) (slots + N0) Q (F0 m (pc + 2) ls (.ref q :: rest))) : W p l e R s m args below meth c H locs cells slots Q (F0 m pc ls (.int n :: rest)) := by
  refine va_newa (atype := .byte) (ty := .byte) (a0 := (N0, .inl (fun _ => 0))) hexec hb harr rfl hK hP hD hS hA (fun _ => rfl) hn hN hbytes hcells hslots hdg (fun q cA H1 hK1 hP1 hD1 hS1 => ?_)
  have e1 := sq_cB hK1
  subst e1
  exact kk q H1 hP1 hD1 hS1
theorem sq_newJ (hexec : p.tables.exec = Jvm.exec) (hb : c.code = cc) (harr : (Cond.arrayClass .long).before args s = true) (hK : va_K D cl (sq_T cI cZ cB cJ) s) (hP : va_P D cl ws H) (hD : va_D A ws) (hS : va_S A H0 H locs) (hA : ∀ q, H0.size ≤ q → A q) {n : Int32} {N0 : Nat} (hn : ¬ n < 0) (hN : n.toNatClampNeg = N0) (hbytes : N0 * componentBytes .long ≤ 536870912) (hcells : cells + 1 ≤ R.cells) (hslots : slots + N0 ≤ R.slots) (hdg : decode cc pc = .ok (.newarray .long, 2))
    (kk : ∀ (q : Nat) (H1 : Heap), va_P D cl (ws ++ [(q, .inl (cJ, N0, .inr (.inl (fun _ => 0))))]) H1 → va_D A (ws ++ [(q, .inl (cJ, N0, .inr (.inl (fun _ => 0))))]) → va_S A H0 H1 locs → W p l e R s m args below meth c H1 locs (cells + 1) (slots + N0) Q (F0 m (pc + 2) ls (.ref q :: rest))) : W p l e R s m args below meth c H locs cells slots Q (F0 m pc ls (.int n :: rest)) := by
  refine va_newa (atype := .long) (ty := .long) (a0 := (N0, .inr (.inl (fun _ => 0)))) hexec hb harr rfl hK hP hD hS hA (fun _ => rfl) hn hN hbytes hcells hslots hdg (fun q cA H1 hK1 hP1 hD1 hS1 => ?_)
  have e1 := sq_cJ hK1
  subst e1
  exact kk q H1 hP1 hD1 hS1
end sqNew
