/-- a row of ints, of longs, of booleans, of references at a -/
abbrev ab_I (G : sv_G) (h : sv_h) (a n : Nat) (f : Nat → Int32) : Prop := h a = some (.inl (G.2.2.1 0, n, .inl f))
abbrev ab_J (G : sv_G) (h : sv_h) (a n : Nat) (f : Nat → Int64) : Prop := h a = some (.inl (G.2.2.1 1, n, .inr (.inl f)))
abbrev ab_Z (G : sv_G) (h : sv_h) (a n : Nat) (f : Nat → Int32) : Prop := h a = some (.inl (G.2.2.1 2, n, .inl f))
abbrev ab_Q (G : sv_G) (h : sv_h) (a t n : Nat) (f : Nat → Option Nat) : Prop := h a = some (.inl (G.2.2.1 t, n, .inr (.inr (.inr (.inr f)))))
/-- the corner behind i of n -/
def gm_aft (n i : Nat) : Nat := if i + 1 < n then i + 1 else 0
def gm_bef (n i : Nat) : Nat := if i = 0 then n - 1 else i - 1
def gm_min (a b : Int32) : Int32 := if a ≤ b then a else b
def gm_max (a b : Int32) : Int32 := if a ≤ b then b else a
/-- sides i and j have a point in common, their boxes say -/
def gm_touch (n : Nat) (X Y : Nat → Int32) (i j : Nat) : Prop :=
  gm_min (X i) (X (gm_aft n i)) ≤ gm_max (X j) (X (gm_aft n j)) ∧ gm_min (X j) (X (gm_aft n j)) ≤ gm_max (X i) (X (gm_aft n i)) ∧
  gm_min (Y i) (Y (gm_aft n i)) ≤ gm_max (Y j) (Y (gm_aft n j)) ∧ gm_min (Y j) (Y (gm_aft n j)) ≤ gm_max (Y i) (Y (gm_aft n i))
def gm_closes (n : Nat) (X Y : Nat → Int32) : Prop := 4 ≤ n ∧ ¬ (X 0 = X (n - 1) ↔ Y 0 = Y (n - 1))
def gm_alt (n : Nat) (X : Nat → Int32) : Prop := ∀ i, i < n → ¬ (X i = X (gm_aft n i) ↔ X (gm_aft n i) = X (gm_aft n (gm_aft n i)))
def gm_free (n : Nat) (X Y : Nat → Int32) : Prop := ∀ i j, i + 2 ≤ j → j < n → gm_aft n j ≠ i → ¬ gm_touch n X Y i j
/-- a right polygon -/
def gm_right (n : Nat) (X Y : Nat → Int32) : Prop := gm_closes n X Y ∧ gm_alt n X ∧ gm_free n X Y
def gm_sum (n : Nat) (X Y : Nat → Int32) : Nat → Int64
  | 0 => 0
  | i + 1 => gm_sum n X Y i + (X i).toInt64 * (Y (gm_aft n i) - Y i).toInt64
def gm_left (n : Nat) (X Y : Nat → Int32) : Bool := decide (0 < gm_sum n X Y n)
def gm_area (n : Nat) (X Y : Nat → Int32) : Int32 := (if gm_left n X Y then gm_sum n X Y n else - gm_sum n X Y n).toInt32
def gm_head (n : Nat) (X Y : Nat → Int32) (i : Nat) : Int32 :=
  if X i = X (gm_aft n i) then (if Y i < Y (gm_aft n i) then 1 else 3) else (if X i < X (gm_aft n i) then 0 else 2)
def gm_face (n : Nat) (X Y : Nat → Int32) (i : Nat) : Int32 := (gm_head n X Y i + (if gm_left n X Y then 3 else 1)) &&& 3
def gm_outer (n : Nat) (X Y : Nat → Int32) (i : Nat) : Int32 :=
  if decide ((gm_head n X Y i - gm_head n X Y (gm_bef n i)) &&& 3 = 1) = gm_left n X Y then (if gm_left n X Y then gm_face n X Y (gm_bef n i) else gm_face n X Y i) else -1
/-- what the class keeps of a polygon beside its corners -/
def ab_set (n : Nat) (X Y : Nat → Int32) (rt ar : Int32) (ff fo : Nat → Int32) : Prop :=
  (gm_right n X Y → rt = 1 ∧ ar = gm_area n X Y ∧ ∀ i, i < n → ff i = gm_face n X Y i ∧ fo i = gm_outer n X Y i) ∧ (¬ gm_right n X Y → rt = 0)

/-- a polygon of the class at a -/
def ab_poly (G : sv_G) (h : sv_h) (a : Nat) (hm ly : Int32) (n : Nat) (vo : Int32) (X Y : Nat → Int32) : Prop := ∃ (rt ar : Int32) (fx fy ff fo : Nat → Int32), h a = some (.inr (3, [.int hm, .int ly, .ref (a + 1), .ref (a + 2), .int (nI n), .int vo, .int rt, .int ar, .ref (a + 3), .ref (a + 4)])) ∧ ab_I G h (a + 1) 16 fx ∧ ab_I G h (a + 2) 16 fy ∧ ab_I G h (a + 3) 16 ff ∧ ab_I G h (a + 4) 16 fo ∧ (∀ i, i < n → fx i = X i ∧ fy i = Y i) ∧ ab_set n X Y rt ar ff fo
/-- the class's layout: so many layers, cells, polygons, places; sizes of polygons; tables (0 home, 1 layer, 2 volts of a polygon; 3 holder, 4 held cell, 5 x, 6 y, 7 turn of a place); corners' x (0) and y (1); addresses of polygons and of moves -/
def ab_Lay (G : sv_G) (h : sv_h) (b : Nat) (k : Int32) (nc np pl : Nat) (sz : Nat → Nat) (t : Nat → Nat → Int32) (u : Nat → Nat → Nat → Int32) (pa ma : Nat → Nat) : Prop :=
  h (b + 1) = some (.inr (1, [.int k, .int (nI nc), .ref (b + 2), .int (nI np), .ref (b + 3), .ref (b + 4), .ref (b + 5), .int (nI pl), .ref (b + 6), .ref (b + 7)])) ∧ (∃ f, ab_Q G h (b + 2) 4 64 f ∧ ∀ p, p < np → f p = some (pa p)) ∧ (∃ f, ab_I G h (b + 3) 32 f ∧ ∀ i, i < pl → f i = t 3 i) ∧ (∃ f, ab_I G h (b + 4) 32 f ∧ ∀ i, i < pl → f i = t 4 i) ∧ (∃ f, ab_Q G h (b + 5) 3 32 f ∧ ∀ i, i < pl → f i = some (ma i)) ∧ (∃ f, ab_I G h (b + 6) 16 f) ∧ (∃ f, ab_I G h (b + 7) 16 f) ∧
  (∀ p, p < np → ab_poly G h (pa p) (t 0 p) (t 1 p) (sz p) (t 2 p) (u 0 p) (u 1 p)) ∧ (∀ i, i < pl → h (ma i) = some (.inr (2, [.int (if t 7 i < 4 then 0 else 1), .int (t 7 i &&& 3), .int (t 5 i), .int (t 6 i)])))
/-- where polygons and moves of places lie -/
def ab_ad (b np pl z : Nat) (pa ma : Nat → Nat) : Prop := b + 262 ≤ z ∧ (∀ p, p < np → b + 262 ≤ pa p ∧ pa p + 5 ≤ z) ∧ (∀ i, i < pl → b + 262 ≤ ma i ∧ ma i < z) ∧ (∀ p q, p < q → q < np → pa p + 5 ≤ pa q) ∧ ∀ p i, p < np → i < pl → ma i < pa p ∨ pa p + 5 ≤ ma i
/-- the model's layout -/
def ab_MLay (G : sv_G) (h : sv_h) (b : Nat) (nc np pl : Nat) (sz : Nat → Nat) (t : Nat → Nat → Int32) (u : Nat → Nat → Nat → Int32) : Prop :=
  (∃ f : Nat → Int32, ab_I G h (b + 221) 64 f ∧ ∀ p, p < np → f p = t 0 p) ∧ (∃ f : Nat → Int32, ab_I G h (b + 222) 64 f ∧ ∀ p, p < np → f p = t 1 p) ∧ (∃ f : Nat → Int64, ab_J G h (b + 223) 64 f ∧ ∀ p, p < np → f p = (t 2 p).toInt64) ∧ (∃ f : Nat → Int32, ab_I G h (b + 224) 64 f ∧ ∀ p, p < np → f p = nI (sz p)) ∧ (∃ f : Nat → Int64, ab_J G h (b + 225) 1024 f ∧ ∀ p i, p < np → i < sz p → f (16 * p + i) = (u 0 p i).toInt64) ∧ (∃ f : Nat → Int64, ab_J G h (b + 226) 1024 f ∧ ∀ p i, p < np → i < sz p → f (16 * p + i) = (u 1 p i).toInt64) ∧ (∃ f : Nat → Int32, ab_I G h (b + 227) 32 f ∧ ∀ i, i < pl → f i = t 3 i) ∧ (∃ f : Nat → Int32, ab_I G h (b + 228) 32 f ∧ ∀ i, i < pl → f i = t 4 i) ∧ (∃ f : Nat → Int64, ab_J G h (b + 229) 32 f ∧ ∀ i, i < pl → f i = (t 5 i).toInt64) ∧ (∃ f : Nat → Int64, ab_J G h (b + 230) 32 f ∧ ∀ i, i < pl → f i = (t 6 i).toInt64) ∧ (∃ f : Nat → Int32, ab_I G h (b + 231) 32 f ∧ ∀ i, i < pl → f i = t 7 i)
/-- x is a coordinate -/
def ab_co (x : Int32) : Prop := (-10000 : Int32) ≤ x ∧ x ≤ 10000
/-- what holds of every layout -/
def ab_ok (nc np pl : Nat) (sz : Nat → Nat) (t : Nat → Nat → Int32) (u : Nat → Nat → Nat → Int32) : Prop :=
  nc ≤ 16 ∧ np ≤ 64 ∧ pl ≤ 32 ∧
  (∀ p, p < np → sz p ≤ 16 ∧ (∃ c, c < nc ∧ t 0 p = nI c) ∧ (-1000000 : Int32) ≤ t 2 p ∧ t 2 p ≤ 1000000 ∧ (∀ i, i < sz p → ab_co (u 0 p i) ∧ ab_co (u 1 p i)) ∧ ∀ i, i + 1 < sz p → ¬ (u 0 p (i + 1) = u 0 p i ↔ u 1 p (i + 1) = u 1 p i)) ∧
  (∀ i, i < pl → (∃ c, c < nc ∧ t 3 i = nI c) ∧ (∃ c, c < nc ∧ t 4 i = nI c) ∧ ab_co (t 5 i) ∧ ab_co (t 6 i) ∧ 0 ≤ t 7 i ∧ t 7 i < 8) ∧
  ∃ rk : Int32 → Nat, ∀ i, i < pl → rk (t 4 i) < rk (t 3 i)
/-- the tape, both sides -/
def ab_Tape (G : sv_G) (h : sv_h) (b n : Nat) (tp : Nat → Int32) : Prop := n ≤ 600 ∧ h (b + 8) = some (.inr (7, [.ref (b + 9), .int (nI n)])) ∧ (∃ f, ab_I G h (b + 9) 600 f ∧ ∀ i, i < n → f i = tp i) ∧ ∀ i, i < n → tp i = 10 ∨ (32 ≤ tp i ∧ tp i ≤ 126)
def ab_MTape (G : sv_G) (h : sv_h) (b n : Nat) (tp : Nat → Int32) : Prop := ∃ f, ab_I G h (b + 232) 600 f ∧ ∀ i, i < n → f i = tp i
/-- a row of twenty rules at A, its rules from q on -/
def ab_rows (G : sv_G) (h : sv_h) (A q : Nat) : Prop := ∃ f : Nat → Option Nat, ab_Q G h A 5 20 f ∧ ∀ j, j < 20 → f j = some (q + j) ∧ ∃ (n0 : Int64) (kd : Nat) (x1 x2 x3 x4 x5 x6 : Int32), kd < 11 ∧ h (q + j) = some (.inr (5, [.long n0, .ref (G.2.2.2.2.1 kd), .int x1, .int x2, .int x3, .int x4, .int x5, .int x6]))
/-- the class's rules: so many; their tables (0 kind, 1 and 2 layers, 3 limit, 4 run, 5 volt, 6 end) -/
def ab_Rule (G : sv_G) (h : sv_h) (q n : Nat) (r : Nat → Nat → Int32) : Prop := n ≤ 20 ∧ ∀ i, i < n → ∃ (nm : Int64) (kd : Nat), kd < 11 ∧ r 0 i = nI kd ∧ h (q + i) = some (.inr (5, [.long nm, .ref (G.2.2.2.2.1 kd), .int (r 1 i), .int (r 2 i), .int (r 3 i), .int (r 4 i), .int (r 5 i), .int (r 6 i)]))
/-- a reader at rest -/
def ab_Rdr (G : sv_G) (h : sv_h) (b A : Nat) (k : Int32) : Prop := ∃ (x3 x4 x5 x6 x7 : Int32) (x8 : Int64), h (b + 10) = some (.inr (4, [.ref (b + 8), .int k, .ref A, .int x3, .int x4, .int x5, .int x6, .int x7, .long x8]))
/-- the model's rules -/
def ab_MRule (G : sv_G) (h : sv_h) (b n : Nat) (r : Nat → Nat → Int32) : Prop :=
  (∃ f : Nat → Int32, ab_I G h (b + 233) 40 f ∧ ∀ i, i < n → f i = r 0 i) ∧ (∃ f : Nat → Int32, ab_I G h (b + 234) 40 f ∧ ∀ i, i < n → f i = r 1 i) ∧ (∃ f : Nat → Int32, ab_I G h (b + 235) 40 f ∧ ∀ i, i < n → f i = r 2 i) ∧ (∃ f : Nat → Int64, ab_J G h (b + 236) 40 f ∧ ∀ i, i < n → f i = (r 3 i).toInt64) ∧ (∃ f : Nat → Int64, ab_J G h (b + 237) 40 f ∧ ∀ i, i < n → f i = (if r 4 i < 1 then 1 else r 4 i).toInt64) ∧ (∃ f : Nat → Int64, ab_J G h (b + 238) 40 f ∧ ∀ i, i < n → f i = (r 5 i).toInt64) ∧ (∃ f : Nat → Int64, ab_J G h (b + 239) 40 f ∧ ∀ i, i < n → f i = (r 6 i).toInt64) ∧ (∃ f : Nat → Int64, ab_J G h (b + 240) 20 f)
/-- a list of violations at t -/
def ab_told (G : sv_G) (h : sv_h) (t x : Nat) (ro : Nat → Int64) (od st : Nat → Int32) (us sz ov hm : Int32) : Prop := x ≤ 1 ∧ h t = some (.inr (8, [.ref (t + 1), .int us, .ref (t + 2 + x), .ref (t + 3 - x), .int sz, .int ov, .int hm])) ∧ ab_J G h (t + 1) 18000 ro ∧ ab_I G h (t + 2 + x) 1500 od ∧ ab_I G h (t + 3 - x) 1500 st
def ab_any (G : sv_G) (h : sv_h) (t : Nat) : Prop := ∃ (x : Nat) (ro : Nat → Int64) (od st : Nat → Int32) (us sz ov hm : Int32), ab_told G h t x ro od st us sz ov hm
/-- the latest violations: n of them, twelve numbers each -/
def ab_late (G : sv_G) (h : sv_h) (t n : Nat) (lr : Nat → Int64) : Prop := n ≤ 1500 ∧ ∃ (x : Nat) (ro : Nat → Int64) (od st : Nat → Int32) (us ov hm : Int32) (w : Nat → Nat), ab_told G h t x ro od st us (nI n) ov hm ∧ ∀ k, k < n → w k < 1500 ∧ od k = nI (w k) ∧ ∀ j, j < 12 → ro (12 * w k + j) = lr (12 * k + j)
def ab_MLate (G : sv_G) (h : sv_h) (b n : Nat) (lr : Nat → Int64) : Prop := ∃ f, ab_J G h (b + 241) 36048 f ∧ ∀ k, k < n → ∀ j, j < 12 → f (18024 + (12 * k + j)) = lr (12 * k + j)
/-- the waivers -/
def ab_wv (G : sv_G) (h : sv_h) (b n : Nat) (wr : Nat → Int64) : Prop := n ≤ 40 ∧ h (b + 180) = some (.inr (9, [.ref (b + 181), .ref (b + 182), .int (nI n)])) ∧ (∃ f, ab_J G h (b + 181) 320 f ∧ ∀ k, k < n → ∀ j, j < 8 → f (8 * k + j) = wr (8 * k + j)) ∧ ∃ f, ab_J G h (b + 182) 8 f
/-- where the model keeps column j -/
def ab_wc (j : Nat) : Nat := if j < 2 then j else if j < 4 then j + 4 else j - 2
def ab_MWv (G : sv_G) (h : sv_h) (b n : Nat) (wr : Nat → Int64) : Prop := ∃ f, ab_J G h (b + 242) 320 f ∧ ∀ k, k < n → ∀ j, j < 8 → f (8 * k + ab_wc j) = wr (8 * k + j)
/-- a row of n moves at A, from q on -/
def ab_mvs (G : sv_G) (h : sv_h) (A n q : Nat) : Prop := ∃ f : Nat → Option Nat, ab_Q G h A 3 n f ∧ ∀ j, j < n → f j = some (q + j) ∧ ∃ x0 x1 x2 x3 : Int32, h (q + j) = some (.inr (2, [.int x0, .int x1, .int x2, .int x3]))
/-- the first of them moves nothing -/
def ab_mv0 (G : sv_G) (h : sv_h) (q : Nat) : Prop := h q = some (.inr (2, [.int 0, .int 0, .int 0, .int 0]))
/-- checker and scene -/
def ab_Chk (G : sv_G) (h : sv_h) (b : Nat) : Prop := (∃ x4 x5 : Value, (x4 = .null ∨ ∃ a, x4 = .ref a) ∧ (x5 = .null ∨ ∃ a, x5 = .ref a) ∧ h (b + 32) = some (.inr (0, [.ref (b + 1), .ref (b + 35), .ref (b + 33), .ref (b + 34), x4, x5]))) ∧ (∃ f, ab_I G h (b + 34) 17 f) ∧ (∃ n : Int32, h (b + 35) = some (.inr (6, [.ref (b + 1), .ref (b + 36), .int n, .ref (b + 37), .ref (b + 38), .ref (b + 39), .ref (b + 40), .ref (b + 41), .ref (b + 42), .ref (b + 43), .ref (b + 44), .ref (b + 45), .ref (b + 46), .ref (b + 47)]))) ∧ (∃ f, ab_I G h (b + 37) 100 f) ∧ (∃ f, ab_I G h (b + 38) 100 f) ∧ (∃ f, ab_I G h (b + 40) 400 f) ∧ (∃ f, ab_I G h (b + 41) 4 f) ∧ (∃ f, ab_I G h (b + 42) 16 f) ∧ (∃ f, ab_I G h (b + 43) 16 f) ∧ (∃ f, ab_I G h (b + 44) 401 f ∧ f 0 = 0) ∧ (∃ f, ab_I G h (b + 45) 1600 f) ∧ (∃ f, ab_I G h (b + 46) 1600 f) ∧ (∃ f, ab_I G h (b + 47) 1600 f) ∧ ab_mvs G h (b + 36) 16 (b + 48) ∧ ab_mvs G h (b + 39) 100 (b + 64) ∧ ab_mvs G h (b + 33) 16 (b + 164) ∧ ab_mv0 G h (b + 48) ∧ ab_mv0 G h (b + 164)
/-- the model's rows that hold nothing from call to call -/
def ab_MScr (G : sv_G) (h : sv_h) (b : Nat) : Prop := (∃ f : Nat → Int32, ab_Z G h (b + 243) 16 f) ∧ (∃ f : Nat → Int32, ab_I G h (b + 244) 100 f) ∧ (∃ f : Nat → Int32, ab_I G h (b + 245) 100 f) ∧ (∃ f : Nat → Int32, ab_I G h (b + 246) 1616 f) ∧ (∃ f : Nat → Int32, ab_I G h (b + 247) 17 f) ∧ (∃ f : Nat → Int64, ab_J G h (b + 248) 16 f) ∧ (∃ f : Nat → Int32, ab_I G h (b + 249) 2 f) ∧ (∃ f : Nat → Int64, ab_J G h (b + 250) 34 f) ∧ (∃ f : Nat → Int64, ab_J G h (b + 251) 34 f) ∧ (∃ f : Nat → Int32, ab_Z G h (b + 252) 2 f) ∧ (∃ f : Nat → Int32, ab_I G h (b + 253) 32 f) ∧ (∃ f : Nat → Int64, ab_J G h (b + 254) 32 f) ∧ (∃ f : Nat → Int64, ab_J G h (b + 255) 32 f) ∧ (∃ f : Nat → Int64, ab_J G h (b + 256) 32 f) ∧ (∃ f : Nat → Int32, ab_I G h (b + 257) 2 f) ∧ (∃ f : Nat → Int32, ab_I G h (b + 258) 1500 f) ∧ (∃ f : Nat → Int64, ab_J G h (b + 259) 10500 f) ∧ (∃ f : Nat → Int32, ab_Z G h (b + 260) 1500 f)
/-- the fields of the model's object -/
def ab_fs (b : Nat) (k : Int32) (nc np pl tn nr nl : Nat) (lq lf : Int32) (nw : Nat) (fs : List Value) : Prop := fs.length = 71 ∧ (∃ r : Int32, fs[58]? = some (.int r)) ∧ fs[1]? = some (.int k) ∧ fs[2]? = some (.int (nI nc)) ∧ fs[3]? = some (.int (nI np)) ∧ fs[4]? = some (.ref (b + 221)) ∧ fs[5]? = some (.ref (b + 222)) ∧ fs[6]? = some (.ref (b + 223)) ∧ fs[7]? = some (.ref (b + 224)) ∧ fs[8]? = some (.ref (b + 225)) ∧ fs[9]? = some (.ref (b + 226)) ∧ fs[10]? = some (.int (nI pl)) ∧ fs[11]? = some (.ref (b + 227)) ∧ fs[12]? = some (.ref (b + 228)) ∧ fs[13]? = some (.ref (b + 229)) ∧ fs[14]? = some (.ref (b + 230)) ∧ fs[15]? = some (.ref (b + 231)) ∧ fs[16]? = some (.ref (b + 232)) ∧ fs[17]? = some (.int (nI tn)) ∧ fs[18]? = some (.int (nI nr)) ∧ fs[19]? = some (.ref (b + 233)) ∧ fs[20]? = some (.ref (b + 234)) ∧ fs[21]? = some (.ref (b + 235)) ∧ fs[22]? = some (.ref (b + 236)) ∧ fs[23]? = some (.ref (b + 237)) ∧ fs[24]? = some (.ref (b + 238)) ∧ fs[25]? = some (.ref (b + 239)) ∧ fs[26]? = some (.ref (b + 240)) ∧ fs[27]? = some (.ref (b + 241)) ∧ fs[30]? = some (.int (nI nl)) ∧ fs[31]? = some (.int lq) ∧ fs[32]? = some (.int lf) ∧ fs[33]? = some (.int (nI nw)) ∧ fs[34]? = some (.ref (b + 242)) ∧ fs[35]? = some (.ref (b + 243)) ∧ fs[37]? = some (.ref (b + 244)) ∧ fs[38]? = some (.ref (b + 245)) ∧ fs[39]? = some (.ref (b + 246)) ∧ fs[40]? = some (.ref (b + 247)) ∧ fs[42]? = some (.ref (b + 248)) ∧ fs[43]? = some (.ref (b + 249)) ∧ fs[44]? = some (.ref (b + 250)) ∧ fs[45]? = some (.ref (b + 251)) ∧ fs[46]? = some (.ref (b + 252)) ∧ fs[47]? = some (.ref (b + 253)) ∧ fs[48]? = some (.ref (b + 254)) ∧ fs[49]? = some (.ref (b + 255)) ∧ fs[50]? = some (.ref (b + 256)) ∧ fs[51]? = some (.ref (b + 257)) ∧ fs[63]? = some (.ref (b + 258)) ∧ fs[65]? = some (.ref (b + 259)) ∧ fs[66]? = some (.ref (b + 260))
/-- the deck: which row of rules is read from, which lists are the latest, found, flat one -/
def ab_Dk (G : sv_G) (h : sv_h) (b nr : Nat) (lr lf : Int32) (ru rd la fo fl : Nat) : Prop :=
  h b = some (.inr (10, [.ref (b + 1), .ref (b + 8), .ref (b + 10), .ref (b + 32), .ref (b + 180), .ref ru, .int (nI nr), .int lr, .int lf, .ref la, .ref fo, .ref fl, .ref (b + 216)])) ∧ ((ru = b + 183 ∧ rd = b + 11) ∨ (ru = b + 11 ∧ rd = b + 183)) ∧ (∃ i j k : Nat, i < 3 ∧ j < 3 ∧ k < 3 ∧ i ≠ j ∧ i ≠ k ∧ j ≠ k ∧ la = b + 204 + 4 * i ∧ fo = b + 204 + 4 * j ∧ fl = b + 204 + 4 * k)
