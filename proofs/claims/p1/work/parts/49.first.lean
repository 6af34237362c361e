theorem sv_new.rdr {G : sv_G} {b : Nat} {k : Int32} {h : sv_h} (H : sv_new G b (b + 1) k h) : h (b + 10) = some (.inr (4, [.ref (b + 8), .int k, .ref (b + 11), .int 0, .int 0, .int 0, .int 0, .int 0, .long 0])) := H.1.2.2.2.2.2.2.2.2.2.2.1
theorem sv_new.drafts {G : sv_G} {b : Nat} {k : Int32} {h : sv_h} (H : sv_new G b (b + 1) k h) : sv_row G h (b + 11) 5 20 (b + 12) (some (.inr (5, [.long 0, .ref (G.2.2.2.2.1 0), .int 0, .int 0, .int 0, .int (-1), .int (-1), .int (-1)]))) := H.2.1
theorem f_read (G : sv_G) (b : Nat) (k : Int32) : OpD G mX12_read mX13_read b (b + 220) [] (sv_Fr G b k) (sv_Wk G b (b + 220) (b + 261)) := by
  intro h z hi
  have hd := hi.1.deck
  have hm := hi.2.1.obj
  obtain ⟨f0, ho⟩ := hi.2.2
  obtain ⟨f, hA, hf⟩ := hi.1.drafts
  have hf0 := hf 0 (by omega)
  refine ⟨_, c_read0 G h z b _ _ _ _ _ _ _ _ _ _ _ _ _ hd _ _ _ _ _ _ _ _ _ hi.1.rdr hi.1.tape f hA _ hf0.1 _ _ _ _ _ _ _ _ hf0.2 (by omega) (by omega) (by omega) (by omega) (by omega) (by omega), fun v h1 z1 hq => ?_⟩
  obtain ⟨rfl, rfl, fr⟩ := hq
  have hm2 := (fr (b + 220) (by omega) (by omega) (by omega)).trans hm
  refine ⟨_, rfl, ⟨_, hm2⟩, _, m_read0 G _ _ _ _ rfl hm2 k rfl rfl, fun v2 h3 z3 hq2 => ?_⟩
  obtain ⟨rfl, rfl, ⟨F, hF⟩, fr2⟩ := hq2
  exact ⟨rfl, ⟨_, (fr2 b (by omega)).trans ((fr b (by omega) (by omega) (by omega)).trans hd)⟩, ⟨F, hF⟩, f0, (fr2 (b + 261) (by omega)).trans ((fr (b + 261) (by omega) (by omega) (by omega)).trans ho)⟩
/-- what holds after n calls, of a run of one call at most -/
def sv_I1 (G : sv_G) (b : Nat) (k : Int32) : Nat → sv_h → Nat → Prop
  | 0 => sv_Fr G b k
  | _ + 1 => sv_Wk G b (b + 220) (b + 261)
theorem sv_I1_In (G : sv_G) (b : Nat) (k : Int32) (n : Nat) : sv_In G b (b + 220) (b + 261) (sv_I1 G b k n) := by
  cases n with
  | zero => exact fun h z hi => sv_Fr_Wk (z := z) hi
  | succ n => exact sv_Wk_In G b (b + 220) (b + 261)
set_option maxRecDepth 100000 in
theorem law_first1 (G : sv_G) (hl0 : G.1.stackTraces = false) (hL : G.2.2.2.2.2.1 ≤ 10) (b : Nat) (k : Int32) (h1 : sv_h) (z : Nat) (hi : sv_I1 G b k 0 h1 z) : V G mL_law (PL G) 33 [(4, .int (nI (1 + 9 * 0))), (3, .ref (b + 261)), (2, .ref (b + 220)), (1, .ref b), (0, .ref (G.2.2.2.2.1 100))] [] h1 z (262 + 6 * 0) (147450 + 100 * 0) :=
  law_loop G b (b + 220) (b + 261) (sv_I1 G b k) (by omega) (sv_I1_In G b k)
    (fun n hn => by (obtain rfl : n = 0 := by omega); exact f_unit G b k _) (fun n hn => by (obtain rfl : n = 0 := by omega); exact f_units G b k _) (fun n hn => by (obtain rfl : n = 0 := by omega); exact f_read G b k) (fun n hn => by (obtain rfl : n = 0 := by omega); exact f_cell G hl0 b k) (fun n hn => by (obtain rfl : n = 0 := by omega); exact f_polygon G hl0 b k _ _) (fun n hn => by (obtain rfl : n = 0 := by omega); exact f_corner G hl0 b k _ _ _) (fun n hn => by (obtain rfl : n = 0 := by omega); exact f_voltage G hl0 b k _ _) (fun n hn => by (obtain rfl : n = 0 := by omega); exact f_place G hl0 b k _ _ _ _ _) (fun n hn => by (obtain rfl : n = 0 := by omega); exact f_run G hl0 b k _ _ _) (fun n hn => by (obtain rfl : n = 0 := by omega); exact f_run G hl0 b k _ _ _) (fun n hn => by (obtain rfl : n = 0 := by omega); exact f_violation G hl0 b k _ _) (fun n hn => by (obtain rfl : n = 0 := by omega); exact f_cellOf G hl0 b k _) (fun n hn => by (obtain rfl : n = 0 := by omega); exact f_waive G hl0 b k _) (fun n hn => by (obtain rfl : n = 0 := by omega); exact f_changed G hl0 b k _ _ _ _) (fun n hn => by (obtain rfl : n = 0 := by omega); exact f_same G hl0 b k _ _) (fun n hn => by (obtain rfl : n = 0 := by omega); exact f_count G hl0 b k _) (fun n hn => by (obtain rfl : n = 0 := by omega); exact f_occurrences G hl0 b k _)
    262 147450 (by omega) (by omega) 513 0 h1 z rfl hi
theorem law_first (G : sv_G) (hl0 : G.1.stackTraces = false) (hL : G.2.2.2.2.2.1 ≤ 10) : V G mL_law (PL G) 0 [(0, .ref (G.2.2.2.2.1 100))] [] (fun _ => none) G.2.2.2.1.size 0 0 := by
  refine law_start G (PL G) _ (by omega) (fun h1 k n1 n2 e => ?_)
  exact law_first1 G hl0 hL _ k h1 _ ⟨n1, n2, _, e⟩

