/-- the kinds lie apart -/
theorem v_ki {G : sv_G} {M : sv_M} {P : sv_P} {pc : Nat} {L : List (Nat × Value)} {S : List Value} {h : sv_h} {z ce sl : Nat} (k : sv_ki G → V G M P pc L S h z ce sl) : V G M P pc L S h z ce sl := fun p e s m args below meth c H locs ls C K Z hS hH hl => k (fun i j hi hj e9 => Z.2.2.2.2.2.1.1.2 i j hi hj e9) p e s m args below meth c H locs ls C K Z hS hH hl
set_option maxHeartbeats 4000000 in
set_option maxRecDepth 100000 in
theorem law_all1 (G : sv_G) (hl0 : G.1.stackTraces = false) (hki : sv_ki G) (hL : G.2.2.2.2.2.1 ≤ 4609) (b : Nat) (h1 : sv_h) (z : Nat) (hi : ab_Inv G b h1 z) : V G mL_law (PL G) 33 [(4, .int (nI (1 + 9 * 0))), (3, .ref (b + 261)), (2, .ref (b + 220)), (1, .ref b), (0, .ref (G.2.2.2.2.1 100))] [] h1 z (262 + 6 * 0) (147450 + 100 * 0) :=
  law_loop G b (b + 220) (b + 261) (fun _ => ab_Inv G b) hL (fun _ => ab_Inv_In G b)
    (fun _ _ => g_unit G b _) (fun _ _ => g_units G b _) (fun _ _ => g_read G b) (fun _ _ => g_cell G hl0 b) (fun _ _ => g_polygon G hl0 b _ _) (fun _ _ => g_corner G hl0 b _ _ _) (fun _ _ => g_voltage G hl0 b _ _) (fun _ _ => g_place G hl0 b _ _ _ _ _) (fun _ _ => g_run1 G hl0 hki b _ _) (fun _ _ => g_run0 G hl0 hki b _ _) (fun _ _ => g_violation G hl0 b _ _) (fun _ _ => g_cellOf G hl0 b _) (fun _ _ => g_waive G hl0 b _) (fun _ _ => g_changed G hl0 b _ _ _ _) (fun _ _ => g_same G hl0 hki b _ _) (fun _ _ => g_count G hl0 hki b _) (fun _ _ => g_occurrences G hl0 b _)
    262 147450 (by omega) (by omega) 513 0 h1 z rfl hi
theorem law_all (G : sv_G) (hl0 : G.1.stackTraces = false) (hL : G.2.2.2.2.2.1 ≤ 4609) : V G mL_law (PL G) 0 [(0, .ref (G.2.2.2.2.1 100))] [] (fun _ => none) G.2.2.2.1.size 0 0 :=
  v_ki fun hki => by
    refine law_start G (PL G) _ hL (fun h1 k n1 n2 e => ?_)
    exact law_all1 G hl0 hki hL _ h1 _ (ab_init ⟨n1, n2, _, e⟩ (Nat.le_refl _))
