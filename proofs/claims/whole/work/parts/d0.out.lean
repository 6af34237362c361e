theorem iwX13_out_X13 : ∀ w ∈ wsX130, w ∈ wsX13_out := by decide +kernel
theorem dX13_out_0 : decode cX13_out 0 = .ok (.aload_n 0, 1) := by decide +kernel
theorem dX13_out_1 : decode cX13_out 1 = .ok (.aload_n 0, 1) := by decide +kernel
theorem dX13_out_2 : decode cX13_out 2 = .ok (.getfield 41, 3) := by decide +kernel
theorem dX13_out_5 : decode cX13_out 5 = .ok (.iload_n 1, 1) := by decide +kernel
theorem dX13_out_6 : decode cX13_out 6 = .ok (.iaload, 1) := by decide +kernel
theorem dX13_out_7 : decode cX13_out 7 = .ok (.iconst 3, 1) := by decide +kernel
theorem dX13_out_8 : decode cX13_out 8 = .ok (.if_icmp .le 11, 3) := by decide +kernel
theorem dX13_out_11 : decode cX13_out 11 = .ok (.aload_n 0, 1) := by decide +kernel
theorem dX13_out_12 : decode cX13_out 12 = .ok (.getfield 223, 3) := by decide +kernel
theorem dX13_out_15 : decode cX13_out 15 = .ok (.lneg, 1) := by decide +kernel
theorem dX13_out_16 : decode cX13_out 16 = .ok (.goto 7, 3) := by decide +kernel
theorem dX13_out_19 : decode cX13_out 19 = .ok (.aload_n 0, 1) := by decide +kernel
theorem dX13_out_20 : decode cX13_out 20 = .ok (.getfield 223, 3) := by decide +kernel
theorem dX13_out_23 : decode cX13_out 23 = .ok (.putfield 223, 3) := by decide +kernel
theorem dX13_out_26 : decode cX13_out 26 = .ok (.iconst 0, 1) := by decide +kernel
theorem dX13_out_27 : decode cX13_out 27 = .ok (.istore_n 2, 1) := by decide +kernel
theorem dX13_out_28 : decode cX13_out 28 = .ok (.iload_n 2, 1) := by decide +kernel
theorem dX13_out_29 : decode cX13_out 29 = .ok (.aload_n 0, 1) := by decide +kernel
theorem dX13_out_30 : decode cX13_out 30 = .ok (.getfield 41, 3) := by decide +kernel
theorem dX13_out_33 : decode cX13_out 33 = .ok (.iload_n 1, 1) := by decide +kernel
theorem dX13_out_34 : decode cX13_out 34 = .ok (.iaload, 1) := by decide +kernel
theorem dX13_out_35 : decode cX13_out 35 = .ok (.iconst 4, 1) := by decide +kernel
theorem dX13_out_36 : decode cX13_out 36 = .ok (.irem, 1) := by decide +kernel
theorem dX13_out_37 : decode cX13_out 37 = .ok (.if_icmp .ge 28, 3) := by decide +kernel
theorem dX13_out_40 : decode cX13_out 40 = .ok (.aload_n 0, 1) := by decide +kernel
theorem dX13_out_41 : decode cX13_out 41 = .ok (.getfield 227, 3) := by decide +kernel
theorem dX13_out_44 : decode cX13_out 44 = .ok (.lstore_n 3, 1) := by decide +kernel
theorem dX13_out_45 : decode cX13_out 45 = .ok (.aload_n 0, 1) := by decide +kernel
theorem dX13_out_46 : decode cX13_out 46 = .ok (.aload_n 0, 1) := by decide +kernel
theorem dX13_out_47 : decode cX13_out 47 = .ok (.getfield 223, 3) := by decide +kernel
theorem dX13_out_50 : decode cX13_out 50 = .ok (.lneg, 1) := by decide +kernel
theorem dX13_out_51 : decode cX13_out 51 = .ok (.putfield 227, 3) := by decide +kernel
theorem dX13_out_54 : decode cX13_out 54 = .ok (.aload_n 0, 1) := by decide +kernel
theorem dX13_out_55 : decode cX13_out 55 = .ok (.lload_n 3, 1) := by decide +kernel
theorem dX13_out_56 : decode cX13_out 56 = .ok (.putfield 223, 3) := by decide +kernel
theorem dX13_out_59 : decode cX13_out 59 = .ok (.iinc 2 1, 3) := by decide +kernel
theorem dX13_out_62 : decode cX13_out 62 = .ok (.goto (-34), 3) := by decide +kernel
theorem dX13_out_65 : decode cX13_out 65 = .ok (.aload_n 0, 1) := by decide +kernel
theorem dX13_out_66 : decode cX13_out 66 = .ok (.dup, 1) := by decide +kernel
theorem dX13_out_67 : decode cX13_out 67 = .ok (.getfield 227, 3) := by decide +kernel
theorem dX13_out_70 : decode cX13_out 70 = .ok (.aload_n 0, 1) := by decide +kernel
theorem dX13_out_71 : decode cX13_out 71 = .ok (.getfield 35, 3) := by decide +kernel
theorem dX13_out_74 : decode cX13_out 74 = .ok (.iload_n 1, 1) := by decide +kernel
theorem dX13_out_75 : decode cX13_out 75 = .ok (.laload, 1) := by decide +kernel
theorem dX13_out_76 : decode cX13_out 76 = .ok (.ladd, 1) := by decide +kernel
theorem dX13_out_77 : decode cX13_out 77 = .ok (.putfield 227, 3) := by decide +kernel
theorem dX13_out_80 : decode cX13_out 80 = .ok (.aload_n 0, 1) := by decide +kernel
theorem dX13_out_81 : decode cX13_out 81 = .ok (.dup, 1) := by decide +kernel
theorem dX13_out_82 : decode cX13_out 82 = .ok (.getfield 223, 3) := by decide +kernel
theorem dX13_out_85 : decode cX13_out 85 = .ok (.aload_n 0, 1) := by decide +kernel
theorem dX13_out_86 : decode cX13_out 86 = .ok (.getfield 38, 3) := by decide +kernel
theorem dX13_out_89 : decode cX13_out 89 = .ok (.iload_n 1, 1) := by decide +kernel
theorem dX13_out_90 : decode cX13_out 90 = .ok (.laload, 1) := by decide +kernel
theorem dX13_out_91 : decode cX13_out 91 = .ok (.ladd, 1) := by decide +kernel
theorem dX13_out_92 : decode cX13_out 92 = .ok (.putfield 223, 3) := by decide +kernel
theorem dX13_out_95 : decode cX13_out 95 = .ok (.return_, 1) := by decide +kernel

abbrev mX13_out : sv_M := (cX13_out, 5, yX13_out, wsX13_out, none, { frames := 0, cells := 0, slots := 0, locals := 0 }, [])
/-- the fields of the model's object that stay as they are while a rule is run -/
def stv (b nc np pl : Nat) : List (Nat × Value) := [(2, .int (nI nc)), (3, .int (nI np)), (10, .int (nI pl)), (4, .ref (b + 221)), (5, .ref (b + 222)), (6, .ref (b + 223)), (7, .ref (b + 224)), (8, .ref (b + 225)), (9, .ref (b + 226)), (11, .ref (b + 227)), (12, .ref (b + 228)), (13, .ref (b + 229)), (14, .ref (b + 230)), (15, .ref (b + 231)), (19, .ref (b + 233)), (20, .ref (b + 234)), (21, .ref (b + 235)), (22, .ref (b + 236)), (23, .ref (b + 237)), (24, .ref (b + 238)), (25, .ref (b + 239)), (27, .ref (b + 241)), (34, .ref (b + 242)), (35, .ref (b + 243)), (37, .ref (b + 244)), (38, .ref (b + 245)), (39, .ref (b + 246)), (40, .ref (b + 247)), (42, .ref (b + 248)), (43, .ref (b + 249)), (44, .ref (b + 250)), (45, .ref (b + 251)), (46, .ref (b + 252)), (47, .ref (b + 253)), (48, .ref (b + 254)), (49, .ref (b + 255)), (50, .ref (b + 256)), (51, .ref (b + 257)), (63, .ref (b + 258)), (65, .ref (b + 259)), (66, .ref (b + 260))]
def mfq_ (b nc np pl : Nat) (fs : List Value) : Prop := fs.length = 71 ∧ ∀ q ∈ stv b nc np pl, fs[q.1]? = some q.2
def stk : List Nat := [2, 3, 10, 4, 5, 6, 7, 8, 9, 11, 12, 13, 14, 15, 19, 20, 21, 22, 23, 24, 25, 27, 34, 35, 37, 38, 39, 40, 42, 43, 44, 45, 46, 47, 48, 49, 50, 51, 63, 65, 66]
theorem stv_k (b nc np pl : Nat) : (stv b nc np pl).map (fun q => q.1) = stk := rfl
/-- nothing changes but the fields S -/
def fsE (S : List Nat) (fs fs1 : List Value) : Prop := ∀ k, ¬ k ∈ S → fs1[k]? = fs[k]?
theorem fsE.rf {S : List Nat} {fs : List Value} : fsE S fs fs := fun _ _ => rfl
theorem fsE.tr {S : List Nat} {fs fs1 fs2 : List Value} (h : fsE S fs fs1) (k : fsE S fs1 fs2) : fsE S fs fs2 := fun j hj => (k j hj).trans (h j hj)
theorem fsE.up {S T : List Nat} {fs fs1 : List Value} (h : fsE S fs fs1) (hs : ∀ k, k ∈ S → k ∈ T) : fsE T fs fs1 := fun j hj => h j (fun q => hj (hs j q))
theorem fsE.st {S : List Nat} {fs fs1 : List Value} (h : fsE S fs fs1) {k : Nat} {v : Value} (hk : k ∈ S) : fsE S fs (fs1.set k v) := fun j hj => (List.getElem?_set_ne (fun e => hj (by rw [← e]; exact hk))).trans (h j hj)
theorem mfq_.to {b nc np pl : Nat} {S : List Nat} {fs fs1 : List Value} (H : mfq_ b nc np pl fs) (hl : fs1.length = 71) (hE : fsE S fs fs1) (hS : ∀ k, k ∈ stk → ¬ k ∈ S) : mfq_ b nc np pl fs1 :=
  ⟨hl, fun q hq => (hE q.1 (hS q.1 (by rw [← stv_k b nc np pl]; exact List.mem_map_of_mem hq))).trans (H.2 q hq)⟩
theorem mfq_.f_cells {b nc np pl : Nat} {fs : List Value} (H : mfq_ b nc np pl fs) : fs[2]? = some (.int (nI nc)) := H.2 (2, .int (nI nc)) (List.mem_of_getElem? (i := 0) rfl)
theorem mfq_.f_polygons {b nc np pl : Nat} {fs : List Value} (H : mfq_ b nc np pl fs) : fs[3]? = some (.int (nI np)) := H.2 (3, .int (nI np)) (List.mem_of_getElem? (i := 1) rfl)
theorem mfq_.f_places {b nc np pl : Nat} {fs : List Value} (H : mfq_ b nc np pl fs) : fs[10]? = some (.int (nI pl)) := H.2 (10, .int (nI pl)) (List.mem_of_getElem? (i := 2) rfl)
theorem mfq_.f_owner {b nc np pl : Nat} {fs : List Value} (H : mfq_ b nc np pl fs) : fs[4]? = some (.ref (b + 221)) := H.2 (4, .ref (b + 221)) (List.mem_of_getElem? (i := 3) rfl)
theorem mfq_.f_layer {b nc np pl : Nat} {fs : List Value} (H : mfq_ b nc np pl fs) : fs[5]? = some (.ref (b + 222)) := H.2 (5, .ref (b + 222)) (List.mem_of_getElem? (i := 4) rfl)
theorem mfq_.f_volts {b nc np pl : Nat} {fs : List Value} (H : mfq_ b nc np pl fs) : fs[6]? = some (.ref (b + 223)) := H.2 (6, .ref (b + 223)) (List.mem_of_getElem? (i := 5) rfl)
theorem mfq_.f_size {b nc np pl : Nat} {fs : List Value} (H : mfq_ b nc np pl fs) : fs[7]? = some (.ref (b + 224)) := H.2 (7, .ref (b + 224)) (List.mem_of_getElem? (i := 6) rfl)
theorem mfq_.f_px {b nc np pl : Nat} {fs : List Value} (H : mfq_ b nc np pl fs) : fs[8]? = some (.ref (b + 225)) := H.2 (8, .ref (b + 225)) (List.mem_of_getElem? (i := 7) rfl)
theorem mfq_.f_py {b nc np pl : Nat} {fs : List Value} (H : mfq_ b nc np pl fs) : fs[9]? = some (.ref (b + 226)) := H.2 (9, .ref (b + 226)) (List.mem_of_getElem? (i := 8) rfl)
theorem mfq_.f_placeIn {b nc np pl : Nat} {fs : List Value} (H : mfq_ b nc np pl fs) : fs[11]? = some (.ref (b + 227)) := H.2 (11, .ref (b + 227)) (List.mem_of_getElem? (i := 9) rfl)
theorem mfq_.f_placeOf {b nc np pl : Nat} {fs : List Value} (H : mfq_ b nc np pl fs) : fs[12]? = some (.ref (b + 228)) := H.2 (12, .ref (b + 228)) (List.mem_of_getElem? (i := 10) rfl)
theorem mfq_.f_placeX {b nc np pl : Nat} {fs : List Value} (H : mfq_ b nc np pl fs) : fs[13]? = some (.ref (b + 229)) := H.2 (13, .ref (b + 229)) (List.mem_of_getElem? (i := 11) rfl)
theorem mfq_.f_placeY {b nc np pl : Nat} {fs : List Value} (H : mfq_ b nc np pl fs) : fs[14]? = some (.ref (b + 230)) := H.2 (14, .ref (b + 230)) (List.mem_of_getElem? (i := 12) rfl)
theorem mfq_.f_turns {b nc np pl : Nat} {fs : List Value} (H : mfq_ b nc np pl fs) : fs[15]? = some (.ref (b + 231)) := H.2 (15, .ref (b + 231)) (List.mem_of_getElem? (i := 13) rfl)
theorem mfq_.f_kind {b nc np pl : Nat} {fs : List Value} (H : mfq_ b nc np pl fs) : fs[19]? = some (.ref (b + 233)) := H.2 (19, .ref (b + 233)) (List.mem_of_getElem? (i := 14) rfl)
theorem mfq_.f_layerA {b nc np pl : Nat} {fs : List Value} (H : mfq_ b nc np pl fs) : fs[20]? = some (.ref (b + 234)) := H.2 (20, .ref (b + 234)) (List.mem_of_getElem? (i := 15) rfl)
theorem mfq_.f_layerB {b nc np pl : Nat} {fs : List Value} (H : mfq_ b nc np pl fs) : fs[21]? = some (.ref (b + 235)) := H.2 (21, .ref (b + 235)) (List.mem_of_getElem? (i := 16) rfl)
theorem mfq_.f_bound {b nc np pl : Nat} {fs : List Value} (H : mfq_ b nc np pl fs) : fs[22]? = some (.ref (b + 236)) := H.2 (22, .ref (b + 236)) (List.mem_of_getElem? (i := 17) rfl)
theorem mfq_.f_run {b nc np pl : Nat} {fs : List Value} (H : mfq_ b nc np pl fs) : fs[23]? = some (.ref (b + 237)) := H.2 (23, .ref (b + 237)) (List.mem_of_getElem? (i := 18) rfl)
theorem mfq_.f_volt {b nc np pl : Nat} {fs : List Value} (H : mfq_ b nc np pl fs) : fs[24]? = some (.ref (b + 238)) := H.2 (24, .ref (b + 238)) (List.mem_of_getElem? (i := 19) rfl)
theorem mfq_.f_end {b nc np pl : Nat} {fs : List Value} (H : mfq_ b nc np pl fs) : fs[25]? = some (.ref (b + 239)) := H.2 (25, .ref (b + 239)) (List.mem_of_getElem? (i := 20) rfl)
theorem mfq_.f_told {b nc np pl : Nat} {fs : List Value} (H : mfq_ b nc np pl fs) : fs[27]? = some (.ref (b + 241)) := H.2 (27, .ref (b + 241)) (List.mem_of_getElem? (i := 21) rfl)
theorem mfq_.f_waivedAt {b nc np pl : Nat} {fs : List Value} (H : mfq_ b nc np pl fs) : fs[34]? = some (.ref (b + 242)) := H.2 (34, .ref (b + 242)) (List.mem_of_getElem? (i := 22) rfl)
theorem mfq_.f_under {b nc np pl : Nat} {fs : List Value} (H : mfq_ b nc np pl fs) : fs[35]? = some (.ref (b + 243)) := H.2 (35, .ref (b + 243)) (List.mem_of_getElem? (i := 23) rfl)
theorem mfq_.f_polygon {b nc np pl : Nat} {fs : List Value} (H : mfq_ b nc np pl fs) : fs[37]? = some (.ref (b + 244)) := H.2 (37, .ref (b + 244)) (List.mem_of_getElem? (i := 24) rfl)
theorem mfq_.f_depth {b nc np pl : Nat} {fs : List Value} (H : mfq_ b nc np pl fs) : fs[38]? = some (.ref (b + 245)) := H.2 (38, .ref (b + 245)) (List.mem_of_getElem? (i := 25) rfl)
theorem mfq_.f_way {b nc np pl : Nat} {fs : List Value} (H : mfq_ b nc np pl fs) : fs[39]? = some (.ref (b + 246)) := H.2 (39, .ref (b + 246)) (List.mem_of_getElem? (i := 26) rfl)
theorem mfq_.f_stack {b nc np pl : Nat} {fs : List Value} (H : mfq_ b nc np pl fs) : fs[40]? = some (.ref (b + 247)) := H.2 (40, .ref (b + 247)) (List.mem_of_getElem? (i := 27) rfl)
theorem mfq_.f_sizes {b nc np pl : Nat} {fs : List Value} (H : mfq_ b nc np pl fs) : fs[42]? = some (.ref (b + 248)) := H.2 (42, .ref (b + 248)) (List.mem_of_getElem? (i := 28) rfl)
theorem mfq_.f_sides {b nc np pl : Nat} {fs : List Value} (H : mfq_ b nc np pl fs) : fs[43]? = some (.ref (b + 249)) := H.2 (43, .ref (b + 249)) (List.mem_of_getElem? (i := 29) rfl)
theorem mfq_.f_cx {b nc np pl : Nat} {fs : List Value} (H : mfq_ b nc np pl fs) : fs[44]? = some (.ref (b + 250)) := H.2 (44, .ref (b + 250)) (List.mem_of_getElem? (i := 30) rfl)
theorem mfq_.f_cy {b nc np pl : Nat} {fs : List Value} (H : mfq_ b nc np pl fs) : fs[45]? = some (.ref (b + 251)) := H.2 (45, .ref (b + 251)) (List.mem_of_getElem? (i := 31) rfl)
theorem mfq_.f_toTheLeft {b nc np pl : Nat} {fs : List Value} (H : mfq_ b nc np pl fs) : fs[46]? = some (.ref (b + 252)) := H.2 (46, .ref (b + 252)) (List.mem_of_getElem? (i := 32) rfl)
theorem mfq_.f_face {b nc np pl : Nat} {fs : List Value} (H : mfq_ b nc np pl fs) : fs[47]? = some (.ref (b + 253)) := H.2 (47, .ref (b + 253)) (List.mem_of_getElem? (i := 33) rfl)
theorem mfq_.f_pos {b nc np pl : Nat} {fs : List Value} (H : mfq_ b nc np pl fs) : fs[48]? = some (.ref (b + 254)) := H.2 (48, .ref (b + 254)) (List.mem_of_getElem? (i := 34) rfl)
theorem mfq_.f_low {b nc np pl : Nat} {fs : List Value} (H : mfq_ b nc np pl fs) : fs[49]? = some (.ref (b + 255)) := H.2 (49, .ref (b + 255)) (List.mem_of_getElem? (i := 35) rfl)
theorem mfq_.f_high {b nc np pl : Nat} {fs : List Value} (H : mfq_ b nc np pl fs) : fs[50]? = some (.ref (b + 256)) := H.2 (50, .ref (b + 256)) (List.mem_of_getElem? (i := 36) rfl)
theorem mfq_.f_ofPolygon {b nc np pl : Nat} {fs : List Value} (H : mfq_ b nc np pl fs) : fs[51]? = some (.ref (b + 257)) := H.2 (51, .ref (b + 257)) (List.mem_of_getElem? (i := 37) rfl)
theorem mfq_.f_order {b nc np pl : Nat} {fs : List Value} (H : mfq_ b nc np pl fs) : fs[63]? = some (.ref (b + 258)) := H.2 (63, .ref (b + 258)) (List.mem_of_getElem? (i := 38) rfl)
theorem mfq_.f_flatTold {b nc np pl : Nat} {fs : List Value} (H : mfq_ b nc np pl fs) : fs[65]? = some (.ref (b + 259)) := H.2 (65, .ref (b + 259)) (List.mem_of_getElem? (i := 39) rfl)
theorem mfq_.f_met {b nc np pl : Nat} {fs : List Value} (H : mfq_ b nc np pl fs) : fs[66]? = some (.ref (b + 260)) := H.2 (66, .ref (b + 260)) (List.mem_of_getElem? (i := 40) rfl)
/-- turned j times to the left -/
def rot (p : Int × Int) : Nat → Int × Int | 0 => p | j + 1 => (- (rot p j).2, (rot p j).1)
theorem mvA_rot {M : mvT} (hM : M.2.1 < 4) (p : Int × Int) : mvA M p = ((rot (p.1, sg M.1 p.2) M.2.1).1 + M.2.2.1, (rot (p.1, sg M.1 p.2) M.2.1).2 + M.2.2.2) := by
  obtain ⟨m, q, x, y⟩ := M
  rcases sv_q4 hM with rfl | rfl | rfl | rfl <;> (simp only [mvA, rot, Prod.mk.injEq]; omega)
theorem tn_rem : ∀ t, t < 8 → nI t - nI t / 4 * 4 = nI (t % 4) := by decide
set_option maxHeartbeats 4000000 in
set_option maxRecDepth 100000 in
theorem l_out (G : sv_G) (tn : Nat) (htn : tn < 8) (M : mvT) (hM1 : M.1 = decide (4 ≤ tn)) (hM2 : M.2.1 = tn % 4) (z b nc np pl : Nat) (hb : sv_h) (i : Nat) (hi : i < pl) (hpl : pl ≤ 32) (ft : Nat → Int32) (h15 : ab_I G hb (b + 231) 32 ft) (hft : ft i = nI tn) (gx gy : Nat → Int64) (h13 : ab_J G hb (b + 229) 32 gx) (h14 : ab_J G hb (b + 230) 32 gy) (hgx : gx i = jN M.2.2.1) (hgy : gy i = jN M.2.2.2) (fs0 : List Value) (hq : mfq_ b nc np pl fs0) (x y : Int) : ∀ (e j : Nat) (h : sv_h) (fs : List Value), j + e = tn % 4 → h (b + 220) = some (.inr (11, fs)) → fs.length = 71 → fsE [52, 53] fs0 fs → fs[52]? = some (.long (jN (rot (x, sg M.1 y) j).1)) → fs[53]? = some (.long (jN (rot (x, sg M.1 y) j).2)) → (∀ a, a ≠ b + 220 → h a = hb a) → V G mX13_out (sv_MQ G mX13_out (fun v h1 z1 => v = none ∧ z1 = z ∧ (∃ fs1, h1 (b + 220) = some (.inr (11, fs1)) ∧ fs1.length = 71 ∧ fsE [52, 53] fs0 fs1 ∧ fs1[52]? = some (.long (jN (mvA M (x, y)).1)) ∧ fs1[53]? = some (.long (jN (mvA M (x, y)).2))) ∧ ∀ a, a ≠ b + 220 → h1 a = hb a)) 28 [(2, .int (nI j)), (1, .int (nI i)), (0, .ref (b + 220))] [] h z 0 0 := by
  intro e
  induction e with
  | zero =>
    intro j h fs hje hm hl hE f_tx f_ty fr
    have hq0 := hq.to (S := [52, 53]) hl hE (by decide)
    have hlen : fs.length = 71 := hl
    have f_turns := hq0.f_turns
    have f_placeX := hq0.f_placeX
    have f_placeY := hq0.f_placeY
    have w15 : ab_I G h (b + 231) 32 ft := (fr _ (by omega)).trans h15
    have w13 : ab_J G h (b + 229) 32 gx := (fr _ (by omega)).trans h13
    have w14 : ab_J G h (b + 230) 32 gy := (fr _ (by omega)).trans h14
    have e9 : j = tn % 4 := by omega
    subst e9
    have hrt := mvA_rot (M := M) (by omega) (x, y)
    rw [hM2] at hrt
    refine v_iload_n dX13_out_28 rfl 0 rfl ?_
    refine v_aload_n dX13_out_29 rfl 2 rfl ?_
    refine v_getf 15 (ci := 11) (C := RX13) (T := TX13) (N := 71) rfl iwX13_out_X13 (Nat.le_of_ble_eq_true rfl) (by decide +kernel) dX13_out_30 (by repeat (first | with_reducible assumption | (with_reducible refine sv_us.trans ?_; exact rfl) | with_reducible refine (sv_un (by omega)).trans ?_)) (by repeat (first | with_reducible assumption | (with_reducible refine (sv_ls (by first | omega | (simp only [List.length_set]; omega))).trans ?_; exact rfl) | with_reducible refine (List.getElem?_set_ne (by decide)).trans ?_)) ?_
    refine v_iload_n dX13_out_33 rfl 1 rfl ?_
    refine v_ialdS (v := nI tn) dX13_out_34 (by repeat (first | with_reducible assumption | (with_reducible refine sv_us.trans ?_; exact rfl) | with_reducible refine (sv_un (by omega)).trans ?_)) (vp_in_nI (by omega) (by omega)) (by rw [nI_clamp (by omega)]; exact hft) ?_
    refine v_iconst (v := 4) dX13_out_35 (by decide) ?_
    refine v_irem dX13_out_36 (by decide) ?_
    rw [tn_rem tn htn]
    refine v_icmp_ge (tgt := 65) dX13_out_37 (by decide) (fun c_37 => ?_) (fun c_37 => ?_)
    · refine v_aload_n dX13_out_65 rfl 2 rfl ?_
      refine v_dup dX13_out_66 rfl ?_
      refine v_getf 52 (ci := 11) (C := RX13) (T := TX13) (N := 71) rfl iwX13_out_X13 (Nat.le_of_ble_eq_true rfl) (by decide +kernel) dX13_out_67 (by repeat (first | with_reducible assumption | (with_reducible refine sv_us.trans ?_; exact rfl) | with_reducible refine (sv_un (by omega)).trans ?_)) (by repeat (first | with_reducible assumption | (with_reducible refine (sv_ls (by first | omega | (simp only [List.length_set]; omega))).trans ?_; exact rfl) | with_reducible refine (List.getElem?_set_ne (by decide)).trans ?_)) ?_
      refine v_aload_n dX13_out_70 rfl 2 rfl ?_
      refine v_getf 13 (ci := 11) (C := RX13) (T := TX13) (N := 71) rfl iwX13_out_X13 (Nat.le_of_ble_eq_true rfl) (by decide +kernel) dX13_out_71 (by repeat (first | with_reducible assumption | (with_reducible refine sv_us.trans ?_; exact rfl) | with_reducible refine (sv_un (by omega)).trans ?_)) (by repeat (first | with_reducible assumption | (with_reducible refine (sv_ls (by first | omega | (simp only [List.length_set]; omega))).trans ?_; exact rfl) | with_reducible refine (List.getElem?_set_ne (by decide)).trans ?_)) ?_
      refine v_iload_n dX13_out_74 rfl 1 rfl ?_
      refine v_laldS (v := jN M.2.2.1) dX13_out_75 (by repeat (first | with_reducible assumption | (with_reducible refine sv_us.trans ?_; exact rfl) | with_reducible refine (sv_un (by omega)).trans ?_)) (vp_in_nI (by omega) (by omega)) (by rw [nI_clamp (by omega)]; exact hgx) ?_
      refine v_ladd dX13_out_76 ?_
      rw [← jN_add]
      refine v_putf 52 (fs' := _) (ci := 11) (C := RX13) (T := TX13) (N := 71) (ty := .long) rfl iwX13_out_X13 tyX13 tyX13_ok nmX13 (Nat.le_of_ble_eq_true rfl) (by decide +kernel) rfl rfl dX13_out_77 rfl rfl (by repeat (first | with_reducible assumption | (with_reducible refine sv_us.trans ?_; exact rfl) | with_reducible refine (sv_un (by omega)).trans ?_)) (by first | omega | (simp only [List.length_set]; omega)) rfl ?_
      refine v_aload_n dX13_out_80 rfl 2 rfl ?_
      refine v_dup dX13_out_81 rfl ?_
      refine v_getf 53 (ci := 11) (C := RX13) (T := TX13) (N := 71) rfl iwX13_out_X13 (Nat.le_of_ble_eq_true rfl) (by decide +kernel) dX13_out_82 (by repeat (first | with_reducible assumption | (with_reducible refine sv_us.trans ?_; exact rfl) | with_reducible refine (sv_un (by omega)).trans ?_)) (by repeat (first | with_reducible assumption | (with_reducible refine (sv_ls (by first | omega | (simp only [List.length_set]; omega))).trans ?_; exact rfl) | with_reducible refine (List.getElem?_set_ne (by decide)).trans ?_)) ?_
      refine v_aload_n dX13_out_85 rfl 2 rfl ?_
      refine v_getf 14 (ci := 11) (C := RX13) (T := TX13) (N := 71) rfl iwX13_out_X13 (Nat.le_of_ble_eq_true rfl) (by decide +kernel) dX13_out_86 (by repeat (first | with_reducible assumption | (with_reducible refine sv_us.trans ?_; exact rfl) | with_reducible refine (sv_un (by omega)).trans ?_)) (by repeat (first | with_reducible assumption | (with_reducible refine (sv_ls (by first | omega | (simp only [List.length_set]; omega))).trans ?_; exact rfl) | with_reducible refine (List.getElem?_set_ne (by decide)).trans ?_)) ?_
      refine v_iload_n dX13_out_89 rfl 1 rfl ?_
      refine v_laldS (v := jN M.2.2.2) dX13_out_90 (by repeat (first | with_reducible assumption | (with_reducible refine sv_us.trans ?_; exact rfl) | with_reducible refine (sv_un (by omega)).trans ?_)) (vp_in_nI (by omega) (by omega)) (by rw [nI_clamp (by omega)]; exact hgy) ?_
      refine v_ladd dX13_out_91 ?_
      rw [← jN_add]
      refine v_putf 53 (fs' := _) (ci := 11) (C := RX13) (T := TX13) (N := 71) (ty := .long) rfl iwX13_out_X13 tyX13 tyX13_ok nmX13 (Nat.le_of_ble_eq_true rfl) (by decide +kernel) rfl rfl dX13_out_92 rfl rfl (by repeat (first | with_reducible assumption | (with_reducible refine sv_us.trans ?_; exact rfl) | with_reducible refine (sv_un (by omega)).trans ?_)) (by first | omega | (simp only [List.length_set]; omega)) rfl ?_
      exact v_ret rfl dX13_out_95 (Nat.le_of_ble_eq_true rfl) (Nat.le_of_ble_eq_true rfl) (by
                refine ⟨rfl, rfl, ⟨_, sv_us, by rw [List.length_set, List.length_set]; exact hl, (hE.st (by decide)).st (by decide), ?_, ?_⟩, fun a p => (sv_un p).trans ((sv_un p).trans (fr a p))⟩
                · rw [hrt]; exact (List.getElem?_set_ne (by decide)).trans (sv_ls (by omega))
                · rw [hrt]; exact sv_ls (by rw [List.length_set]; omega))
    · exact absurd (nI_le (Nat.le_refl _) (by omega)) c_37
  | succ e ih =>
    intro j h fs hje hm hl hE f_tx f_ty fr
    have hq0 := hq.to (S := [52, 53]) hl hE (by decide)
    have hlen : fs.length = 71 := hl
    have f_turns := hq0.f_turns
    have f_placeX := hq0.f_placeX
    have f_placeY := hq0.f_placeY
    have w15 : ab_I G h (b + 231) 32 ft := (fr _ (by omega)).trans h15
    have w13 : ab_J G h (b + 229) 32 gx := (fr _ (by omega)).trans h13
    have w14 : ab_J G h (b + 230) 32 gy := (fr _ (by omega)).trans h14
    refine v_iload_n dX13_out_28 rfl 0 rfl ?_
    refine v_aload_n dX13_out_29 rfl 2 rfl ?_
    refine v_getf 15 (ci := 11) (C := RX13) (T := TX13) (N := 71) rfl iwX13_out_X13 (Nat.le_of_ble_eq_true rfl) (by decide +kernel) dX13_out_30 (by repeat (first | with_reducible assumption | (with_reducible refine sv_us.trans ?_; exact rfl) | with_reducible refine (sv_un (by omega)).trans ?_)) (by repeat (first | with_reducible assumption | (with_reducible refine (sv_ls (by first | omega | (simp only [List.length_set]; omega))).trans ?_; exact rfl) | with_reducible refine (List.getElem?_set_ne (by decide)).trans ?_)) ?_
    refine v_iload_n dX13_out_33 rfl 1 rfl ?_
    refine v_ialdS (v := nI tn) dX13_out_34 (by repeat (first | with_reducible assumption | (with_reducible refine sv_us.trans ?_; exact rfl) | with_reducible refine (sv_un (by omega)).trans ?_)) (vp_in_nI (by omega) (by omega)) (by rw [nI_clamp (by omega)]; exact hft) ?_
    refine v_iconst (v := 4) dX13_out_35 (by decide) ?_
    refine v_irem dX13_out_36 (by decide) ?_
    rw [tn_rem tn htn]
    refine v_icmp_ge (tgt := 65) dX13_out_37 (by decide) (fun c_37 => ?_) (fun c_37 => ?_)
    · exact absurd c_37 (nI_ge (show j < tn % 4 by omega) (by omega))
    · refine v_aload_n dX13_out_40 rfl 2 rfl ?_
      refine v_getf 52 (ci := 11) (C := RX13) (T := TX13) (N := 71) rfl iwX13_out_X13 (Nat.le_of_ble_eq_true rfl) (by decide +kernel) dX13_out_41 (by repeat (first | with_reducible assumption | (with_reducible refine sv_us.trans ?_; exact rfl) | with_reducible refine (sv_un (by omega)).trans ?_)) (by repeat (first | with_reducible assumption | (with_reducible refine (sv_ls (by first | omega | (simp only [List.length_set]; omega))).trans ?_; exact rfl) | with_reducible refine (List.getElem?_set_ne (by decide)).trans ?_)) ?_
      refine v_lstore_n (L' := [(3, _), (2, _), (1, _), (0, _)]) dX13_out_44 rfl (Nat.le_of_ble_eq_true rfl) rfl ?_
      refine v_aload_n dX13_out_45 rfl 3 rfl ?_
      refine v_aload_n dX13_out_46 rfl 3 rfl ?_
      refine v_getf 53 (ci := 11) (C := RX13) (T := TX13) (N := 71) rfl iwX13_out_X13 (Nat.le_of_ble_eq_true rfl) (by decide +kernel) dX13_out_47 (by repeat (first | with_reducible assumption | (with_reducible refine sv_us.trans ?_; exact rfl) | with_reducible refine (sv_un (by omega)).trans ?_)) (by repeat (first | with_reducible assumption | (with_reducible refine (sv_ls (by first | omega | (simp only [List.length_set]; omega))).trans ?_; exact rfl) | with_reducible refine (List.getElem?_set_ne (by decide)).trans ?_)) ?_
      refine v_lneg dX13_out_50 ?_
      rw [← jN_neg]
      refine v_putf 52 (fs' := _) (ci := 11) (C := RX13) (T := TX13) (N := 71) (ty := .long) rfl iwX13_out_X13 tyX13 tyX13_ok nmX13 (Nat.le_of_ble_eq_true rfl) (by decide +kernel) rfl rfl dX13_out_51 rfl rfl (by repeat (first | with_reducible assumption | (with_reducible refine sv_us.trans ?_; exact rfl) | with_reducible refine (sv_un (by omega)).trans ?_)) (by first | omega | (simp only [List.length_set]; omega)) rfl ?_
      refine v_aload_n dX13_out_54 rfl 3 rfl ?_
      refine v_lload_n dX13_out_55 rfl 0 rfl ?_
      refine v_putf 53 (fs' := _) (ci := 11) (C := RX13) (T := TX13) (N := 71) (ty := .long) rfl iwX13_out_X13 tyX13 tyX13_ok nmX13 (Nat.le_of_ble_eq_true rfl) (by decide +kernel) rfl rfl dX13_out_56 rfl rfl (by repeat (first | with_reducible assumption | (with_reducible refine sv_us.trans ?_; exact rfl) | with_reducible refine (sv_un (by omega)).trans ?_)) (by first | omega | (simp only [List.length_set]; omega)) rfl ?_
      refine v_iinc (j := 1) (L' := [(2, _), (3, _), (1, _), (0, _)]) (v := nI (j + 1)) dX13_out_59 rfl (nI_1 _) (Nat.le_of_ble_eq_true rfl) rfl ?_
      refine v_goto (tgt := 28) dX13_out_62 (by decide) ?_
      refine v_sub (L' := [(2, _), (1, _), (0, _)]) [0, 2, 3] rfl ?_
      exact ih (j + 1) _ _ (by omega) sv_us (by rw [List.length_set, List.length_set]; exact hl) ((hE.st (by decide)).st (by decide)) ((List.getElem?_set_ne (by decide)).trans (sv_ls (by omega))) (sv_ls (by rw [List.length_set]; omega)) (fun a p => (sv_un p).trans ((sv_un p).trans (fr a p)))

set_option maxHeartbeats 4000000 in
set_option maxRecDepth 100000 in
theorem m_out (G : sv_G) (tn : Nat) (htn : tn < 8) (M : mvT) (hM1 : M.1 = decide (4 ≤ tn)) (hM2 : M.2.1 = tn % 4) (z b nc np pl : Nat) (hb : sv_h) (i : Nat) (hi : i < pl) (hpl : pl ≤ 32) (ft : Nat → Int32) (h15 : ab_I G hb (b + 231) 32 ft) (hft : ft i = nI tn) (gx gy : Nat → Int64) (h13 : ab_J G hb (b + 229) 32 gx) (h14 : ab_J G hb (b + 230) 32 gy) (hgx : gx i = jN M.2.2.1) (hgy : gy i = jN M.2.2.2) (fs0 : List Value) (hq : mfq_ b nc np pl fs0) (hm : hb (b + 220) = some (.inr (11, fs0))) (x y : Int) (f_tx : fs0[52]? = some (.long (jN x))) (f_ty : fs0[53]? = some (.long (jN y))) : CT G mX13_out [.ref (b + 220), .int (nI i)] hb z (fun v h1 z1 => v = none ∧ z1 = z ∧ (∃ fs1, h1 (b + 220) = some (.inr (11, fs1)) ∧ fs1.length = 71 ∧ fsE [52, 53] fs0 fs1 ∧ fs1[52]? = some (.long (jN (mvA M (x, y)).1)) ∧ fs1[53]? = some (.long (jN (mvA M (x, y)).2))) ∧ ∀ a, a ≠ b + 220 → h1 a = hb a) := by
  refine CT.of (by decide +kernel) rfl rfl (Nat.le_of_ble_eq_true rfl) ?_
  have hq0 := hq
  have hlen : fs0.length = 71 := hq.1
  have f_turns := hq0.f_turns
  have f_placeX := hq0.f_placeX
  have f_placeY := hq0.f_placeY
  refine v_aload_n dX13_out_0 rfl 0 rfl ?_
  refine v_aload_n dX13_out_1 rfl 0 rfl ?_
  refine v_getf 15 (ci := 11) (C := RX13) (T := TX13) (N := 71) rfl iwX13_out_X13 (Nat.le_of_ble_eq_true rfl) (by decide +kernel) dX13_out_2 (by repeat (first | with_reducible assumption | (with_reducible refine sv_us.trans ?_; exact rfl) | with_reducible refine (sv_un (by omega)).trans ?_)) (by repeat (first | with_reducible assumption | (with_reducible refine (sv_ls (by first | omega | (simp only [List.length_set]; omega))).trans ?_; exact rfl) | with_reducible refine (List.getElem?_set_ne (by decide)).trans ?_)) ?_
  refine v_iload_n dX13_out_5 rfl 1 rfl ?_
  refine v_ialdS (v := nI tn) dX13_out_6 (by repeat (first | with_reducible assumption | (with_reducible refine sv_us.trans ?_; exact rfl) | with_reducible refine (sv_un (by omega)).trans ?_)) (vp_in_nI (by omega) (by omega)) (by rw [nI_clamp (by omega)]; exact hft) ?_
  refine v_iconst (v := 3) dX13_out_7 (by decide) ?_
  refine v_icmp_le (tgt := 19) dX13_out_8 (by decide) (fun c_8 => ?_) (fun c_8 => ?_)
  · refine v_aload_n dX13_out_19 rfl 0 rfl ?_
    refine v_getf 53 (ci := 11) (C := RX13) (T := TX13) (N := 71) rfl iwX13_out_X13 (Nat.le_of_ble_eq_true rfl) (by decide +kernel) dX13_out_20 (by repeat (first | with_reducible assumption | (with_reducible refine sv_us.trans ?_; exact rfl) | with_reducible refine (sv_un (by omega)).trans ?_)) (by repeat (first | with_reducible assumption | (with_reducible refine (sv_ls (by first | omega | (simp only [List.length_set]; omega))).trans ?_; exact rfl) | with_reducible refine (List.getElem?_set_ne (by decide)).trans ?_)) ?_
    refine v_putf 53 (fs' := _) (ci := 11) (C := RX13) (T := TX13) (N := 71) (ty := .long) rfl iwX13_out_X13 tyX13 tyX13_ok nmX13 (Nat.le_of_ble_eq_true rfl) (by decide +kernel) rfl rfl dX13_out_23 rfl rfl (by repeat (first | with_reducible assumption | (with_reducible refine sv_us.trans ?_; exact rfl) | with_reducible refine (sv_un (by omega)).trans ?_)) (by first | omega | (simp only [List.length_set]; omega)) rfl ?_
    refine v_iconst (v := 0) dX13_out_26 (by decide) ?_
    refine v_istore_n (L' := [(2, _), (0, _), (1, _)]) dX13_out_27 rfl (Nat.le_of_ble_eq_true rfl) rfl ?_
    refine v_sub (L' := [(2, _), (1, _), (0, _)]) [0, 2, 1] rfl ?_
    refine l_out G tn htn M hM1 hM2 _ b nc np pl hb i hi hpl ft h15 hft gx gy h13 h14 hgx hgy fs0 hq x y (tn % 4) 0 _ _ (Nat.zero_add _) sv_us (by rw [List.length_set]; exact hq.1) (fsE.rf.st (by decide)) ((List.getElem?_set_ne (by decide)).trans f_tx) ?_ (fun a p => sv_un p)
    refine (sv_ls (by omega)).trans ?_
    first
      | (have c9 : nI tn ≤ 3 := c_8
         have c8 : ¬ 4 ≤ tn := (by rw [Int32.le_iff_toInt_le, nI_toI (by omega)] at c9; have : (3 : Int32).toInt = 3 := rfl; omega)
         show some (Value.long (jN y)) = some (.long (jN (sg M.1 y)))
         rw [hM1, decide_eq_false c8]
         rfl)
      | (have c9 : ¬ nI tn ≤ 3 := c_8
         have c8 : 4 ≤ tn := (by rw [Int32.le_iff_toInt_le, nI_toI (by omega)] at c9; have : (3 : Int32).toInt = 3 := rfl; omega)
         show some (Value.long (- jN y)) = some (.long (jN (sg M.1 y)))
         rw [hM1, decide_eq_true c8, ← jN_neg]
         rfl)
  · refine v_aload_n dX13_out_11 rfl 0 rfl ?_
    refine v_getf 53 (ci := 11) (C := RX13) (T := TX13) (N := 71) rfl iwX13_out_X13 (Nat.le_of_ble_eq_true rfl) (by decide +kernel) dX13_out_12 (by repeat (first | with_reducible assumption | (with_reducible refine sv_us.trans ?_; exact rfl) | with_reducible refine (sv_un (by omega)).trans ?_)) (by repeat (first | with_reducible assumption | (with_reducible refine (sv_ls (by first | omega | (simp only [List.length_set]; omega))).trans ?_; exact rfl) | with_reducible refine (List.getElem?_set_ne (by decide)).trans ?_)) ?_
    refine v_lneg dX13_out_15 ?_
    refine v_goto (tgt := 23) dX13_out_16 (by decide) ?_
    refine v_putf 53 (fs' := _) (ci := 11) (C := RX13) (T := TX13) (N := 71) (ty := .long) rfl iwX13_out_X13 tyX13 tyX13_ok nmX13 (Nat.le_of_ble_eq_true rfl) (by decide +kernel) rfl rfl dX13_out_23 rfl rfl (by repeat (first | with_reducible assumption | (with_reducible refine sv_us.trans ?_; exact rfl) | with_reducible refine (sv_un (by omega)).trans ?_)) (by first | omega | (simp only [List.length_set]; omega)) rfl ?_
    refine v_iconst (v := 0) dX13_out_26 (by decide) ?_
    refine v_istore_n (L' := [(2, _), (0, _), (1, _)]) dX13_out_27 rfl (Nat.le_of_ble_eq_true rfl) rfl ?_
    refine v_sub (L' := [(2, _), (1, _), (0, _)]) [0, 2, 1] rfl ?_
    refine l_out G tn htn M hM1 hM2 _ b nc np pl hb i hi hpl ft h15 hft gx gy h13 h14 hgx hgy fs0 hq x y (tn % 4) 0 _ _ (Nat.zero_add _) sv_us (by rw [List.length_set]; exact hq.1) (fsE.rf.st (by decide)) ((List.getElem?_set_ne (by decide)).trans f_tx) ?_ (fun a p => sv_un p)
    refine (sv_ls (by omega)).trans ?_
    first
      | (have c9 : nI tn ≤ 3 := c_8
         have c8 : ¬ 4 ≤ tn := (by rw [Int32.le_iff_toInt_le, nI_toI (by omega)] at c9; have : (3 : Int32).toInt = 3 := rfl; omega)
         show some (Value.long (jN y)) = some (.long (jN (sg M.1 y)))
         rw [hM1, decide_eq_false c8]
         rfl)
      | (have c9 : ¬ nI tn ≤ 3 := c_8
         have c8 : 4 ≤ tn := (by rw [Int32.le_iff_toInt_le, nI_toI (by omega)] at c9; have : (3 : Int32).toInt = 3 := rfl; omega)
         show some (Value.long (- jN y)) = some (.long (jN (sg M.1 y)))
         rw [hM1, decide_eq_true c8, ← jN_neg]
         rfl)

