section SVTW
variable {G : sv_G} {M : sv_M} {pc : Nat} {L : List (Nat × Value)} {S : List Value} {h : sv_h} {z ce sl : Nat} {Qr : Option Value → sv_h → Nat → Prop} {Qx : String → sv_h → Nat → Prop}
/-- throw new E("text"), the text by a wide index -/
theorem v_throwW {ik is ic : Nat} {cls text : String} {names : List String} (hl0 : G.1.stackTraces = false) (hown : M.2.2.1.cls = "RuleDeck") (hcls : Bundle.fit cls = true) (hnames : ∀ n ∈ names, Bundle.fit n = true) (hex : cls ∈ sv_ex)
    (hk : Cond.classLink M.2.2.1.cls ik cls ∈ M.2.2.2.1) (hini : Cond.initialized cls ∈ M.2.2.2.1) (hstr : (is, text) ∈ sv_tx) (hgw : ∀ w ∈ (vx_atS M.2.2.1.cls ic cls names).filter goodWord, w ∈ M.2.2.2.1) (hbw : ∀ w ∈ (vx_atS M.2.2.1.cls ic cls names).filter (fun w => !goodWord w), w ∈ (Cond.castable cls cls :: sv_dc.map Cond.declares))
    (hgood : ∀ w ∈ Cond.classLink M.2.2.1.cls ik cls :: Cond.initialized cls :: vx_atS M.2.2.1.cls ic cls names, vx_ot w = true)
    (d0 : decode M.1 pc = .ok (.new ik, 3)) (d3 : decode M.1 (pc + 3) = .ok (.dup, 1)) (d4 : decode M.1 (pc + 4) = .ok (.ldc_w is, 3)) (d7 : decode M.1 (pc + 7) = .ok (.invokespecial ic, 3)) (d10 : decode M.1 (pc + 10) = .ok (.athrow, 1))
    (hh : M.2.2.2.2.2.2 = []) (hRframes : names.length + 3 < M.2.2.2.2.2.1.frames) (hRlocals : (S.map fun v => v.category).sum + (13 * (names.length + 1) + 43) ≤ M.2.2.2.2.2.1.locals) (hRcells : ce + 1 ≤ M.2.2.2.2.2.1.cells) (hRslots : sl + 6 ≤ M.2.2.2.2.2.1.slots)
    (hx : ∀ z' : Nat, z ≤ z' → Qx cls h z') : V G M (sv_XQ G M Qr Qx) pc L S h z ce sl := by
  intro p e s m args below meth c H locs ls C K Z hS hH hl
  have hts := C.2.2.2.2.1
  obtain ⟨sa, hsa⟩ := Z.2.2.1 _ hstr
  have hout : ∀ x ∈ c.exceptionTable.toList, covers x (pc + 10) = false := by
    intro x hx
    rw [C.2.2.2.2.2.2.2.2, hh] at hx
    cases hx
  refine vx_throwSW (sa := sa) (text := text) (is := is) (ik := ik) (ic := ic) (cls := cls) (names := names) (A := sv_A G) (own := M.2.2.1.cls) C.1 C.2.1 hl0 C.2.2.2.1 hcls hnames (hts _ hk) (hts _ hini) (by rw [hown]; exact hsa) ?_ hgood Z.2.1.1 Z.2.1.2 hS (hl.1.trans C.2.2.1.symm) d0 d3 d4 d7 d10 hout hRframes hRlocals hRcells hRslots C.2.2.2.2.2.2.1 ?_ hS.2.2 hRcells hRslots
  · refine vx_hat (B := Cond.castable cls cls :: sv_dc.map Cond.declares) (fun w hw => hts _ (hgw w hw)) hbw (vx_c (va_Nw.use rfl (K.2.2.2.2.2.2.1 _ hex)) fun w hw => ?_)
    obtain ⟨y, hy, rfl⟩ := List.mem_map.mp hw
    exact va_Nw.use rfl (K.2.2.2.2.2.2.2.2 y hy)
  · intro t hA hsz hq
    have hge : z ≤ t.heap.size := by rw [← hH.1]; exact hsz
    refine ⟨⟨h, t.heap.size, hx _ hge, rfl, Nat.le_trans hH.2.1 hge, fun a x ha => ⟨(hH.2.2 a x ha).1, (hH.2.2 a x ha).2.kept (hq a ?_)⟩⟩, Nat.le_trans hS.1 hsz, fun q h1 h2 => (hq q (Nat.lt_of_lt_of_le h1 hS.1)).trans (hS.2.1 q h1 h2)⟩
    rw [hH.1]
    exact hH.lt ha
end SVTW

set_option maxRecDepth 20000 in
theorem ggX13_occurrences_X13_sizeOf : GoodIn wsX13_occurrences wsX13_sizeOf := goodIn_r _ [12, 13, 8, 14, 15, 16, 17, 18, 19, 20, 21, 22, 6, 23, 24, 25, 26, 27, 28, 29, 30, 31, 32, 33, 34, 35, 36, 37, 38, 39, 40, 41, 42, 43, 44, 45, 46, 47, 48, 49, 50, 51, 52, 53, 54, 55, 56, 57, 58, 59, 60, 61, 62, 63, 64, 65, 66, 67, 68, 69, 70, 71, 72, 73, 74, 75, 76, 77, 78, 79, 80, 81, 82, 83, 84, 85, 86, 87, 88, 89, 90, 91, 92, 93, 94, 95, 96, 97, 98, 99, 100, 101, 102, 103, 104, 105, 106, 107, 108, 109, 110, 111, 112, 113, 114, 115] (by decide +kernel) (by decide +kernel)
set_option maxRecDepth 20000 in
theorem gX13_occurrences_X13_sizeOf : GoodIn wsX13_occurrences (wsV RX13 218 RX13 yX13_sizeOf wsX13_sizeOf) := goodIn_app (goodIn_of _ (by decide +kernel)) ggX13_occurrences_X13_sizeOf
set_option maxHeartbeats 4000000 in
set_option maxRecDepth 100000 in
theorem c_occurrences (G : sv_G) (hl0 : G.1.stackTraces = false) (h : sv_h) (z b nc np pl : Nat) (k : Int32) (R : Nat → Bool) (hm p3 p4 pa : Nat → Nat) (fq : Nat → Option Nat) (fh fg : Nat → Int32) (hly : h (b + 1) = some (.inr (1, [.int k, .int (nI nc), .ref (b + 2), .int (nI np), .ref (b + 3), .ref (b + 4), .ref (b + 5), .int (nI pl), .ref (b + 6), .ref (b + 7)]))) (hq2 : ab_Q G h (b + 2) 4 64 fq) (hqa : ∀ p, p < np → fq p = some (pa p) ∧ hm p < nc ∧ pa p ≠ b + 6 ∧ pa p ≠ b + 7 ∧ ∃ (l0 n0 vo ar : Int32) (x1 x2 x3 x4 : Nat), h (pa p) = some (.inr (3, [.int (nI (hm p)), .int l0, .ref x1, .ref x2, .int n0, .int vo, .int (if R p = true then 1 else 0), .int ar, .ref x3, .ref x4]))) (hh1 : ab_I G h (b + 3) 32 fh) (hh2 : ab_I G h (b + 4) 32 fg) (hnc : nc ≤ 16) (hnp : np ≤ 64) (hpl : pl ≤ 32) (hpp : ∀ i, i < pl → fh i = nI (p3 i) ∧ fg i = nI (p4 i) ∧ p3 i < nc ∧ p4 i < nc) (cl : Nat) (hcl : cl < nc) (f0 g0 : Nat → Int32) (hf0 : ab_I G h (b + 6) 16 f0) (hg0 : ab_I G h (b + 7) 16 g0) (tp rd ck wv ru la fo fl lo : Nat) (rc lr lf : Int32) (hb : h b = some (.inr (10, [.ref (b + 1), .ref tp, .ref rd, .ref ck, .ref wv, .ref ru, .int rc, .int lr, .int lf, .ref la, .ref fo, .ref fl, .ref lo]))) : CX G mX12_occurrences [.ref b, .int (nI cl)] h z (fun v h1 z1 => z1 = z ∧ (min 101 (oc_n np pl R hm p3 p4 nc cl)) ≤ 100 ∧ v = some (.int (nI (min 101 (oc_n np pl R hm p3 p4 nc cl)))) ∧ (∃ he1 g1, ab_I G h1 (b + 6) 16 he1 ∧ ab_I G h1 (b + 7) 16 g1) ∧ ∀ a, a ≠ b + 6 → a ≠ b + 7 → h1 a = h a) (fun E h1 z1 => E = "java/lang/UnsupportedOperationException" ∧ ¬ (min 101 (oc_n np pl R hm p3 p4 nc cl)) ≤ 100 ∧ (∃ he1 g1, ab_I G h1 (b + 6) 16 he1 ∧ ab_I G h1 (b + 7) 16 g1) ∧ ∀ a, a ≠ b + 6 → a ≠ b + 7 → h1 a = h a) := by
  refine CX.of (by decide +kernel) rfl rfl (Nat.le_of_ble_eq_true rfl) ?_
  refine v_aload_n dX12_occurrences_0 rfl 0 rfl ?_
  refine v_getf 0 (ci := 10) (C := RX12) (T := TX12) (N := 13) rfl iwX12_occurrences_X12 (Nat.le_of_ble_eq_true rfl) (by decide +kernel) dX12_occurrences_1 (by repeat (first | (with_reducible refine sv_us.trans ?_; exact rfl) | with_reducible assumption | with_reducible refine (sv_un (by omega)).trans ?_)) (by exact rfl) ?_
  refine v_iload_n dX12_occurrences_4 rfl 1 rfl ?_
  refine v_callVq (M' := mX3_hasCell) (n := 1) (As := [_]) (ci := 1) (r := (RX3, TX3, 10)) gX12_occurrences_X3_hasCell rfl (by decide +kernel) ⟨(Nat.le_of_ble_eq_true rfl), (Nat.le_of_ble_eq_true rfl)⟩ rfl rfl dX12_occurrences_5 rfl ⟨(Nat.le_of_ble_eq_true rfl), (Nat.le_of_ble_eq_true rfl)⟩ (Nat.le_of_ble_eq_true rfl) (by repeat (first | (with_reducible refine sv_us.trans ?_; exact rfl) | with_reducible assumption | with_reducible refine (sv_un (by omega)).trans ?_)) rfl (c_hasCell G _ _ _ _ _ _ _ _ _ _ _ _ _ _ hly) (fun v h1 z1 hq => ?_)
  rw [if_pos (show 0 ≤ nI cl ∧ nI cl < nI nc from ⟨nI_le (a := 0) (by omega) (by omega), nI_lt (by omega) (by omega)⟩)] at hq
  obtain ⟨rfl, rfl, rfl⟩ := hq
  refine v_if_ne (tgt := 21) dX12_occurrences_8 (by decide) (fun c_8 => ?_) (fun c_8 => ?_)
  · refine v_aload_n dX12_occurrences_21 rfl 0 rfl ?_
    refine v_getf 0 (ci := 10) (C := RX12) (T := TX12) (N := 13) rfl iwX12_occurrences_X12 (Nat.le_of_ble_eq_true rfl) (by decide +kernel) dX12_occurrences_22 (by repeat (first | (with_reducible refine sv_us.trans ?_; exact rfl) | with_reducible assumption | with_reducible refine (sv_un (by omega)).trans ?_)) (by exact rfl) ?_
    refine v_iload_n dX12_occurrences_25 rfl 1 rfl ?_
    refine v_callVq (M' := mX3_tally) (n := 1) (As := [_]) (ci := 1) (r := (RX3, TX3, 10)) gX12_occurrences_X3_tally rfl (by decide +kernel) ⟨(Nat.le_of_ble_eq_true rfl), (Nat.le_of_ble_eq_true rfl)⟩ rfl rfl dX12_occurrences_26 rfl ⟨(Nat.le_of_ble_eq_true rfl), (Nat.le_of_ble_eq_true rfl)⟩ (Nat.le_of_ble_eq_true rfl) (by repeat (first | (with_reducible refine sv_us.trans ?_; exact rfl) | with_reducible assumption | with_reducible refine (sv_un (by omega)).trans ?_)) rfl (c_tally G _ _ b nc np pl k R hm p3 p4 pa fq fh fg hly hq2 hqa hh1 hh2 hnc hnp hpl hpp cl hcl f0 g0 hf0 hg0) (fun v h1 z1 hq => ?_)
    obtain ⟨rfl, rfl, ⟨he1, g1, u1, u2, u3⟩, u4⟩ := hq
    refine v_istore_n (L' := [(2, _), (0, _), (1, _)]) dX12_occurrences_29 rfl (Nat.le_of_ble_eq_true rfl) rfl ?_
    refine v_iload_n dX12_occurrences_30 rfl 0 rfl ?_
    refine v_bipush (v := 100) dX12_occurrences_31 (by decide) ?_
    refine v_icmp_le (tgt := 47) dX12_occurrences_33 (by decide) (fun c_33 => ?_) (fun c_33 => ?_)
    · refine v_iload_n dX12_occurrences_47 rfl 0 rfl ?_
      exact v_xret (v_iret rfl dX12_occurrences_48 (Nat.le_of_ble_eq_true rfl) (Nat.le_of_ble_eq_true rfl) rfl ⟨rfl, (nI_leI (b := 100) (by omega) (by omega)).mp c_33, rfl, ⟨he1, g1, u1, u3⟩, u4⟩)
    · exact v_throwW (ik := 202) (is := 261) (ic := 206) (cls := "java/lang/UnsupportedOperationException") (text := "too many occurrences") (names := ["java/lang/RuntimeException", "java/lang/Exception"]) hl0 rfl (by decide +kernel) (by decide +kernel) (by decide +kernel) (by decide +kernel) (by decide +kernel) (by decide +kernel) (by decide +kernel) sv_bwU (by decide +kernel) dX12_occurrences_36 dX12_occurrences_39 dX12_occurrences_40 dX12_occurrences_43 dX12_occurrences_46 rfl (Nat.le_of_ble_eq_true rfl) (Nat.le_of_ble_eq_true rfl) (Nat.le_of_ble_eq_true rfl) (Nat.le_of_ble_eq_true rfl) (fun z9 hz9 => ⟨rfl, fun q => c_33 (nI_le (b := 100) q (by omega)), ⟨he1, g1, u1, u3⟩, u4⟩)
  · exact absurd c_8 (by decide)

set_option maxHeartbeats 4000000 in
set_option maxRecDepth 100000 in
theorem m_occurrences (G : sv_G) (h : sv_h) (z b nc np pl : Nat) (fs : List Value) (R : Nat → Bool) (hm p3 p4 : Nat → Nat) (sz : Nat → Nat) (u : Nat → Nat → Nat → Int32) (ow gs fh fg : Nat → Int32) (gx gy : Nat → Int64) (hlen : fs.length = 71) (hmo : h (b + 220) = some (.inr (11, fs))) (f_cells : fs[2]? = some (.int (nI nc))) (f_polygons : fs[3]? = some (.int (nI np))) (f_places : fs[10]? = some (.int (nI pl))) (f_owner : fs[4]? = some (.ref (b + 221))) (f_size : fs[7]? = some (.ref (b + 224))) (f_px : fs[8]? = some (.ref (b + 225))) (f_py : fs[9]? = some (.ref (b + 226))) (f_placeIn : fs[11]? = some (.ref (b + 227))) (f_placeOf : fs[12]? = some (.ref (b + 228))) (f_sizes : fs[42]? = some (.ref (b + 248))) (r1 : ab_I G h (b + 221) 64 ow) (hgs : ab_I G h (b + 224) 64 gs) (hgx : ab_J G h (b + 225) 1024 gx) (hgy : ab_J G h (b + 226) 1024 gy) (hh1 : ab_I G h (b + 227) 32 fh) (hh2 : ab_I G h (b + 228) 32 fg) (hnc : nc ≤ 16) (hnp : np ≤ 64) (hpl : pl ≤ 32) (hpp : ∀ i, i < pl → fh i = nI (p3 i) ∧ fg i = nI (p4 i) ∧ p3 i < nc ∧ p4 i < nc) (hpo : ∀ p, p < np → ow p = nI (hm p) ∧ hm p < nc ∧ gs p = nI (sz p) ∧ sz p ≤ 16 ∧ (∀ i, i < sz p → gx (16 * p + i) = (u 0 p i).toInt64) ∧ (∀ i, i < sz p → gy (16 * p + i) = (u 1 p i).toInt64) ∧ (R p = true ↔ gm_mr (sz p) (u 0 p) (u 1 p))) (rk : Nat → Nat) (hrk : ∀ i, i < pl → rk (p4 i) < rk (p3 i)) (hrn : ∀ c, c < nc → rk c < nc) (cl : Nat) (hcl : cl < nc) (f0 : Nat → Int64) (hf0 : ab_J G h (b + 248) 16 f0) : CT G mX13_occurrences [.ref (b + 220), .int (nI cl)] h z (fun v h1 z1 => z1 = z ∧ (∃ f, ab_J G h1 (b + 248) 16 f) ∧ (((min 100000 (oc_n np pl R hm p3 p4 16 cl)) ≤ 100 ∧ v = some (.int (nI (min 100000 (oc_n np pl R hm p3 p4 16 cl)))) ∧ h1 (b + 220) = some (.inr (11, (fs.set 0 (.int 0)).set 0 (.int 0)))) ∨ (¬ (min 100000 (oc_n np pl R hm p3 p4 16 cl)) ≤ 100 ∧ v = some (.int 0) ∧ h1 (b + 220) = some (.inr (11, (fs.set 0 (.int 0)).set 0 (.int 2))))) ∧ ∀ a, a ≠ b + 220 → a ≠ b + 248 → h1 a = h a) := by
  refine CT.of (by decide +kernel) rfl rfl (Nat.le_of_ble_eq_true rfl) ?_
  refine v_aload_n dX13_occurrences_0 rfl 0 rfl ?_
  refine v_aload_n dX13_occurrences_1 rfl 0 rfl ?_
  refine v_iload_n dX13_occurrences_2 rfl 1 rfl ?_
  refine v_callVq (M' := mX13_isCell) (n := 1) (As := [_]) (ci := 11) (r := (RX13, TX13, 71)) gX13_occurrences_X13_isCell rfl (by decide +kernel) ⟨(Nat.le_of_ble_eq_true rfl), (Nat.le_of_ble_eq_true rfl)⟩ rfl rfl dX13_occurrences_3 rfl ⟨(Nat.le_of_ble_eq_true rfl), (Nat.le_of_ble_eq_true rfl)⟩ (Nat.le_of_ble_eq_true rfl) (by repeat (first | (with_reducible refine sv_us.trans ?_; exact rfl) | with_reducible assumption | with_reducible refine (sv_un (by omega)).trans ?_)) rfl (m_isCell G _ _ _ _ hlen hmo _ _ f_cells) (fun v h1 z1 hq => ?_)
  rw [if_pos (show 0 ≤ nI cl ∧ nI cl < nI nc from ⟨nI_le (a := 0) (by omega) (by omega), nI_lt (by omega) (by omega)⟩)] at hq
  obtain ⟨rfl, rfl, rfl⟩ := hq
  refine v_if_eq (tgt := 13) dX13_occurrences_6 (by decide) (fun c_6 => ?_) (fun c_6 => ?_)
  · exact absurd c_6 (by decide)
  · refine v_iconst (v := 0) dX13_occurrences_9 (by decide) ?_
    refine v_goto (tgt := 14) dX13_occurrences_10 (by decide) ?_
    refine v_putf 0 (fs' := _) (ci := 11) (C := RX13) (T := TX13) (N := 71) (ty := .int) rfl iwX13_occurrences_X13 tyX13 tyX13_ok nmX13 (Nat.le_of_ble_eq_true rfl) (by decide +kernel) rfl rfl dX13_occurrences_14 rfl rfl (by repeat (first | (with_reducible refine sv_us.trans ?_; exact rfl) | with_reducible assumption | with_reducible refine (sv_un (by omega)).trans ?_)) (by first | omega | (simp only [List.length_set]; omega)) rfl ?_
    refine v_aload_n dX13_occurrences_17 rfl 0 rfl ?_
    refine v_getf 0 (ci := 11) (C := RX13) (T := TX13) (N := 71) rfl iwX13_occurrences_X13 (Nat.le_of_ble_eq_true rfl) (by decide +kernel) dX13_occurrences_18 (by repeat (first | (with_reducible refine sv_us.trans ?_; exact rfl) | with_reducible assumption | with_reducible refine (sv_un (by omega)).trans ?_)) (by repeat (first | with_reducible assumption | (with_reducible refine (sv_ls (by first | omega | (simp only [List.length_set]; omega))).trans ?_; exact rfl) | with_reducible refine (List.getElem?_set_ne (by decide)).trans ?_)) ?_
    refine v_if_le (tgt := 26) dX13_occurrences_21 (by decide) (fun c_21 => ?_) (fun c_21 => ?_)
    · refine v_aload_n dX13_occurrences_26 rfl 0 rfl ?_
      refine v_iload_n dX13_occurrences_27 rfl 1 rfl ?_
      refine v_callVq (M' := mX13_sizeOf) (n := 1) (As := [_]) (ci := 11) (r := (RX13, TX13, 71)) gX13_occurrences_X13_sizeOf rfl (by decide +kernel) ⟨(Nat.le_of_ble_eq_true rfl), (Nat.le_of_ble_eq_true rfl)⟩ rfl rfl dX13_occurrences_28 rfl ⟨(Nat.le_of_ble_eq_true rfl), (Nat.le_of_ble_eq_true rfl)⟩ (Nat.le_of_ble_eq_true rfl) (by repeat (first | (with_reducible refine sv_us.trans ?_; exact rfl) | with_reducible assumption | with_reducible refine (sv_un (by omega)).trans ?_)) rfl (m_sizeOf G _ _ b nc np pl (fs.set 0 (.int 0)) R hm p3 p4 sz u ow gs fh fg gx gy (by rw [List.length_set]; exact hlen) sv_us ((List.getElem?_set_ne (by decide)).trans f_cells) ((List.getElem?_set_ne (by decide)).trans f_polygons) ((List.getElem?_set_ne (by decide)).trans f_places) ((List.getElem?_set_ne (by decide)).trans f_owner) ((List.getElem?_set_ne (by decide)).trans f_size) ((List.getElem?_set_ne (by decide)).trans f_px) ((List.getElem?_set_ne (by decide)).trans f_py) ((List.getElem?_set_ne (by decide)).trans f_placeIn) ((List.getElem?_set_ne (by decide)).trans f_placeOf) ((List.getElem?_set_ne (by decide)).trans f_sizes) (by repeat (first | with_reducible assumption | with_reducible refine (sv_un (by omega)).trans ?_)) (by repeat (first | with_reducible assumption | with_reducible refine (sv_un (by omega)).trans ?_)) (by repeat (first | with_reducible assumption | with_reducible refine (sv_un (by omega)).trans ?_)) (by repeat (first | with_reducible assumption | with_reducible refine (sv_un (by omega)).trans ?_)) (by repeat (first | with_reducible assumption | with_reducible refine (sv_un (by omega)).trans ?_)) (by repeat (first | with_reducible assumption | with_reducible refine (sv_un (by omega)).trans ?_)) hnc hnp hpl hpp hpo rk hrk hrn cl hcl f0 (by repeat (first | with_reducible assumption | with_reducible refine (sv_un (by omega)).trans ?_))) (fun v h1 z1 hq => ?_)
      obtain ⟨rfl, rfl, ⟨f1, u1, u2⟩, u4⟩ := hq
      have hm4 := (u4 (b + 220) (by omega)).trans sv_us
      refine v_lstore_n (L' := [(2, _), (0, _), (1, _)]) dX13_occurrences_31 rfl (Nat.le_of_ble_eq_true rfl) rfl ?_
      refine v_aload_n dX13_occurrences_32 rfl 1 rfl ?_
      refine v_lload_n dX13_occurrences_33 rfl 0 rfl ?_
      refine v_ldc2 (v := (100)) (by decide +kernel) dX13_occurrences_34 ?_
      refine v_lcmp_le (tgt := 45) dX13_occurrences_37 dX13_occurrences_38 (by decide) (fun c_38 => ?_) (fun c_38 => ?_)
      · refine v_iconst (v := 0) dX13_occurrences_45 (by decide) ?_
        refine v_putf 0 (fs' := _) (ci := 11) (C := RX13) (T := TX13) (N := 71) (ty := .int) rfl iwX13_occurrences_X13 tyX13 tyX13_ok nmX13 (Nat.le_of_ble_eq_true rfl) (by decide +kernel) rfl rfl dX13_occurrences_46 rfl rfl (by repeat (first | (with_reducible refine sv_us.trans ?_; exact rfl) | with_reducible assumption | with_reducible refine (sv_un (by omega)).trans ?_)) (by first | omega | (simp only [List.length_set]; omega)) rfl ?_
        refine v_aload_n dX13_occurrences_49 rfl 1 rfl ?_
        refine v_getf 0 (ci := 11) (C := RX13) (T := TX13) (N := 71) rfl iwX13_occurrences_X13 (Nat.le_of_ble_eq_true rfl) (by decide +kernel) dX13_occurrences_50 (by repeat (first | (with_reducible refine sv_us.trans ?_; exact rfl) | with_reducible assumption | with_reducible refine (sv_un (by omega)).trans ?_)) (by repeat (first | with_reducible assumption | (with_reducible refine (sv_ls (by first | omega | (simp only [List.length_set]; omega))).trans ?_; exact rfl) | with_reducible refine (List.getElem?_set_ne (by decide)).trans ?_)) ?_
        refine v_if_le (tgt := 60) dX13_occurrences_53 (by decide) (fun c_53 => ?_) (fun c_53 => ?_)
        · refine v_lload_n dX13_occurrences_60 rfl 0 rfl ?_
          refine v_l2i dX13_occurrences_61 rfl ?_
          exact v_iret rfl dX13_occurrences_62 (Nat.le_of_ble_eq_true rfl) (Nat.le_of_ble_eq_true rfl) rfl ⟨rfl, ⟨f1, (sv_un (by omega)).trans u1⟩, (by first | exact absurd (by decide) c_53 | exact absurd c_53 (by decide) | exact Or.inl ⟨(lN_le (b := 100) (by omega) (by omega)).mp c_38, by rw [lN_i], sv_us⟩ | exact Or.inr ⟨fun q => c_38 ((lN_le (b := 100) (by omega) (by omega)).mpr q), rfl, sv_us⟩), fun a q1 q2 => (sv_un q1).trans ((u4 a q2).trans (sv_un q1))⟩
        · refine v_iconst (v := 0) dX13_occurrences_56 (by decide) ?_
          refine v_goto (tgt := 62) dX13_occurrences_57 (by decide) ?_
          exact v_iret rfl dX13_occurrences_62 (Nat.le_of_ble_eq_true rfl) (Nat.le_of_ble_eq_true rfl) rfl ⟨rfl, ⟨f1, (sv_un (by omega)).trans u1⟩, (by first | exact absurd (by decide) c_53 | exact absurd c_53 (by decide) | exact Or.inl ⟨(lN_le (b := 100) (by omega) (by omega)).mp c_38, by rw [lN_i], sv_us⟩ | exact Or.inr ⟨fun q => c_38 ((lN_le (b := 100) (by omega) (by omega)).mpr q), rfl, sv_us⟩), fun a q1 q2 => (sv_un q1).trans ((u4 a q2).trans (sv_un q1))⟩
      · refine v_iconst (v := 2) dX13_occurrences_41 (by decide) ?_
        refine v_goto (tgt := 46) dX13_occurrences_42 (by decide) ?_
        refine v_putf 0 (fs' := _) (ci := 11) (C := RX13) (T := TX13) (N := 71) (ty := .int) rfl iwX13_occurrences_X13 tyX13 tyX13_ok nmX13 (Nat.le_of_ble_eq_true rfl) (by decide +kernel) rfl rfl dX13_occurrences_46 rfl rfl (by repeat (first | (with_reducible refine sv_us.trans ?_; exact rfl) | with_reducible assumption | with_reducible refine (sv_un (by omega)).trans ?_)) (by first | omega | (simp only [List.length_set]; omega)) rfl ?_
        refine v_aload_n dX13_occurrences_49 rfl 1 rfl ?_
        refine v_getf 0 (ci := 11) (C := RX13) (T := TX13) (N := 71) rfl iwX13_occurrences_X13 (Nat.le_of_ble_eq_true rfl) (by decide +kernel) dX13_occurrences_50 (by repeat (first | (with_reducible refine sv_us.trans ?_; exact rfl) | with_reducible assumption | with_reducible refine (sv_un (by omega)).trans ?_)) (by repeat (first | with_reducible assumption | (with_reducible refine (sv_ls (by first | omega | (simp only [List.length_set]; omega))).trans ?_; exact rfl) | with_reducible refine (List.getElem?_set_ne (by decide)).trans ?_)) ?_
        refine v_if_le (tgt := 60) dX13_occurrences_53 (by decide) (fun c_53 => ?_) (fun c_53 => ?_)
        · refine v_lload_n dX13_occurrences_60 rfl 0 rfl ?_
          refine v_l2i dX13_occurrences_61 rfl ?_
          exact v_iret rfl dX13_occurrences_62 (Nat.le_of_ble_eq_true rfl) (Nat.le_of_ble_eq_true rfl) rfl ⟨rfl, ⟨f1, (sv_un (by omega)).trans u1⟩, (by first | exact absurd (by decide) c_53 | exact absurd c_53 (by decide) | exact Or.inl ⟨(lN_le (b := 100) (by omega) (by omega)).mp c_38, by rw [lN_i], sv_us⟩ | exact Or.inr ⟨fun q => c_38 ((lN_le (b := 100) (by omega) (by omega)).mpr q), rfl, sv_us⟩), fun a q1 q2 => (sv_un q1).trans ((u4 a q2).trans (sv_un q1))⟩
        · refine v_iconst (v := 0) dX13_occurrences_56 (by decide) ?_
          refine v_goto (tgt := 62) dX13_occurrences_57 (by decide) ?_
          exact v_iret rfl dX13_occurrences_62 (Nat.le_of_ble_eq_true rfl) (Nat.le_of_ble_eq_true rfl) rfl ⟨rfl, ⟨f1, (sv_un (by omega)).trans u1⟩, (by first | exact absurd (by decide) c_53 | exact absurd c_53 (by decide) | exact Or.inl ⟨(lN_le (b := 100) (by omega) (by omega)).mp c_38, by rw [lN_i], sv_us⟩ | exact Or.inr ⟨fun q => c_38 ((lN_le (b := 100) (by omega) (by omega)).mpr q), rfl, sv_us⟩), fun a q1 q2 => (sv_un q1).trans ((u4 a q2).trans (sv_un q1))⟩
    · exact absurd (by decide) c_21

