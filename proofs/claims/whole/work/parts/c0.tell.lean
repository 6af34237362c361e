theorem iwX12_tellFlat_X12 : ∀ w ∈ wsX120, w ∈ wsX12_tellFlat := by decide +kernel
theorem iwX12_tellByCells_X12 : ∀ w ∈ wsX120, w ∈ wsX12_tellByCells := by decide +kernel
set_option maxRecDepth 20000 in
theorem ggX12_tellFlat_X11_dropFrom : GoodIn wsX12_tellFlat wsX11_dropFrom := goodIn_r _ [7, 8, 9, 10, 11, 12, 13, 6, 14, 15, 16, 17, 18, 19, 20, 21, 22, 23, 24, 25, 26, 27, 28, 29, 30, 31, 68, 69, 70, 71, 72, 73, 74, 75, 76, 77] (by decide +kernel) (by decide +kernel)
set_option maxRecDepth 20000 in
theorem gX12_tellFlat_X11_dropFrom : GoodIn wsX12_tellFlat (wsV RX12 271 RX11 yX11_dropFrom wsX11_dropFrom) := goodIn_app (goodIn_of _ (by decide +kernel)) ggX12_tellFlat_X11_dropFrom
set_option maxRecDepth 20000 in
theorem ggX12_tellFlat_X10_sort : GoodIn wsX12_tellFlat wsX10_sort := goodIn_r _ [35, 36, 37, 38, 39, 40, 26, 41, 42, 43, 44, 23, 45, 46, 47, 48, 49, 25, 50, 21, 22, 24, 51, 52, 53, 54, 68, 69, 70, 71, 72, 73, 74] (by decide +kernel) (by decide +kernel)
set_option maxRecDepth 20000 in
theorem gX12_tellFlat_X10_sort : GoodIn wsX12_tellFlat (wsV RX12 243 RX10 yX10_sort wsX10_sort) := goodIn_app (goodIn_of _ (by decide +kernel)) ggX12_tellFlat_X10_sort
theorem dX12_tellFlat_0 : decode cX12_tellFlat 0 = .ok (.aload_n 0, 1) := by decide +kernel
theorem dX12_tellFlat_1 : decode cX12_tellFlat 1 = .ok (.getfield 47, 3) := by decide +kernel
theorem dX12_tellFlat_4 : decode cX12_tellFlat 4 = .ok (.aload_n 0, 1) := by decide +kernel
theorem dX12_tellFlat_5 : decode cX12_tellFlat 5 = .ok (.getfield 68, 3) := by decide +kernel
theorem dX12_tellFlat_8 : decode cX12_tellFlat 8 = .ok (.iload_n 1, 1) := by decide +kernel
theorem dX12_tellFlat_9 : decode cX12_tellFlat 9 = .ok (.invokevirtual 271, 3) := by decide +kernel
theorem dX12_tellFlat_12 : decode cX12_tellFlat 12 = .ok (.aload_n 0, 1) := by decide +kernel
theorem dX12_tellFlat_13 : decode cX12_tellFlat 13 = .ok (.getfield 68, 3) := by decide +kernel
theorem dX12_tellFlat_16 : decode cX12_tellFlat 16 = .ok (.iconst 0, 1) := by decide +kernel
theorem dX12_tellFlat_17 : decode cX12_tellFlat 17 = .ok (.invokevirtual 243, 3) := by decide +kernel
theorem dX12_tellFlat_20 : decode cX12_tellFlat 20 = .ok (.return_, 1) := by decide +kernel
set_option maxRecDepth 20000 in
theorem ggX12_tellByCells_X11_dropFrom : GoodIn wsX12_tellByCells wsX11_dropFrom := goodIn_r _ [7, 8, 9, 10, 11, 12, 13, 6, 14, 15, 16, 17, 18, 19, 20, 21, 22, 23, 24, 25, 26, 27, 28, 29, 30, 31, 72, 73, 74, 75, 76, 77, 78, 79, 80, 81] (by decide +kernel) (by decide +kernel)
set_option maxRecDepth 20000 in
theorem gX12_tellByCells_X11_dropFrom : GoodIn wsX12_tellByCells (wsV RX12 271 RX11 yX11_dropFrom wsX11_dropFrom) := goodIn_app (goodIn_of _ (by decide +kernel)) ggX12_tellByCells_X11_dropFrom
set_option maxRecDepth 20000 in
theorem ggX12_tellByCells_X10_sort : GoodIn wsX12_tellByCells wsX10_sort := goodIn_r _ [35, 36, 37, 38, 39, 40, 26, 41, 42, 43, 44, 23, 45, 46, 47, 48, 49, 25, 50, 21, 22, 24, 51, 52, 53, 54, 72, 73, 74, 75, 76, 77, 78] (by decide +kernel) (by decide +kernel)
set_option maxRecDepth 20000 in
theorem gX12_tellByCells_X10_sort : GoodIn wsX12_tellByCells (wsV RX12 243 RX10 yX10_sort wsX10_sort) := goodIn_app (goodIn_of _ (by decide +kernel)) ggX12_tellByCells_X10_sort
set_option maxRecDepth 20000 in
theorem ggX12_tellByCells_X10_dropRepeats : GoodIn wsX12_tellByCells wsX10_dropRepeats := goodIn_r _ [58, 36, 26, 46, 47, 48, 23, 49, 25, 50, 21, 22, 24, 51, 52, 53, 54, 72, 73, 74, 75, 76, 77, 78] (by decide +kernel) (by decide +kernel)
set_option maxRecDepth 20000 in
theorem gX12_tellByCells_X10_dropRepeats : GoodIn wsX12_tellByCells (wsV RX12 275 RX10 yX10_dropRepeats wsX10_dropRepeats) := goodIn_app (goodIn_of _ (by decide +kernel)) ggX12_tellByCells_X10_dropRepeats
theorem dX12_tellByCells_0 : decode cX12_tellByCells 0 = .ok (.aload_n 0, 1) := by decide +kernel
theorem dX12_tellByCells_1 : decode cX12_tellByCells 1 = .ok (.getfield 47, 3) := by decide +kernel
theorem dX12_tellByCells_4 : decode cX12_tellByCells 4 = .ok (.aload_n 0, 1) := by decide +kernel
theorem dX12_tellByCells_5 : decode cX12_tellByCells 5 = .ok (.getfield 65, 3) := by decide +kernel
theorem dX12_tellByCells_8 : decode cX12_tellByCells 8 = .ok (.iload_n 1, 1) := by decide +kernel
theorem dX12_tellByCells_9 : decode cX12_tellByCells 9 = .ok (.invokevirtual 271, 3) := by decide +kernel
theorem dX12_tellByCells_12 : decode cX12_tellByCells 12 = .ok (.aload_n 0, 1) := by decide +kernel
theorem dX12_tellByCells_13 : decode cX12_tellByCells 13 = .ok (.getfield 65, 3) := by decide +kernel
theorem dX12_tellByCells_16 : decode cX12_tellByCells 16 = .ok (.iconst 1, 1) := by decide +kernel
theorem dX12_tellByCells_17 : decode cX12_tellByCells 17 = .ok (.invokevirtual 243, 3) := by decide +kernel
theorem dX12_tellByCells_20 : decode cX12_tellByCells 20 = .ok (.aload_n 0, 1) := by decide +kernel
theorem dX12_tellByCells_21 : decode cX12_tellByCells 21 = .ok (.getfield 65, 3) := by decide +kernel
theorem dX12_tellByCells_24 : decode cX12_tellByCells 24 = .ok (.invokevirtual 275, 3) := by decide +kernel
theorem dX12_tellByCells_27 : decode cX12_tellByCells 27 = .ok (.return_, 1) := by decide +kernel

abbrev mX12_tellFlat : sv_M := (cX12_tellFlat, 2, yX12_tellFlat, wsX12_tellFlat, none, { frames := 8, cells := 0, slots := 0, locals := 260 }, [])
abbrev mX12_tellByCells : sv_M := (cX12_tellByCells, 2, yX12_tellByCells, wsX12_tellByCells, none, { frames := 8, cells := 0, slots := 0, locals := 260 }, [])
set_option maxHeartbeats 4000000 in
set_option maxRecDepth 100000 in
theorem c_tellFlat (G : sv_G) (z b t n : Nat) (wr : Nat → Int64) (rl : Int32) (L : List (List Int64)) (hb : sv_h) (hw : hb (b + 180) = some (.inr (9, [.ref (b + 181), .ref (b + 182), .int (nI n)]))) (rf : Nat → Int64) (hrf : ab_J G hb (b + 181) 320 rf) (hwr : ∀ k, k < n → ∀ j, j < 8 → rf (8 * k + j) = wr (8 * k + j)) (hn : n ≤ 40) (ht1 : b + 204 ≤ t) (ht2 : t < b + 216) (ru nr u1 u2 : Nat) (lX lf : Int32) (hD : hb b = some (.inr (10, [.ref (b + 1), .ref (b + 8), .ref (b + 10), .ref (b + 32), .ref (b + 180), .ref ru, .int (nI nr), .int lX, .int lf, .ref u1, .ref u2, .ref t, .ref (b + 216)]))) (h8 : ∃ f, ab_J G hb (b + 182) 8 f) (H : tO G hb t L) : CT G mX12_tellFlat [.ref b, .int rl] hb z (fun v h1 z1 => v = none ∧ z1 = z ∧ (∃ L1 : List (List Int64), tO G h1 t L1 ∧ L1.Perm (L.filter (fun r => !cvB wr n rl r)) ∧ L1.Pairwise (fun x y => leR false x y = true)) ∧ (∃ f, ab_J G h1 (b + 182) 8 f) ∧ ∀ a, a ≠ b + 182 → ¬ (t ≤ a ∧ a < t + 4) → h1 a = hb a) := by
  refine CT.of (by decide +kernel) rfl rfl (Nat.le_of_ble_eq_true rfl) ?_
  obtain ⟨_, cx, cus, cov, chm, cod, cw, _, cc2, _⟩ := H.ob
  refine v_aload_n dX12_tellFlat_0 rfl 0 rfl ?_
  refine v_getf 4 (ci := 10) (C := RX12) (T := TX12) (N := 13) rfl iwX12_tellFlat_X12 (Nat.le_of_ble_eq_true rfl) (by decide +kernel) dX12_tellFlat_1 (by first | with_reducible assumption) rfl ?_
  refine v_aload_n dX12_tellFlat_4 rfl 0 rfl ?_
  refine v_getf 11 (ci := 10) (C := RX12) (T := TX12) (N := 13) rfl iwX12_tellFlat_X12 (Nat.le_of_ble_eq_true rfl) (by decide +kernel) dX12_tellFlat_5 (by first | with_reducible assumption) rfl ?_
  refine v_iload_n dX12_tellFlat_8 rfl 1 rfl ?_
  refine v_callVq (M' := mX11_dropFrom) (n := 2) (As := [_, _]) (ci := 9) (r := (RX11, TX11, 3)) gX12_tellFlat_X11_dropFrom rfl (by decide +kernel) ⟨(Nat.le_of_ble_eq_true rfl), (Nat.le_of_ble_eq_true rfl)⟩ rfl rfl dX12_tellFlat_9 rfl ⟨(Nat.le_of_ble_eq_true rfl), (Nat.le_of_ble_eq_true rfl)⟩ (Nat.le_of_ble_eq_true rfl) (by first | with_reducible assumption) rfl (c_dropFrom G _ b t n wr rl L hb hw rf hrf hwr hn ht1 ht2 h8 H) (fun v h1 z1 hq9 => ?_)
  obtain ⟨rfl, rfl, H1, g8, fr1⟩ := hq9
  have hD1 := (fr1 b (by omega) (by omega)).trans hD
  obtain ⟨_, ax, aus, aov, ahm, aod, aw, _, a2, _⟩ := H1.ob
  refine v_aload_n dX12_tellFlat_12 rfl 0 rfl ?_
  refine v_getf 11 (ci := 10) (C := RX12) (T := TX12) (N := 13) rfl iwX12_tellFlat_X12 (Nat.le_of_ble_eq_true rfl) (by decide +kernel) dX12_tellFlat_13 (by first | with_reducible assumption) rfl ?_
  refine v_iconst (v := 0) dX12_tellFlat_16 (by decide) ?_
  refine v_callVq (M' := mX10_sort) (n := 1) (As := [_]) (ci := 8) (r := (RX10, TX10, 7)) gX12_tellFlat_X10_sort rfl (by decide +kernel) ⟨(Nat.le_of_ble_eq_true rfl), (Nat.le_of_ble_eq_true rfl)⟩ rfl rfl dX12_tellFlat_17 rfl ⟨(Nat.le_of_ble_eq_true rfl), (Nat.le_of_ble_eq_true rfl)⟩ (Nat.le_of_ble_eq_true rfl) (by first | with_reducible assumption) rfl (c_sort G h1 _ t false _ H1) (fun v h2 z2 hq9 => ?_)
  obtain ⟨rfl, rfl, L1, H2, P2, S2, fr2⟩ := hq9
  have hD2 := (fr2 b (by omega)).trans hD1
  obtain ⟨f8, e8⟩ := g8
  obtain ⟨_, bx, bus, bov, bhm, bod, bw, _, b2, _⟩ := H2.ob
  exact v_ret rfl dX12_tellFlat_20 (Nat.le_of_ble_eq_true rfl) (Nat.le_of_ble_eq_true rfl) ⟨rfl, rfl, ⟨L1, H2, P2, S2⟩, ⟨f8, (fr2 _ (by omega)).trans e8⟩, fun a p1 p2 => (fr2 a p2).trans (fr1 a p1 p2)⟩

set_option maxHeartbeats 4000000 in
set_option maxRecDepth 100000 in
theorem c_tellByCells (G : sv_G) (z b t n : Nat) (wr : Nat → Int64) (rl : Int32) (L : List (List Int64)) (hb : sv_h) (hw : hb (b + 180) = some (.inr (9, [.ref (b + 181), .ref (b + 182), .int (nI n)]))) (rf : Nat → Int64) (hrf : ab_J G hb (b + 181) 320 rf) (hwr : ∀ k, k < n → ∀ j, j < 8 → rf (8 * k + j) = wr (8 * k + j)) (hn : n ≤ 40) (ht1 : b + 204 ≤ t) (ht2 : t < b + 216) (ru nr u1 u2 : Nat) (lX lf : Int32) (hD : hb b = some (.inr (10, [.ref (b + 1), .ref (b + 8), .ref (b + 10), .ref (b + 32), .ref (b + 180), .ref ru, .int (nI nr), .int lX, .int lf, .ref u1, .ref t, .ref u2, .ref (b + 216)]))) (h8 : ∃ f, ab_J G hb (b + 182) 8 f) (H : tO G hb t L) : CT G mX12_tellByCells [.ref b, .int rl] hb z (fun v h1 z1 => v = none ∧ z1 = z ∧ (∃ L1 : List (List Int64), tO G h1 t (ddN L1 L1.length) ∧ L1.Perm (L.filter (fun r => !cvB wr n rl r)) ∧ L1.Pairwise (fun x y => leR true x y = true)) ∧ (∃ f, ab_J G h1 (b + 182) 8 f) ∧ ∀ a, a ≠ b + 182 → ¬ (t ≤ a ∧ a < t + 4) → h1 a = hb a) := by
  refine CT.of (by decide +kernel) rfl rfl (Nat.le_of_ble_eq_true rfl) ?_
  obtain ⟨_, cx, cus, cov, chm, cod, cw, _, cc2, _⟩ := H.ob
  refine v_aload_n dX12_tellByCells_0 rfl 0 rfl ?_
  refine v_getf 4 (ci := 10) (C := RX12) (T := TX12) (N := 13) rfl iwX12_tellByCells_X12 (Nat.le_of_ble_eq_true rfl) (by decide +kernel) dX12_tellByCells_1 (by first | with_reducible assumption) rfl ?_
  refine v_aload_n dX12_tellByCells_4 rfl 0 rfl ?_
  refine v_getf 10 (ci := 10) (C := RX12) (T := TX12) (N := 13) rfl iwX12_tellByCells_X12 (Nat.le_of_ble_eq_true rfl) (by decide +kernel) dX12_tellByCells_5 (by first | with_reducible assumption) rfl ?_
  refine v_iload_n dX12_tellByCells_8 rfl 1 rfl ?_
  refine v_callVq (M' := mX11_dropFrom) (n := 2) (As := [_, _]) (ci := 9) (r := (RX11, TX11, 3)) gX12_tellByCells_X11_dropFrom rfl (by decide +kernel) ⟨(Nat.le_of_ble_eq_true rfl), (Nat.le_of_ble_eq_true rfl)⟩ rfl rfl dX12_tellByCells_9 rfl ⟨(Nat.le_of_ble_eq_true rfl), (Nat.le_of_ble_eq_true rfl)⟩ (Nat.le_of_ble_eq_true rfl) (by first | with_reducible assumption) rfl (c_dropFrom G _ b t n wr rl L hb hw rf hrf hwr hn ht1 ht2 h8 H) (fun v h1 z1 hq9 => ?_)
  obtain ⟨rfl, rfl, H1, g8, fr1⟩ := hq9
  have hD1 := (fr1 b (by omega) (by omega)).trans hD
  obtain ⟨_, ax, aus, aov, ahm, aod, aw, _, a2, _⟩ := H1.ob
  refine v_aload_n dX12_tellByCells_12 rfl 0 rfl ?_
  refine v_getf 10 (ci := 10) (C := RX12) (T := TX12) (N := 13) rfl iwX12_tellByCells_X12 (Nat.le_of_ble_eq_true rfl) (by decide +kernel) dX12_tellByCells_13 (by first | with_reducible assumption) rfl ?_
  refine v_iconst (v := 1) dX12_tellByCells_16 (by decide) ?_
  refine v_callVq (M' := mX10_sort) (n := 1) (As := [_]) (ci := 8) (r := (RX10, TX10, 7)) gX12_tellByCells_X10_sort rfl (by decide +kernel) ⟨(Nat.le_of_ble_eq_true rfl), (Nat.le_of_ble_eq_true rfl)⟩ rfl rfl dX12_tellByCells_17 rfl ⟨(Nat.le_of_ble_eq_true rfl), (Nat.le_of_ble_eq_true rfl)⟩ (Nat.le_of_ble_eq_true rfl) (by first | with_reducible assumption) rfl (c_sort G h1 _ t true _ H1) (fun v h2 z2 hq9 => ?_)
  obtain ⟨rfl, rfl, L1, H2, P2, S2, fr2⟩ := hq9
  have hD2 := (fr2 b (by omega)).trans hD1
  obtain ⟨f8, e8⟩ := g8
  obtain ⟨_, bx, bus, bov, bhm, bod, bw, _, b2, _⟩ := H2.ob
  refine v_aload_n dX12_tellByCells_20 rfl 0 rfl ?_
  refine v_getf 10 (ci := 10) (C := RX12) (T := TX12) (N := 13) rfl iwX12_tellByCells_X12 (Nat.le_of_ble_eq_true rfl) (by decide +kernel) dX12_tellByCells_21 (by first | with_reducible assumption) rfl ?_
  refine v_callVq (M' := mX10_dropRepeats) (n := 0) (As := []) (ci := 8) (r := (RX10, TX10, 7)) gX12_tellByCells_X10_dropRepeats rfl (by decide +kernel) ⟨(Nat.le_of_ble_eq_true rfl), (Nat.le_of_ble_eq_true rfl)⟩ rfl rfl dX12_tellByCells_24 rfl ⟨(Nat.le_of_ble_eq_true rfl), (Nat.le_of_ble_eq_true rfl)⟩ (Nat.le_of_ble_eq_true rfl) (by first | with_reducible assumption) rfl (c_dropRepeats G h2 _ t L1 H2) (fun v h3 z3 hq9 => ?_)
  obtain ⟨rfl, rfl, H3, fr3⟩ := hq9
  exact v_ret rfl dX12_tellByCells_27 (Nat.le_of_ble_eq_true rfl) (Nat.le_of_ble_eq_true rfl) ⟨rfl, rfl, ⟨L1, H3, P2, S2⟩, ⟨f8, (fr3 _ (by omega)).trans ((fr2 _ (by omega)).trans e8)⟩, fun a p1 p2 => (fr3 a p2).trans ((fr2 a p2).trans (fr1 a p1 p2))⟩

