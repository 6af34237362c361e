section GU
variable {gu : Nat → Int64}
theorem iwX13_pair_X13 : ∀ w ∈ wsX130, w ∈ wsX13_pair := by decide +kernel
set_option maxRecDepth 20000 in
theorem ggX13_pair_X13_together : GoodIn wsX13_pair wsX13_together := goodIn_r _ [9, 10, 11, 99, 100, 101, 102, 103, 104, 105, 106, 107, 108, 109, 110, 111, 112, 113, 114, 115, 116, 117, 118, 119, 120, 121, 122, 123, 124, 125, 126, 127, 128, 129, 130, 131, 132, 133, 134, 135, 136, 137, 138, 139, 140, 141, 142, 143, 144, 145, 146, 147, 148, 149, 150, 151, 152, 153, 154, 155, 156, 157, 158, 159, 160, 161, 162, 163, 164, 165, 166, 167, 168, 169] (by decide +kernel) (by decide +kernel)
set_option maxRecDepth 20000 in
theorem gX13_pair_X13_together : GoodIn wsX13_pair (wsV RX13 299 RX13 yX13_together wsX13_together) := goodIn_app (goodIn_of _ (by decide +kernel)) ggX13_pair_X13_together
set_option maxRecDepth 20000 in
theorem ggX13_pair_X13_cellOn : GoodIn wsX13_pair wsX13_cellOn := goodIn_r _ [15, 16, 11, 99, 100, 101, 102, 103, 104, 105, 106, 107, 108, 109, 110, 111, 112, 113, 114, 115, 116, 117, 118, 119, 120, 121, 122, 123, 124, 125, 126, 127, 128, 129, 130, 131, 132, 133, 134, 135, 136, 137, 138, 139, 140, 141, 142, 143, 144, 145, 146, 147, 148, 149, 150, 151, 152, 153, 154, 155, 156, 157, 158, 159, 160, 161, 162, 163, 164, 165, 166, 167, 168, 169] (by decide +kernel) (by decide +kernel)
set_option maxRecDepth 20000 in
theorem gX13_pair_X13_cellOn : GoodIn wsX13_pair (wsV RX13 306 RX13 yX13_cellOn wsX13_cellOn) := goodIn_app (goodIn_of _ (by decide +kernel)) ggX13_pair_X13_cellOn
set_option maxRecDepth 20000 in
theorem ggX13_pair_X13_load_p0 : GoodIn wsX13_pair [.code yX13_load cX13_load 7 none] := goodIn_r _ [20] (by decide +kernel) (by decide +kernel)
set_option maxRecDepth 20000 in
theorem ggX13_pair_X13_load_p1 : GoodIn wsX13_pair wsX13_load_r1 := goodIn_r _ [21, 22, 23, 24, 25, 26, 27, 28, 10, 11, 29, 30, 31, 32, 33, 8, 34, 35, 36, 37, 38, 39, 40, 41] (by decide +kernel) (by decide +kernel)
set_option maxRecDepth 20000 in
theorem ggX13_pair_X13_load_p2 : GoodIn wsX13_pair wsX13_load_r2 := goodIn_r _ [42, 43, 44, 45, 46, 47, 48, 49, 50, 51, 52] (by decide +kernel) (by decide +kernel)
theorem ggX13_pair_X13_load_p3 : GoodIn wsX13_pair wsX130 := goodIn_sub iwX13_pair_X13 (by decide +kernel)
theorem ggX13_pair_X13_load : GoodIn wsX13_pair wsX13_load := goodIn_cn ggX13_pair_X13_load_p0 (goodIn_app (goodIn_app ggX13_pair_X13_load_p1 ggX13_pair_X13_load_p2) ggX13_pair_X13_load_p3)
set_option maxRecDepth 20000 in
theorem gX13_pair_X13_load : GoodIn wsX13_pair (wsV RX13 310 RX13 yX13_load wsX13_load) := goodIn_app (goodIn_of _ (by decide +kernel)) ggX13_pair_X13_load
set_option maxRecDepth 20000 in
theorem ggX13_pair_X13_both_p0 : GoodIn wsX13_pair [.code yX13_both cX13_both 7 none] := goodIn_r _ [56] (by decide +kernel) (by decide +kernel)
set_option maxRecDepth 20000 in
theorem ggX13_pair_X13_both_p1 : GoodIn wsX13_pair wsX13_both_r1 := goodIn_r _ [57, 58, 59, 22, 60, 61, 62, 63, 8, 64, 65, 66, 67, 68, 69, 70, 71, 72, 29, 30, 23, 47, 48, 49] (by decide +kernel) (by decide +kernel)
set_option maxRecDepth 20000 in
theorem ggX13_pair_X13_both_p2 : GoodIn wsX13_pair wsX13_both_r2 := goodIn_r _ [50, 51, 52, 73, 74, 75, 76, 77, 78, 79, 80, 81, 43, 42, 82, 83, 84, 85, 86, 87, 88, 4, 89, 90] (by decide +kernel) (by decide +kernel)
set_option maxRecDepth 20000 in
theorem ggX13_pair_X13_both_p3 : GoodIn wsX13_pair wsX13_both_r3 := goodIn_r _ [91, 92, 26, 28, 3, 11, 2, 31, 32, 33, 34, 35, 36, 37, 93, 94, 95, 96, 44, 45, 46, 97, 98] (by decide +kernel) (by decide +kernel)
theorem ggX13_pair_X13_both_p4 : GoodIn wsX13_pair wsX130 := goodIn_sub iwX13_pair_X13 (by decide +kernel)
theorem ggX13_pair_X13_both : GoodIn wsX13_pair wsX13_both := goodIn_cn ggX13_pair_X13_both_p0 (goodIn_app (goodIn_app ggX13_pair_X13_both_p1 (goodIn_app ggX13_pair_X13_both_p2 ggX13_pair_X13_both_p3)) ggX13_pair_X13_both_p4)
set_option maxRecDepth 20000 in
theorem gX13_pair_X13_both : GoodIn wsX13_pair (wsV RX13 314 RX13 yX13_both wsX13_both) := goodIn_app (goodIn_of _ (by decide +kernel)) ggX13_pair_X13_both
theorem dX13_pair_0 : decode cX13_pair 0 = .ok (.aload_n 0, 1) := by decide +kernel
theorem dX13_pair_1 : decode cX13_pair 1 = .ok (.iload_n 2, 1) := by decide +kernel
theorem dX13_pair_2 : decode cX13_pair 2 = .ok (.iload_n 3, 1) := by decide +kernel
theorem dX13_pair_3 : decode cX13_pair 3 = .ok (.invokevirtual 299, 3) := by decide +kernel
theorem dX13_pair_6 : decode cX13_pair 6 = .ok (.istore 4, 2) := by decide +kernel
theorem dX13_pair_8 : decode cX13_pair 8 = .ok (.aload_n 0, 1) := by decide +kernel
theorem dX13_pair_9 : decode cX13_pair 9 = .ok (.getfield 303, 3) := by decide +kernel
theorem dX13_pair_12 : decode cX13_pair 12 = .ok (.ifCond .ne 9, 3) := by decide +kernel
theorem dX13_pair_15 : decode cX13_pair 15 = .ok (.iload 4, 2) := by decide +kernel
theorem dX13_pair_17 : decode cX13_pair 17 = .ok (.ifCond .le 4, 3) := by decide +kernel
theorem dX13_pair_20 : decode cX13_pair 20 = .ok (.return_, 1) := by decide +kernel
theorem dX13_pair_21 : decode cX13_pair 21 = .ok (.aload_n 0, 1) := by decide +kernel
theorem dX13_pair_22 : decode cX13_pair 22 = .ok (.iload_n 2, 1) := by decide +kernel
theorem dX13_pair_23 : decode cX13_pair 23 = .ok (.putfield 273, 3) := by decide +kernel
theorem dX13_pair_26 : decode cX13_pair 26 = .ok (.aload_n 0, 1) := by decide +kernel
theorem dX13_pair_27 : decode cX13_pair 27 = .ok (.iload 4, 2) := by decide +kernel
theorem dX13_pair_29 : decode cX13_pair 29 = .ok (.putfield 270, 3) := by decide +kernel
theorem dX13_pair_32 : decode cX13_pair 32 = .ok (.aload_n 0, 1) := by decide +kernel
theorem dX13_pair_33 : decode cX13_pair 33 = .ok (.aload_n 0, 1) := by decide +kernel
theorem dX13_pair_34 : decode cX13_pair 34 = .ok (.iload_n 1, 1) := by decide +kernel
theorem dX13_pair_35 : decode cX13_pair 35 = .ok (.iload_n 2, 1) := by decide +kernel
theorem dX13_pair_36 : decode cX13_pair 36 = .ok (.iload 4, 2) := by decide +kernel
theorem dX13_pair_38 : decode cX13_pair 38 = .ok (.invokevirtual 306, 3) := by decide +kernel
theorem dX13_pair_41 : decode cX13_pair 41 = .ok (.putfield 264, 3) := by decide +kernel
theorem dX13_pair_44 : decode cX13_pair 44 = .ok (.aload_n 0, 1) := by decide +kernel
theorem dX13_pair_45 : decode cX13_pair 45 = .ok (.iconst 0, 1) := by decide +kernel
theorem dX13_pair_46 : decode cX13_pair 46 = .ok (.iload_n 2, 1) := by decide +kernel
theorem dX13_pair_47 : decode cX13_pair 47 = .ok (.iload 4, 2) := by decide +kernel
theorem dX13_pair_49 : decode cX13_pair 49 = .ok (.invokevirtual 310, 3) := by decide +kernel
theorem dX13_pair_52 : decode cX13_pair 52 = .ok (.aload_n 0, 1) := by decide +kernel
theorem dX13_pair_53 : decode cX13_pair 53 = .ok (.iconst 1, 1) := by decide +kernel
theorem dX13_pair_54 : decode cX13_pair 54 = .ok (.iload_n 3, 1) := by decide +kernel
theorem dX13_pair_55 : decode cX13_pair 55 = .ok (.iload 4, 2) := by decide +kernel
theorem dX13_pair_57 : decode cX13_pair 57 = .ok (.invokevirtual 310, 3) := by decide +kernel
theorem dX13_pair_60 : decode cX13_pair 60 = .ok (.aload_n 0, 1) := by decide +kernel
theorem dX13_pair_61 : decode cX13_pair 61 = .ok (.invokevirtual 314, 3) := by decide +kernel
theorem dX13_pair_64 : decode cX13_pair 64 = .ok (.return_, 1) := by decide +kernel

abbrev mX13_pair : sv_M := (cX13_pair, 5, yX13_pair, wsX13_pair, none, { frames := 12, cells := 0, slots := 0, locals := 300 }, [])
set_option maxHeartbeats 4000000 in
set_option maxRecDepth 100000 in
theorem m_loadL (G : sv_G) (z b nc np pl : Nat) (R : Nat → Bool) (hm p3 p4 sz : Nat → Nat) (ly vo : Nat → Int32) (mp : Nat → mvT) (X Y : Nat → Nat → Int) (hb : sv_h) (fs0 : List Value) (hq0 : mfq_ b nc np pl fs0) (MY : myl_ G hb b nc np pl R hm p3 p4 sz ly vo mp X Y) (O : List (List Nat × Nat)) (MO : moc_ G hb b O) (o : Nat) (ho : o < O.length) (hop : (O.getD o ([], 0)).2 < np) (how : ∀ i, i ∈ (O.getD o ([], 0)).1 → i < pl) (d0 : Nat) (hd0 : d0 ≤ (O.getD o ([], 0)).1.length) (k : Nat) (hk2 : k < 2) (n pg : Nat → Nat) (cc : Nat → Nat → Int × Int) (LD : mld_ G hb b k n pg cc) (hn16 : ∀ w, w < k → n w ≤ 16) (en : n k = sz (O.getD o ([], 0)).2) (ep : pg k = (O.getD o ([], 0)).2) (ec : cc k = crR (crD mp X Y (O.getD o ([], 0)) d0) (sz (O.getD o ([], 0)).2)) (hm9 : hb (b + 220) = some (.inr (11, fs0))) (hz0 : 0 < sz (O.getD o ([], 0)).2) (hcb : cbd (crD mp X Y (O.getD o ([], 0)) d0) (sz (O.getD o ([], 0)).2)) : CT G mX13_load [.ref (b + 220), .int (nI k), .int (nI o), .int (nI d0)] hb z (fun v h1 z1 => v = none ∧ z1 = z ∧ (∃ fs1, h1 (b + 220) = some (.inr (11, fs1)) ∧ fs1.length = 71 ∧ fsE [52, 53] fs0 fs1) ∧ mld_ G h1 b (k + 1) n pg cc ∧ ∀ a, ¬ (b + 249 ≤ a ∧ a < b + 258) → a ≠ b + 220 → h1 a = hb a) := by
  obtain ⟨fsd, fo, ft, ff, gx, gy, gp, gl, gh, d49, d50, d51, d52, d53, d54, d55, d56, d57, dd⟩ := LD
  refine (m_load G z b nc np pl R hm p3 p4 sz ly vo mp X Y hb fs0 hq0 MY O MO o ho hop how k hk2 d0 hd0 hm9 fsd fo ft gx gy ff gp gl gh d49 d50 d51 d52 d53 d54 d55 d56 d57 hz0 hcb).mono (fun v h1 z1 _ hq => ?_)
  obtain ⟨rfl, rfl, q1, ⟨fsd1, a1, a2, a3⟩, ⟨fo1, b1, b2, b3⟩, ⟨gx1, gy1, c1, c2, c3, c4⟩, ⟨ft1, e1, e2, e3⟩, ⟨ff1, gp1, gl1, gh1, f1, f2, f3, f4, f5, f6⟩, q2⟩ := hq
  refine ⟨rfl, rfl, q1, ⟨fsd1, fo1, ft1, ff1, gx1, gy1, gp1, gl1, gh1, a1, c1, c2, e1, f1, f2, f3, f4, b1, fun w hw => ?_⟩, q2⟩
  by_cases ew : w = k
  · subst ew
    rw [en, ep, ec]
    exact ⟨a2, b2, e2, c3, f5⟩
  · obtain ⟨g1, g2, g3, g4, g5⟩ := dd w (by omega)
    have h16 := hn16 w (by omega)
    exact ⟨(a3 w ew).trans g1, (b3 w ew).trans g2, (e3 w ew).trans g3, fun j hj => ⟨((c4 _ (by omega)).1).trans (g4 j hj).1, ((c4 _ (by omega)).2).trans (g4 j hj).2⟩, fun i hi => ⟨((f6 _ (by omega)).1).trans (g5 i hi).1, ((f6 _ (by omega)).2.1).trans (g5 i hi).2.1, ((f6 _ (by omega)).2.2.1).trans (g5 i hi).2.2.1, ((f6 _ (by omega)).2.2.2).trans (g5 i hi).2.2.2⟩⟩
end GU
