section GU
variable {gu : Nat → Int64}
theorem iwX13_find_X13 : ∀ w ∈ wsX130, w ∈ wsX13_find := by decide +kernel
set_option maxRecDepth 20000 in
theorem ggX13_find_X13_sizeOf_p0 : GoodIn wsX13_find [.code yX13_sizeOf cX13_sizeOf 7 (some .long)] := goodIn_r _ [12] (by decide +kernel) (by decide +kernel)
set_option maxRecDepth 20000 in
theorem ggX13_find_X13_sizeOf_p1 : GoodIn wsX13_find wsX13_sizeOf_r1 := goodIn_r _ [13, 6, 14, 15, 16, 17, 18, 19, 20, 21, 22, 11, 23, 24, 25, 26, 27, 28, 29, 30, 31, 32, 33, 34] (by decide +kernel) (by decide +kernel)
set_option maxRecDepth 20000 in
theorem ggX13_find_X13_sizeOf_p2 : GoodIn wsX13_find wsX13_sizeOf_r2 := goodIn_r _ [35, 36, 37, 38, 39, 40, 41, 42, 43, 44] (by decide +kernel) (by decide +kernel)
theorem ggX13_find_X13_sizeOf_p3 : GoodIn wsX13_find wsX130 := goodIn_sub iwX13_find_X13 (by decide +kernel)
theorem ggX13_find_X13_sizeOf : GoodIn wsX13_find wsX13_sizeOf := goodIn_cn ggX13_find_X13_sizeOf_p0 (goodIn_app (goodIn_app ggX13_find_X13_sizeOf_p1 ggX13_find_X13_sizeOf_p2) ggX13_find_X13_sizeOf_p3)
set_option maxRecDepth 20000 in
theorem gX13_find_X13_sizeOf : GoodIn wsX13_find (wsV RX13 218 RX13 yX13_sizeOf wsX13_sizeOf) := goodIn_app (goodIn_of _ (by decide +kernel)) ggX13_find_X13_sizeOf
set_option maxRecDepth 20000 in
theorem ggX13_find_X13_lay_p0 : GoodIn wsX13_find [.code yX13_lay cX13_lay 4 none] := goodIn_r _ [48] (by decide +kernel) (by decide +kernel)
set_option maxRecDepth 20000 in
theorem ggX13_find_X13_lay_p1 : GoodIn wsX13_find wsX13_lay_r1 := goodIn_r _ [49, 50, 16, 17, 13, 18, 51, 52, 53, 54, 11, 55, 14, 15, 56, 57, 58, 20, 21, 22, 23, 24, 25, 26] (by decide +kernel) (by decide +kernel)
set_option maxRecDepth 20000 in
theorem ggX13_find_X13_lay_p2 : GoodIn wsX13_find wsX13_lay_r2 := goodIn_r _ [27, 28, 29, 30, 31, 32, 33, 34, 35, 36, 37, 38, 39, 40, 41, 42, 43, 44, 59, 60, 61, 62] (by decide +kernel) (by decide +kernel)
theorem ggX13_find_X13_lay_p3 : GoodIn wsX13_find wsX130 := goodIn_sub iwX13_find_X13 (by decide +kernel)
theorem ggX13_find_X13_lay : GoodIn wsX13_find wsX13_lay := goodIn_cn ggX13_find_X13_lay_p0 (goodIn_app (goodIn_app ggX13_find_X13_lay_p1 ggX13_find_X13_lay_p2) ggX13_find_X13_lay_p3)
set_option maxRecDepth 20000 in
theorem gX13_find_X13_lay : GoodIn wsX13_find (wsV RX13 333 RX13 yX13_lay wsX13_lay) := goodIn_app (goodIn_of _ (by decide +kernel)) ggX13_find_X13_lay
set_option maxRecDepth 20000 in
set_option maxRecDepth 20000 in
theorem ggX13_find_X13_whole_p0 : GoodIn wsX13_find [.code yX13_whole cX13_whole 16 none] := goodIn_r _ [66] (by decide +kernel) (by decide +kernel)
set_option maxRecDepth 20000 in
theorem ggX13_find_X13_whole_p1 : GoodIn wsX13_find wsX13_whole_r1 := goodIn_r _ [49, 67, 68, 69, 70, 71, 1, 56, 5, 72, 73, 74, 75, 76, 77, 78, 11, 79, 80, 81, 24, 29, 82, 34] (by decide +kernel) (by decide +kernel)
set_option maxRecDepth 20000 in
theorem ggX13_find_X13_whole_p2 : GoodIn wsX13_find wsX13_whole_r2 := goodIn_r _ [83, 57, 58, 84, 85, 86, 87, 88, 89, 90, 91, 92, 93, 94, 95, 96, 97, 98, 99, 100, 101, 39, 40, 41] (by decide +kernel) (by decide +kernel)
set_option maxRecDepth 20000 in
theorem ggX13_find_X13_whole_p3 : GoodIn wsX13_find wsX13_whole_r3 := goodIn_r _ [42, 43, 44, 102, 103, 104, 105, 106, 107, 108, 109, 110, 111, 112, 113, 114, 115, 116, 117, 118, 119, 25, 26, 27] (by decide +kernel) (by decide +kernel)
set_option maxRecDepth 20000 in
theorem ggX13_find_X13_whole_p4 : GoodIn wsX13_find wsX13_whole_r4 := goodIn_r _ [28, 30, 31, 32, 33, 120, 121, 122, 123, 3, 4, 124, 125, 126, 127, 128, 129] (by decide +kernel) (by decide +kernel)
theorem ggX13_find_X13_whole_p5 : GoodIn wsX13_find wsX130 := goodIn_sub iwX13_find_X13 (by decide +kernel)
theorem ggX13_find_X13_whole : GoodIn wsX13_find wsX13_whole := goodIn_cn ggX13_find_X13_whole_p0 (goodIn_app (goodIn_app ggX13_find_X13_whole_p1 (goodIn_app ggX13_find_X13_whole_p2 (goodIn_app ggX13_find_X13_whole_p3 ggX13_find_X13_whole_p4))) ggX13_find_X13_whole_p5)
set_option maxRecDepth 20000 in
theorem gX13_find_X13_whole : GoodIn wsX13_find (wsV RX13 336 RX13 yX13_whole wsX13_whole) := goodIn_app (goodIn_of _ (by decide +kernel)) ggX13_find_X13_whole
set_option maxRecDepth 20000 in
theorem ggX13_find_X13_markUnder : GoodIn wsX13_find wsX13_markUnder := goodIn_r _ [133, 7, 16, 17, 18, 179, 180, 181, 182, 183, 184, 185, 186, 187, 188, 189, 190, 191, 192, 193, 194, 195, 196, 197, 198, 199, 200, 201, 202, 203, 204, 205, 206, 207, 208, 209, 210, 211, 212, 213, 214, 215, 216, 217, 218, 219, 220, 221, 222, 223, 224, 225, 226, 227, 228, 229, 230, 231, 232, 233, 234, 235, 236, 237, 238, 239, 240, 241, 242, 243, 244, 245, 246, 247, 248, 249] (by decide +kernel) (by decide +kernel)
set_option maxRecDepth 20000 in
theorem gX13_find_X13_markUnder : GoodIn wsX13_find (wsV RX13 172 RX13 yX13_markUnder wsX13_markUnder) := goodIn_app (goodIn_of _ (by decide +kernel)) ggX13_find_X13_markUnder
set_option maxRecDepth 20000 in
set_option maxRecDepth 20000 in
theorem ggX13_find_X13_goThrough_p0 : GoodIn wsX13_find [.code yX13_goThrough cX13_goThrough 9 none] := goodIn_r _ [137] (by decide +kernel) (by decide +kernel)
set_option maxRecDepth 20000 in
theorem ggX13_find_X13_goThrough_p1 : GoodIn wsX13_find wsX13_goThrough_r1 := goodIn_r _ [71, 1, 138, 5, 49, 2, 57, 129, 73, 74, 106, 107, 108, 11, 109, 110, 56, 139, 140, 141, 142, 18, 58, 76] (by decide +kernel) (by decide +kernel)
set_option maxRecDepth 20000 in
theorem ggX13_find_X13_goThrough_p2 : GoodIn wsX13_find wsX13_goThrough_r2 := goodIn_r _ [77, 78, 79, 80, 81, 24, 29, 82, 34, 83, 84, 85, 86, 87, 88, 89, 90, 91, 92, 93, 94, 95, 96, 97] (by decide +kernel) (by decide +kernel)
set_option maxRecDepth 20000 in
theorem ggX13_find_X13_goThrough_p3 : GoodIn wsX13_find wsX13_goThrough_r3 := goodIn_r _ [98, 99, 100, 101, 39, 40, 41, 42, 43, 44, 143, 144, 145, 146, 75, 67, 68, 69, 70, 102, 103, 104, 105, 147] (by decide +kernel) (by decide +kernel)
set_option maxRecDepth 20000 in
theorem ggX13_find_X13_goThrough_p4 : GoodIn wsX13_find wsX13_goThrough_r4 := goodIn_r _ [148, 149, 150, 151, 152, 120, 121, 122, 123, 3, 4, 124, 125, 126, 127, 128, 111, 112, 113, 114, 115, 116, 117, 118] (by decide +kernel) (by decide +kernel)
set_option maxRecDepth 20000 in
theorem ggX13_find_X13_goThrough_p5 : GoodIn wsX13_find wsX13_goThrough_r5 := goodIn_r _ [119, 25, 26, 27, 28, 30, 31, 32, 33, 153, 154, 155, 156, 157, 158, 159, 160, 161, 162, 163, 164, 165, 166, 167] (by decide +kernel) (by decide +kernel)
set_option maxRecDepth 20000 in
theorem ggX13_find_X13_goThrough_p6 : GoodIn wsX13_find wsX13_goThrough_r6 := goodIn_r _ [168, 169, 170, 171, 172, 173, 174, 175, 176, 177, 178] (by decide +kernel) (by decide +kernel)
theorem ggX13_find_X13_goThrough_p7 : GoodIn wsX13_find wsX130 := goodIn_sub iwX13_find_X13 (by decide +kernel)
theorem ggX13_find_X13_goThrough : GoodIn wsX13_find wsX13_goThrough := goodIn_cn ggX13_find_X13_goThrough_p0 (goodIn_app (goodIn_app ggX13_find_X13_goThrough_p1 (goodIn_app ggX13_find_X13_goThrough_p2 (goodIn_app ggX13_find_X13_goThrough_p3 (goodIn_app ggX13_find_X13_goThrough_p4 (goodIn_app ggX13_find_X13_goThrough_p5 ggX13_find_X13_goThrough_p6))))) ggX13_find_X13_goThrough_p7)
set_option maxRecDepth 20000 in
theorem gX13_find_X13_goThrough : GoodIn wsX13_find (wsV RX13 339 RX13 yX13_goThrough wsX13_goThrough) := goodIn_app (goodIn_of _ (by decide +kernel)) ggX13_find_X13_goThrough
theorem dX13_find_0 : decode cX13_find 0 = .ok (.aload_n 0, 1) := by decide +kernel
theorem dX13_find_1 : decode cX13_find 1 = .ok (.iload_n 1, 1) := by decide +kernel
theorem dX13_find_2 : decode cX13_find 2 = .ok (.putfield 254, 3) := by decide +kernel
theorem dX13_find_5 : decode cX13_find 5 = .ok (.aload_n 0, 1) := by decide +kernel
theorem dX13_find_6 : decode cX13_find 6 = .ok (.iload_n 3, 1) := by decide +kernel
theorem dX13_find_7 : decode cX13_find 7 = .ok (.putfield 303, 3) := by decide +kernel
theorem dX13_find_10 : decode cX13_find 10 = .ok (.aload_n 0, 1) := by decide +kernel
theorem dX13_find_11 : decode cX13_find 11 = .ok (.iconst 0, 1) := by decide +kernel
theorem dX13_find_12 : decode cX13_find 12 = .ok (.putfield 257, 3) := by decide +kernel
theorem dX13_find_15 : decode cX13_find 15 = .ok (.aload_n 0, 1) := by decide +kernel
theorem dX13_find_16 : decode cX13_find 16 = .ok (.iconst 0, 1) := by decide +kernel
theorem dX13_find_17 : decode cX13_find 17 = .ok (.putfield 260, 3) := by decide +kernel
theorem dX13_find_20 : decode cX13_find 20 = .ok (.aload_n 0, 1) := by decide +kernel
theorem dX13_find_21 : decode cX13_find 21 = .ok (.getfield 47, 3) := by decide +kernel
theorem dX13_find_24 : decode cX13_find 24 = .ok (.iload_n 1, 1) := by decide +kernel
theorem dX13_find_25 : decode cX13_find 25 = .ok (.iaload, 1) := by decide +kernel
theorem dX13_find_26 : decode cX13_find 26 = .ok (.iconst 5, 1) := by decide +kernel
theorem dX13_find_27 : decode cX13_find 27 = .ok (.if_icmp .eq 14, 3) := by decide +kernel
theorem dX13_find_30 : decode cX13_find 30 = .ok (.aload_n 0, 1) := by decide +kernel
theorem dX13_find_31 : decode cX13_find 31 = .ok (.getfield 47, 3) := by decide +kernel
theorem dX13_find_34 : decode cX13_find 34 = .ok (.iload_n 1, 1) := by decide +kernel
theorem dX13_find_35 : decode cX13_find 35 = .ok (.iaload, 1) := by decide +kernel
theorem dX13_find_36 : decode cX13_find 36 = .ok (.bipush 6, 2) := by decide +kernel
theorem dX13_find_38 : decode cX13_find 38 = .ok (.if_icmp .ne 22, 3) := by decide +kernel
theorem dX13_find_41 : decode cX13_find 41 = .ok (.aload_n 0, 1) := by decide +kernel
theorem dX13_find_42 : decode cX13_find 42 = .ok (.iload_n 2, 1) := by decide +kernel
theorem dX13_find_43 : decode cX13_find 43 = .ok (.invokevirtual 218, 3) := by decide +kernel
theorem dX13_find_46 : decode cX13_find 46 = .ok (.lstore 4, 2) := by decide +kernel
theorem dX13_find_48 : decode cX13_find 48 = .ok (.aload_n 0, 1) := by decide +kernel
theorem dX13_find_49 : decode cX13_find 49 = .ok (.iload_n 2, 1) := by decide +kernel
theorem dX13_find_50 : decode cX13_find 50 = .ok (.invokevirtual 333, 3) := by decide +kernel
theorem dX13_find_53 : decode cX13_find 53 = .ok (.aload_n 0, 1) := by decide +kernel
theorem dX13_find_54 : decode cX13_find 54 = .ok (.iload_n 2, 1) := by decide +kernel
theorem dX13_find_55 : decode cX13_find 55 = .ok (.invokevirtual 336, 3) := by decide +kernel
theorem dX13_find_58 : decode cX13_find 58 = .ok (.iconst 1, 1) := by decide +kernel
theorem dX13_find_59 : decode cX13_find 59 = .ok (.ireturn, 1) := by decide +kernel
theorem dX13_find_60 : decode cX13_find 60 = .ok (.aload_n 0, 1) := by decide +kernel
theorem dX13_find_61 : decode cX13_find 61 = .ok (.iload_n 2, 1) := by decide +kernel
theorem dX13_find_62 : decode cX13_find 62 = .ok (.invokevirtual 172, 3) := by decide +kernel
theorem dX13_find_65 : decode cX13_find 65 = .ok (.iconst 0, 1) := by decide +kernel
theorem dX13_find_66 : decode cX13_find 66 = .ok (.istore 4, 2) := by decide +kernel
theorem dX13_find_68 : decode cX13_find 68 = .ok (.iload 4, 2) := by decide +kernel
theorem dX13_find_70 : decode cX13_find 70 = .ok (.aload_n 0, 1) := by decide +kernel
theorem dX13_find_71 : decode cX13_find 71 = .ok (.getfield 148, 3) := by decide +kernel
theorem dX13_find_74 : decode cX13_find 74 = .ok (.if_icmp .ge 59, 3) := by decide +kernel
theorem dX13_find_77 : decode cX13_find 77 = .ok (.aload_n 0, 1) := by decide +kernel
theorem dX13_find_78 : decode cX13_find 78 = .ok (.getfield 260, 3) := by decide +kernel
theorem dX13_find_81 : decode cX13_find 81 = .ok (.ifCond .ne 52, 3) := by decide +kernel
theorem dX13_find_84 : decode cX13_find 84 = .ok (.iload_n 3, 1) := by decide +kernel
theorem dX13_find_85 : decode cX13_find 85 = .ok (.ifCond .eq 12, 3) := by decide +kernel
theorem dX13_find_88 : decode cX13_find 88 = .ok (.iload 4, 2) := by decide +kernel
theorem dX13_find_90 : decode cX13_find 90 = .ok (.iload_n 2, 1) := by decide +kernel
theorem dX13_find_91 : decode cX13_find 91 = .ok (.if_icmp .ne 36, 3) := by decide +kernel
theorem dX13_find_94 : decode cX13_find 94 = .ok (.goto 13, 3) := by decide +kernel
theorem dX13_find_97 : decode cX13_find 97 = .ok (.aload_n 0, 1) := by decide +kernel
theorem dX13_find_98 : decode cX13_find 98 = .ok (.getfield 82, 3) := by decide +kernel
theorem dX13_find_101 : decode cX13_find 101 = .ok (.iload 4, 2) := by decide +kernel
theorem dX13_find_103 : decode cX13_find 103 = .ok (.baload, 1) := by decide +kernel
theorem dX13_find_104 : decode cX13_find 104 = .ok (.ifCond .eq 23, 3) := by decide +kernel
theorem dX13_find_107 : decode cX13_find 107 = .ok (.aload_n 0, 1) := by decide +kernel
theorem dX13_find_108 : decode cX13_find 108 = .ok (.iload 4, 2) := by decide +kernel
theorem dX13_find_110 : decode cX13_find 110 = .ok (.invokevirtual 218, 3) := by decide +kernel
theorem dX13_find_113 : decode cX13_find 113 = .ok (.lstore 5, 2) := by decide +kernel
theorem dX13_find_115 : decode cX13_find 115 = .ok (.aload_n 0, 1) := by decide +kernel
theorem dX13_find_116 : decode cX13_find 116 = .ok (.iload 4, 2) := by decide +kernel
theorem dX13_find_118 : decode cX13_find 118 = .ok (.invokevirtual 333, 3) := by decide +kernel
theorem dX13_find_121 : decode cX13_find 121 = .ok (.aload_n 0, 1) := by decide +kernel
theorem dX13_find_122 : decode cX13_find 122 = .ok (.iload 4, 2) := by decide +kernel
theorem dX13_find_124 : decode cX13_find 124 = .ok (.invokevirtual 339, 3) := by decide +kernel
theorem dX13_find_127 : decode cX13_find 127 = .ok (.iinc 4 1, 3) := by decide +kernel
theorem dX13_find_130 : decode cX13_find 130 = .ok (.goto (-62), 3) := by decide +kernel
theorem dX13_find_133 : decode cX13_find 133 = .ok (.aload_n 0, 1) := by decide +kernel
theorem dX13_find_134 : decode cX13_find 134 = .ok (.getfield 260, 3) := by decide +kernel
theorem dX13_find_137 : decode cX13_find 137 = .ok (.ifCond .ne 7, 3) := by decide +kernel
theorem dX13_find_140 : decode cX13_find 140 = .ok (.iconst 1, 1) := by decide +kernel
theorem dX13_find_141 : decode cX13_find 141 = .ok (.goto 4, 3) := by decide +kernel
theorem dX13_find_144 : decode cX13_find 144 = .ok (.iconst 0, 1) := by decide +kernel
theorem dX13_find_145 : decode cX13_find 145 = .ok (.ireturn, 1) := by decide +kernel

abbrev mX13_find : sv_M := (cX13_find, 7, yX13_find, wsX13_find, (some .boolean), { frames := 16, cells := 0, slots := 0, locals := 400 }, [])
theorem m_sizeOfL (G : sv_G) (z b nc np pl : Nat) (R : Nat → Bool) (hm p3 p4 sz : Nat → Nat) (ly vo : Nat → Int32) (mp : Nat → mvT) (X Y : Nat → Nat → Int) (h : sv_h) (fs : List Value) (hq : mfq_ b nc np pl fs) (hm9 : h (b + 220) = some (.inr (11, fs))) (MY : myl_ G h b nc np pl R hm p3 p4 sz ly vo mp X Y) (hXY : ∀ p, p < np → ∀ i, i < sz p → (-10000 ≤ X p i ∧ X p i ≤ 10000) ∧ (-10000 ≤ Y p i ∧ Y p i ≤ 10000)) (hR : ∀ p, p < np → (R p = true ↔ gm_mr (sz p) (fun i => iN (X p i)) (fun i => iN (Y p i)))) (rk : Nat → Nat) (hr : ∀ i, i < pl → rk (p4 i) < rk (p3 i)) (hrn : ∀ c, c < nc → rk c < nc) (c : Nat) (hc : c < nc) (A48 : ∃ f, ab_J G h (b + 248) 16 f) : CT G mX13_sizeOf [.ref (b + 220), .int (nI c)] h z (fun v h1 z1 => z1 = z ∧ v = some (.long (lN (min 100000 (oc_n np pl R hm p3 p4 16 c)))) ∧ (∃ f, ab_J G h1 (b + 248) 16 f ∧ ∀ d, d < nc → f d = lN (min 100000 (oc_n np pl R hm p3 p4 16 d))) ∧ ∀ w, w ≠ b + 248 → h1 w = h w) := by
  obtain ⟨⟨g0, y0, y0a⟩, _, _, ⟨g3, y3, y3a⟩, ⟨g4, y4, y4a⟩, ⟨g5, y5, y5a⟩, ⟨g6, y6, y6a⟩, ⟨g7, y7, y7a⟩, _, _, _, yB, yC, yD, yE, yF⟩ := id MY
  obtain ⟨f0, v48⟩ := A48
  exact m_sizeOf G h z b nc np pl fs R hm p3 p4 sz (fun w p i => match w with | 0 => iN (X p i) | _ => iN (Y p i)) g0 g3 g6 g7 g4 g5 hq.1 hm9 hq.f_cells hq.f_polygons hq.f_places hq.f_owner hq.f_size hq.f_px hq.f_py hq.f_placeIn hq.f_placeOf hq.f_sizes y0 y3 y4 y5 y6 y7 yD yB yC (fun i hi => ⟨y6a i hi, y7a i hi, (yF i hi).1, (yF i hi).2⟩) (fun p hp => ⟨y0a p hp, (yE p hp).2, y3a p hp, (yE p hp).1, fun i hi => (y4a p hp i hi).trans (iN_64 (by have := hXY p hp i hi; omega) (by have := hXY p hp i hi; omega)).symm, fun i hi => (y5a p hp i hi).trans (iN_64 (by have := hXY p hp i hi; omega) (by have := hXY p hp i hi; omega)).symm, hR p hp⟩) rk hr hrn c hc f0 v48
/-- the model's rows that a run uses -/
def msc_ (G : sv_G) (h : sv_h) (b : Nat) (n0 pg0 : Nat → Nat) (cc0 : Nat → Nat → Int × Int) : Prop := (∃ f, ab_I G h (b + 244) 100 f) ∧ (∃ f, ab_I G h (b + 245) 100 f) ∧ (∃ f, ab_I G h (b + 246) 1616 f) ∧ (∃ f, ab_I G h (b + 247) 17 f) ∧ (∃ f, ab_J G h (b + 248) 16 f) ∧ mld_ G h b 0 n0 pg0 cc0
/-- the sizes of all cells -/
def szc_ (G : sv_G) (h : sv_h) (b nc np pl : Nat) (R : Nat → Bool) (hm p3 p4 : Nat → Nat) : Prop := ∃ f, ab_J G h (b + 248) 16 f ∧ ∀ d, d < nc → f d = lN (min 100000 (oc_n np pl R hm p3 p4 16 d))
theorem szc_.kp {G : sv_G} {h h1 : sv_h} {b nc np pl : Nat} {R : Nat → Bool} {hm p3 p4 : Nat → Nat} (H : szc_ G h b nc np pl R hm p3 p4) (e : h1 (b + 248) = h (b + 248)) : szc_ G h1 b nc np pl R hm p3 p4 := by
  obtain ⟨f, a, c⟩ := H
  exact ⟨f, e.trans a, c⟩
theorem msc_.kp {G : sv_G} {h h1 : sv_h} {b : Nat} {n0 pg0 : Nat → Nat} {cc0 : Nat → Nat → Int × Int} (H : msc_ G h b n0 pg0 cc0) (e : ∀ a, b + 244 ≤ a → a < b + 258 → h1 a = h a) : msc_ G h1 b n0 pg0 cc0 := by
  obtain ⟨⟨f1, a1⟩, ⟨f2, a2⟩, ⟨f3, a3⟩, ⟨f4, a4⟩, ⟨f5, a5⟩, L⟩ := H
  exact ⟨⟨f1, (e _ (by omega) (by omega)).trans a1⟩, ⟨f2, (e _ (by omega) (by omega)).trans a2⟩, ⟨f3, (e _ (by omega) (by omega)).trans a3⟩, ⟨f4, (e _ (by omega) (by omega)).trans a4⟩, ⟨f5, (e _ (by omega) (by omega)).trans a5⟩, L.kp (fun a p1 p2 => e a (by omega) (by omega))⟩
set_option maxHeartbeats 4000000 in
set_option maxRecDepth 100000 in
theorem t_fi107 (G : sv_G) (Qr : Option Value → sv_h → Nat → Prop) (z b nc np pl : Nat) (R : Nat → Bool) (hm p3 p4 sz : Nat → Nat) (ly vo : Nat → Int32) (mp : Nat → mvT) (X Y : Nat → Nat → Int) (hb : sv_h) (fs0 : List Value) (hq0 : mfq_ b nc np pl fs0) (MY : myl_ G hb b nc np pl R hm p3 p4 sz ly vo mp X Y) (hXY : ∀ p, p < np → ∀ i, i < sz p → (-10000 ≤ X p i ∧ X p i ≤ 10000) ∧ (-10000 ≤ Y p i ∧ Y p i ≤ 10000)) (hR : ∀ p, p < np → (R p = true ↔ gm_mr (sz p) (fun i => iN (X p i)) (fun i => iN (Y p i)))) (rk : Nat → Nat) (hr : ∀ i, i < pl → rk (p4 i) < rk (p3 i)) (hrn : ∀ c, c < nc → rk c < nc) (OKH : ∀ c, c < nc → mok_ np pl sz mp X Y (dS np pl (rQ R hm) p3 p4 16 c [])) (ri kd : Nat) (l1 l2 x3 x4 x5 x6 : Int32) (RU : mru_ G hb b ri kd l1 l2 x3 x4 x5 x6) (hen : x6 = -1 ∨ 0 ≤ x6) (n0 pg0 : Nat → Nat) (cc0 : Nat → Nat → Int × Int) (cl : Nat) (hcl : cl < nc) (hN1 : ∀ c, gr_R pl p3 p4 cl c → oc_n np pl R hm p3 p4 16 c ≤ 100) (fv : Int32) (hfv : fv = 0 ∨ fv = 1) (uf : Nat → Int32) (c : Nat) (hc : c < nc) (hcr : gr_R pl p3 p4 cl c) (E0 : List (List Int64)) (hk : ∀ (h : sv_h) (fs : List Value), h (b + 220) = some (.inr (11, fs)) → fs.length = 71 → fsE [28, 29, 36, 41, 52, 53, 54, 55, 56, 57, 58, 59, 60, 61, 62] fs0 fs → fs[58]? = some (.int (nI ri)) → fs[59]? = some (.int fv) → (∀ a, a ≠ b + 220 → a ≠ b + 241 → ¬ (b + 243 ≤ a ∧ a < b + 258) → h a = hb a) → ab_Z G h (b + 243) 16 uf → msc_ G h b n0 pg0 cc0 → szc_ G h b nc np pl R hm p3 p4 → mT_ gu G h b fs (E0 ++ goQ fv kd l1 l2 x3 x4 x5 x6 p4 ly vo mp sz X Y c (dS np pl (rQ R hm) p3 p4 16 c [])) → V G mX13_find (sv_MQ G mX13_find Qr) 127 [(4, .int (nI c)), (3, .int fv), (2, .int (nI cl)), (1, .int (nI ri)), (0, .ref (b + 220))] [] h z 0 0) (h : sv_h) (fs : List Value) (hm9 : h (b + 220) = some (.inr (11, fs))) (hl : fs.length = 71) (hE : fsE [28, 29, 36, 41, 52, 53, 54, 55, 56, 57, 58, 59, 60, 61, 62] fs0 fs) (h58 : fs[58]? = some (.int (nI ri))) (h59 : fs[59]? = some (.int fv)) (fr : (∀ a, a ≠ b + 220 → a ≠ b + 241 → ¬ (b + 243 ≤ a ∧ a < b + 258) → h a = hb a)) (UF : ab_Z G h (b + 243) 16 uf) (SC : msc_ G h b n0 pg0 cc0) (SZS : szc_ G h b nc np pl R hm p3 p4) (T : mT_ gu G h b fs (E0)) : V G mX13_find (sv_MQ G mX13_find Qr) 107 [(4, .int (nI c)), (3, .int fv), (2, .int (nI cl)), (1, .int (nI ri)), (0, .ref (b + 220))] [] h z 0 0 := by
  have hqf := hq0.to (S := [28, 29, 36, 41, 52, 53, 54, 55, 56, 57, 58, 59, 60, 61, 62]) hl hE (by decide)
  refine v_aload_n dX13_find_107 rfl 4 rfl ?_
  refine v_iload dX13_find_108 0 rfl ?_
  refine v_callVq (M' := mX13_sizeOf) (n := 1) (As := [_]) (ci := 11) (r := (RX13, TX13, 71)) gX13_find_X13_sizeOf rfl (by decide +kernel) ⟨(Nat.le_of_ble_eq_true rfl), (Nat.le_of_ble_eq_true rfl)⟩ rfl rfl dX13_find_110 rfl ⟨(Nat.le_of_ble_eq_true rfl), (Nat.le_of_ble_eq_true rfl)⟩ (Nat.le_of_ble_eq_true rfl) (by first | with_reducible assumption) rfl (m_sizeOfL G _ b nc np pl R hm p3 p4 sz ly vo mp X Y h fs hqf hm9 (MY.kp (fun a p1 p2 => fr a (by omega) (by omega) (by omega))) hXY hR rk hr hrn c hc SC.2.2.2.2.1) (fun v9 h1 z1 hq9 => ?_)
  obtain ⟨rfl, rfl, SZ, u1⟩ := hq9
  have fr1 : ∀ a, a ≠ b + 220 → a ≠ b + 241 → ¬ (b + 243 ≤ a ∧ a < b + 258) → h1 a = hb a := fun a p1 p2 p3_ => (u1 a (by omega)).trans (fr a p1 p2 p3_)
  have hm1 := (u1 (b + 220) (by omega)).trans hm9
  obtain ⟨⟨f44, v44⟩, ⟨f45, v45⟩, ⟨f46, v46⟩, ⟨f47, v47⟩, _, L9⟩ := id SC
  refine v_lstore (L' := [(5, _), (4, _), (3, _), (2, _), (1, _), (0, _)]) dX13_find_113 (Nat.le_of_ble_eq_true rfl) rfl ?_
  refine v_aload_n dX13_find_115 rfl 5 rfl ?_
  refine v_iload dX13_find_116 1 rfl ?_
  refine v_callVq (M' := mX13_lay) (n := 1) (As := [_]) (ci := 11) (r := (RX13, TX13, 71)) gX13_find_X13_lay rfl (by decide +kernel) ⟨(Nat.le_of_ble_eq_true rfl), (Nat.le_of_ble_eq_true rfl)⟩ rfl rfl dX13_find_118 rfl ⟨(Nat.le_of_ble_eq_true rfl), (Nat.le_of_ble_eq_true rfl)⟩ (Nat.le_of_ble_eq_true rfl) (by first | with_reducible assumption) rfl (m_lay G _ b nc np pl R hm p3 p4 sz ly vo mp X Y h1 fs hqf (MY.kp (fun a p1 p2 => fr1 a (by omega) (by omega) (by omega))) c hc hXY hR SZ rk hr hrn (hN1 c hcr) ⟨f44, (u1 _ (by omega)).trans v44⟩ ⟨f45, (u1 _ (by omega)).trans v45⟩ ⟨f46, (u1 _ (by omega)).trans v46⟩ ⟨f47, (u1 _ (by omega)).trans v47⟩ hm1) (fun v9 h2 z2 hq9 => ?_)
  obtain ⟨rfl, rfl, fs2, d1, d2, d3, d4, d5, d6, d7⟩ := hq9
  have hq2 := hqf.to d2 d3 (by decide)
  have fr2 : ∀ a, a ≠ b + 220 → a ≠ b + 241 → ¬ (b + 243 ≤ a ∧ a < b + 258) → h2 a = hb a := fun a p1 p2 p3_ => (d7 a p1 (by omega)).trans (fr1 a p1 p2 p3_)
  have L2 : mld_ G h2 b 0 n0 pg0 cc0 := L9.kp (fun a p1 p2 => (d7 a (by omega) (by omega)).trans (u1 a (by omega)))
  have T2 : mT_ gu G h2 b fs2 E0 := T.kp ((d7 _ (by omega) (by omega)).trans (u1 _ (by omega))) (d3 28 (by decide)) (d3 29 (by decide))
  refine v_aload_n dX13_find_121 rfl 5 rfl ?_
  refine v_iload dX13_find_122 1 rfl ?_
  refine v_callVq (M' := mX13_goThrough) (n := 1) (As := [_]) (ci := 11) (r := (RX13, TX13, 71)) gX13_find_X13_goThrough rfl (by decide +kernel) ⟨(Nat.le_of_ble_eq_true rfl), (Nat.le_of_ble_eq_true rfl)⟩ rfl rfl dX13_find_124 rfl ⟨(Nat.le_of_ble_eq_true rfl), (Nat.le_of_ble_eq_true rfl)⟩ (Nat.le_of_ble_eq_true rfl) (by first | with_reducible assumption) rfl (m_goThrough G _ b nc np pl R hm p3 p4 sz ly vo mp X Y h2 fs2 hq2 (MY.kp (fun a p1 p2 => fr2 a (by omega) (by omega) (by omega))) (dS np pl (rQ R hm) p3 p4 16 c []) d5 (OKH c hc) ri kd l1 l2 x3 x4 x5 x6 (RU.kp (fun a p1 p2 => fr2 a (by omega) (by omega) (by omega))) ((d3 58 (by decide)).trans h58) hen n0 pg0 cc0 L2 fv ((d3 59 (by decide)).trans h59) c hc d4 d1 E0 T2) (fun v9 h3 z3 hq9 => ?_)
  obtain ⟨rfl, rfl, fs3, w1, w2, w3, w4, w5, w6⟩ := hq9
  refine v_sub (L' := [(4, _), (3, _), (2, _), (1, _), (0, _)]) [1, 2, 3, 4, 5] rfl ?_
  obtain ⟨fp, fd, fw, e1, e2, e3, e4, e5⟩ := id d5
  obtain ⟨fz, z8, z9⟩ := SZ
  obtain ⟨f7, e7⟩ := d6
  exact hk h3 fs3 w1 w2 ((hE.tr (d3.up (by decide))).tr (w3.up (by decide))) ((w3 58 (by decide)).trans ((d3 58 (by decide)).trans h58)) ((w3 59 (by decide)).trans ((d3 59 (by decide)).trans h59)) (fun a p1 p2 p3_ => (w4 a (by omega) p1 p2).trans (fr2 a p1 p2 p3_)) ((w4 _ (by omega) (by omega) (by omega)).trans ((d7 _ (by omega) (by omega)).trans ((u1 _ (by omega)).trans UF))) ⟨⟨fp, (w4 _ (by omega) (by omega) (by omega)).trans e1⟩, ⟨fd, (w4 _ (by omega) (by omega) (by omega)).trans e2⟩, ⟨fw, (w4 _ (by omega) (by omega) (by omega)).trans e3⟩, ⟨f7, (w4 _ (by omega) (by omega) (by omega)).trans e7⟩, ⟨fz, (w4 _ (by omega) (by omega) (by omega)).trans ((d7 _ (by omega) (by omega)).trans z8)⟩, w5⟩ ⟨fz, (w4 _ (by omega) (by omega) (by omega)).trans ((d7 _ (by omega) (by omega)).trans z8), z9⟩ w6

theorem EE_le {α : Type} (F : Nat → List α) {i j : Nat} (h : i ≤ j) : ((List.range i).flatMap F).length ≤ ((List.range j).flatMap F).length := by
  obtain ⟨k, rfl⟩ := Nat.exists_eq_add_of_le h
  clear h
  induction k with
  | zero => exact Nat.le_refl _
  | succ k ih =>
    rw [← Nat.add_assoc, rgm_s, List.length_append]
    omega
set_option maxHeartbeats 4000000 in
set_option maxRecDepth 100000 in
theorem l_fi (G : sv_G) (Qr : Option Value → sv_h → Nat → Prop) (z b nc np pl : Nat) (R : Nat → Bool) (hm p3 p4 sz : Nat → Nat) (ly vo : Nat → Int32) (mp : Nat → mvT) (X Y : Nat → Nat → Int) (hb : sv_h) (fs0 : List Value) (hq0 : mfq_ b nc np pl fs0) (MY : myl_ G hb b nc np pl R hm p3 p4 sz ly vo mp X Y) (hXY : ∀ p, p < np → ∀ i, i < sz p → (-10000 ≤ X p i ∧ X p i ≤ 10000) ∧ (-10000 ≤ Y p i ∧ Y p i ≤ 10000)) (hR : ∀ p, p < np → (R p = true ↔ gm_mr (sz p) (fun i => iN (X p i)) (fun i => iN (Y p i)))) (rk : Nat → Nat) (hr : ∀ i, i < pl → rk (p4 i) < rk (p3 i)) (hrn : ∀ c, c < nc → rk c < nc) (OKH : ∀ c, c < nc → mok_ np pl sz mp X Y (dS np pl (rQ R hm) p3 p4 16 c [])) (ri kd : Nat) (l1 l2 x3 x4 x5 x6 : Int32) (RU : mru_ G hb b ri kd l1 l2 x3 x4 x5 x6) (hen : x6 = -1 ∨ 0 ≤ x6) (n0 pg0 : Nat → Nat) (cc0 : Nat → Nat → Int × Int) (cl : Nat) (hcl : cl < nc) (hN1 : ∀ c, gr_R pl p3 p4 cl c → oc_n np pl R hm p3 p4 16 c ≤ 100) (fv : Int32) (hfv : fv = 0 ∨ fv = 1) (uf : Nat → Int32) (hu : ∀ d, d < 16 → (¬ uf d = 0 ↔ gr_R pl p3 p4 cl d)) (hk : ∀ (h : sv_h) (fs : List Value) (v : Int32), h (b + 220) = some (.inr (11, fs)) → fs.length = 71 → fsE [28, 29, 36, 41, 52, 53, 54, 55, 56, 57, 58, 59, 60, 61, 62] fs0 fs → fs[58]? = some (.int (nI ri)) → fs[59]? = some (.int fv) → (∀ a, a ≠ b + 220 → a ≠ b + 241 → ¬ (b + 243 ≤ a ∧ a < b + 258) → h a = hb a) → ab_Z G h (b + 243) 16 uf → msc_ G h b n0 pg0 cc0 → szc_ G h b nc np pl R hm p3 p4 → (∃ E1, mT_ gu G h b fs E1 ∧ ((((List.range nc).flatMap (fun c => (if (fv ≠ 0 ∧ c = cl) ∨ (fv = 0 ∧ ¬ uf c = 0) then goQ fv kd l1 l2 x3 x4 x5 x6 p4 ly vo mp sz X Y c (dS np pl (rQ R hm) p3 p4 16 c []) else []))).length ≤ 1500 ∧ E1 = ((List.range nc).flatMap (fun c => (if (fv ≠ 0 ∧ c = cl) ∨ (fv = 0 ∧ ¬ uf c = 0) then goQ fv kd l1 l2 x3 x4 x5 x6 p4 ly vo mp sz X Y c (dS np pl (rQ R hm) p3 p4 16 c []) else []))) ∧ v = 1) ∨ (1500 < ((List.range nc).flatMap (fun c => (if (fv ≠ 0 ∧ c = cl) ∨ (fv = 0 ∧ ¬ uf c = 0) then goQ fv kd l1 l2 x3 x4 x5 x6 p4 ly vo mp sz X Y c (dS np pl (rQ R hm) p3 p4 16 c []) else []))).length ∧ v = 0))) → Qr (some (.int v)) h z) : ∀ (e c : Nat) (h : sv_h) (fs : List Value), c + e = nc → h (b + 220) = some (.inr (11, fs)) → fs.length = 71 → fsE [28, 29, 36, 41, 52, 53, 54, 55, 56, 57, 58, 59, 60, 61, 62] fs0 fs → fs[58]? = some (.int (nI ri)) → fs[59]? = some (.int fv) → (∀ a, a ≠ b + 220 → a ≠ b + 241 → ¬ (b + 243 ≤ a ∧ a < b + 258) → h a = hb a) → ab_Z G h (b + 243) 16 uf → msc_ G h b n0 pg0 cc0 → szc_ G h b nc np pl R hm p3 p4 → mT_ gu G h b fs (((List.range c).flatMap (fun c => (if (fv ≠ 0 ∧ c = cl) ∨ (fv = 0 ∧ ¬ uf c = 0) then goQ fv kd l1 l2 x3 x4 x5 x6 p4 ly vo mp sz X Y c (dS np pl (rQ R hm) p3 p4 16 c []) else [])))) → V G mX13_find (sv_MQ G mX13_find Qr) 68 [(4, .int (nI c)), (3, .int fv), (2, .int (nI cl)), (1, .int (nI ri)), (0, .ref (b + 220))] [] h z 0 0 := by
  intro e
  induction e with
  | zero =>
    intro c h fs hce hm9 hl hE h58 h59 fr UF SC SZS T
    have hqf := hq0.to (S := [28, 29, 36, 41, 52, 53, 54, 55, 56, 57, 58, 59, 60, 61, 62]) hl hE (by decide)
    have hlen : fs.length = 71 := hl
    obtain ⟨_, _, _, _, _, _, _, _, _, _, _, yB, yC, yD, yE, yF⟩ := id MY
    obtain ⟨t28, t29, gt, t41, tg⟩ := id T
    have f_full := t29
    have f_cells := hqf.f_cells
    have f_under := hqf.f_under
    have e9 : c = nc := by omega
    subst e9
    refine v_iload dX13_find_68 0 rfl ?_
    refine v_aload_n dX13_find_70 rfl 4 rfl ?_
    refine v_getf 2 (ci := 11) (C := RX13) (T := TX13) (N := 71) rfl iwX13_find_X13 (Nat.le_of_ble_eq_true rfl) (by decide +kernel) dX13_find_71 (by first | with_reducible assumption) (by repeat (first | with_reducible assumption | (with_reducible refine (sv_ls (by first | omega | (simp only [List.length_set]; omega))).trans ?_; exact rfl) | with_reducible refine (List.getElem?_set_ne (by decide)).trans ?_)) ?_
    refine v_icmp_ge (tgt := 133) dX13_find_74 (by decide) (fun c_74 => ?_) (fun c_74 => ?_)
    · refine v_aload_n dX13_find_133 rfl 4 rfl ?_
      refine v_getf 29 (ci := 11) (C := RX13) (T := TX13) (N := 71) rfl iwX13_find_X13 (Nat.le_of_ble_eq_true rfl) (by decide +kernel) dX13_find_134 (by first | with_reducible assumption) (by repeat (first | with_reducible assumption | (with_reducible refine (sv_ls (by first | omega | (simp only [List.length_set]; omega))).trans ?_; exact rfl) | with_reducible refine (List.getElem?_set_ne (by decide)).trans ?_)) ?_
      refine v_if_ne (tgt := 144) dX13_find_137 (by decide) (fun c_137 => ?_) (fun c_137 => ?_)
      · refine v_iconst (v := 0) dX13_find_144 (by decide) ?_
        exact v_iret rfl dX13_find_145 (Nat.le_of_ble_eq_true rfl) (Nat.le_of_ble_eq_true rfl) rfl (by
                  first
                    | (have c9 := c_137
                       have n9 : ¬ ((List.range c).flatMap (fun c => (if (fv ≠ 0 ∧ c = cl) ∨ (fv = 0 ∧ ¬ uf c = 0) then goQ fv kd l1 l2 x3 x4 x5 x6 p4 ly vo mp sz X Y c (dS np pl (rQ R hm) p3 p4 16 c []) else []))).length ≤ 1500 := fun q => c9 (if_pos q)
                       exact hk h fs 0 hm9 hl hE h58 h59 fr UF SC SZS ⟨_, T, Or.inr ⟨by omega, rfl⟩⟩)
                    | (have c9 := c_137
                       have n9 : ((List.range c).flatMap (fun c => (if (fv ≠ 0 ∧ c = cl) ∨ (fv = 0 ∧ ¬ uf c = 0) then goQ fv kd l1 l2 x3 x4 x5 x6 p4 ly vo mp sz X Y c (dS np pl (rQ R hm) p3 p4 16 c []) else []))).length ≤ 1500 := Decidable.of_not_not (fun q => by rw [if_neg q] at c9; exact absurd c9 (by decide))
                       exact hk h fs 1 hm9 hl hE h58 h59 fr UF SC SZS ⟨_, T, Or.inl ⟨n9, rfl, rfl⟩⟩))
      · refine v_iconst (v := 1) dX13_find_140 (by decide) ?_
        refine v_goto (tgt := 145) dX13_find_141 (by decide) ?_
        exact v_iret rfl dX13_find_145 (Nat.le_of_ble_eq_true rfl) (Nat.le_of_ble_eq_true rfl) rfl (by
                  first
                    | (have c9 := c_137
                       have n9 : ¬ ((List.range c).flatMap (fun c => (if (fv ≠ 0 ∧ c = cl) ∨ (fv = 0 ∧ ¬ uf c = 0) then goQ fv kd l1 l2 x3 x4 x5 x6 p4 ly vo mp sz X Y c (dS np pl (rQ R hm) p3 p4 16 c []) else []))).length ≤ 1500 := fun q => c9 (if_pos q)
                       exact hk h fs 0 hm9 hl hE h58 h59 fr UF SC SZS ⟨_, T, Or.inr ⟨by omega, rfl⟩⟩)
                    | (have c9 := c_137
                       have n9 : ((List.range c).flatMap (fun c => (if (fv ≠ 0 ∧ c = cl) ∨ (fv = 0 ∧ ¬ uf c = 0) then goQ fv kd l1 l2 x3 x4 x5 x6 p4 ly vo mp sz X Y c (dS np pl (rQ R hm) p3 p4 16 c []) else []))).length ≤ 1500 := Decidable.of_not_not (fun q => by rw [if_neg q] at c9; exact absurd c9 (by decide))
                       exact hk h fs 1 hm9 hl hE h58 h59 fr UF SC SZS ⟨_, T, Or.inl ⟨n9, rfl, rfl⟩⟩))
    · exact absurd (nI_le (Nat.le_refl _) (by omega)) c_74
  | succ e ih =>
    intro c h fs hce hm9 hl hE h58 h59 fr UF SC SZS T
    have hqf := hq0.to (S := [28, 29, 36, 41, 52, 53, 54, 55, 56, 57, 58, 59, 60, 61, 62]) hl hE (by decide)
    have hlen : fs.length = 71 := hl
    obtain ⟨_, _, _, _, _, _, _, _, _, _, _, yB, yC, yD, yE, yF⟩ := id MY
    obtain ⟨t28, t29, gt, t41, tg⟩ := id T
    have f_full := t29
    have f_cells := hqf.f_cells
    have f_under := hqf.f_under
    have hc : c < nc := by omega
    have esc : ((List.range (c + 1)).flatMap (fun c => (if (fv ≠ 0 ∧ c = cl) ∨ (fv = 0 ∧ ¬ uf c = 0) then goQ fv kd l1 l2 x3 x4 x5 x6 p4 ly vo mp sz X Y c (dS np pl (rQ R hm) p3 p4 16 c []) else []))) = ((List.range c).flatMap (fun c => (if (fv ≠ 0 ∧ c = cl) ∨ (fv = 0 ∧ ¬ uf c = 0) then goQ fv kd l1 l2 x3 x4 x5 x6 p4 ly vo mp sz X Y c (dS np pl (rQ R hm) p3 p4 16 c []) else []))) ++ (if (fv ≠ 0 ∧ c = cl) ∨ (fv = 0 ∧ ¬ uf c = 0) then goQ fv kd l1 l2 x3 x4 x5 x6 p4 ly vo mp sz X Y c (dS np pl (rQ R hm) p3 p4 16 c []) else []) := rgm_s _ c
    have hkk : ∀ (h : sv_h) (fs : List Value), h (b + 220) = some (.inr (11, fs)) → fs.length = 71 → fsE [28, 29, 36, 41, 52, 53, 54, 55, 56, 57, 58, 59, 60, 61, 62] fs0 fs → fs[58]? = some (.int (nI ri)) → fs[59]? = some (.int fv) → (∀ a, a ≠ b + 220 → a ≠ b + 241 → ¬ (b + 243 ≤ a ∧ a < b + 258) → h a = hb a) → ab_Z G h (b + 243) 16 uf → msc_ G h b n0 pg0 cc0 → szc_ G h b nc np pl R hm p3 p4 → mT_ gu G h b fs (((List.range (c + 1)).flatMap (fun c => (if (fv ≠ 0 ∧ c = cl) ∨ (fv = 0 ∧ ¬ uf c = 0) then goQ fv kd l1 l2 x3 x4 x5 x6 p4 ly vo mp sz X Y c (dS np pl (rQ R hm) p3 p4 16 c []) else [])))) → V G mX13_find (sv_MQ G mX13_find Qr) 127 [(4, .int (nI c)), (3, .int fv), (2, .int (nI cl)), (1, .int (nI ri)), (0, .ref (b + 220))] [] h z 0 0 := (by
      intro h2 fs2 v1 v2 v3 v4 v5 v6 v7 v8 vS v9
      refine v_iinc (j := 0) (L' := [(4, _), (3, _), (2, _), (1, _), (0, _)]) (v := nI (c + 1)) dX13_find_127 rfl (nI_1 _) (Nat.le_of_ble_eq_true rfl) rfl ?_
      refine v_goto (tgt := 68) dX13_find_130 (by decide) ?_
      refine v_sub (L' := [(4, _), (3, _), (2, _), (1, _), (0, _)]) [0, 1, 2, 3, 4] rfl ?_
      exact ih (c + 1) h2 fs2 (by omega) v1 v2 v3 v4 v5 v6 v7 v8 vS v9)
    refine v_iload dX13_find_68 0 rfl ?_
    refine v_aload_n dX13_find_70 rfl 4 rfl ?_
    refine v_getf 2 (ci := 11) (C := RX13) (T := TX13) (N := 71) rfl iwX13_find_X13 (Nat.le_of_ble_eq_true rfl) (by decide +kernel) dX13_find_71 (by first | with_reducible assumption) (by repeat (first | with_reducible assumption | (with_reducible refine (sv_ls (by first | omega | (simp only [List.length_set]; omega))).trans ?_; exact rfl) | with_reducible refine (List.getElem?_set_ne (by decide)).trans ?_)) ?_
    refine v_icmp_ge (tgt := 133) dX13_find_74 (by decide) (fun c_74 => ?_) (fun c_74 => ?_)
    · exact absurd c_74 (nI_ge hc (by omega))
    · refine v_aload_n dX13_find_77 rfl 4 rfl ?_
      refine v_getf 29 (ci := 11) (C := RX13) (T := TX13) (N := 71) rfl iwX13_find_X13 (Nat.le_of_ble_eq_true rfl) (by decide +kernel) dX13_find_78 (by first | with_reducible assumption) (by repeat (first | with_reducible assumption | (with_reducible refine (sv_ls (by first | omega | (simp only [List.length_set]; omega))).trans ?_; exact rfl) | with_reducible refine (List.getElem?_set_ne (by decide)).trans ?_)) ?_
      refine v_if_ne (tgt := 133) dX13_find_81 (by decide) (fun c_81 => ?_) (fun c_81 => ?_)
      · refine v_aload_n dX13_find_133 rfl 4 rfl ?_
        refine v_getf 29 (ci := 11) (C := RX13) (T := TX13) (N := 71) rfl iwX13_find_X13 (Nat.le_of_ble_eq_true rfl) (by decide +kernel) dX13_find_134 (by first | with_reducible assumption) (by repeat (first | with_reducible assumption | (with_reducible refine (sv_ls (by first | omega | (simp only [List.length_set]; omega))).trans ?_; exact rfl) | with_reducible refine (List.getElem?_set_ne (by decide)).trans ?_)) ?_
        refine v_if_ne (tgt := 144) dX13_find_137 (by decide) (fun c_137 => ?_) (fun c_137 => ?_)
        · refine v_iconst (v := 0) dX13_find_144 (by decide) ?_
          exact v_iret rfl dX13_find_145 (Nat.le_of_ble_eq_true rfl) (Nat.le_of_ble_eq_true rfl) rfl (by
                    first
                      | (have c9 := c_137
                         have n9 : ¬ ((List.range c).flatMap (fun c => (if (fv ≠ 0 ∧ c = cl) ∨ (fv = 0 ∧ ¬ uf c = 0) then goQ fv kd l1 l2 x3 x4 x5 x6 p4 ly vo mp sz X Y c (dS np pl (rQ R hm) p3 p4 16 c []) else []))).length ≤ 1500 := fun q => c9 (if_pos q)
                         exact hk h fs 0 hm9 hl hE h58 h59 fr UF SC SZS ⟨_, T, Or.inr ⟨by have := EE_le (fun c => (if (fv ≠ 0 ∧ c = cl) ∨ (fv = 0 ∧ ¬ uf c = 0) then goQ fv kd l1 l2 x3 x4 x5 x6 p4 ly vo mp sz X Y c (dS np pl (rQ R hm) p3 p4 16 c []) else [])) (show c ≤ nc by omega); omega, rfl⟩⟩)
                      | (have c9 := c_137
                         have n9 : ((List.range c).flatMap (fun c => (if (fv ≠ 0 ∧ c = cl) ∨ (fv = 0 ∧ ¬ uf c = 0) then goQ fv kd l1 l2 x3 x4 x5 x6 p4 ly vo mp sz X Y c (dS np pl (rQ R hm) p3 p4 16 c []) else []))).length ≤ 1500 := Decidable.of_not_not (fun q => by rw [if_neg q] at c9; exact absurd c9 (by decide))
                         exact absurd (if_pos n9) c_81))
        · refine v_iconst (v := 1) dX13_find_140 (by decide) ?_
          refine v_goto (tgt := 145) dX13_find_141 (by decide) ?_
          exact v_iret rfl dX13_find_145 (Nat.le_of_ble_eq_true rfl) (Nat.le_of_ble_eq_true rfl) rfl (by
                    first
                      | (have c9 := c_137
                         have n9 : ¬ ((List.range c).flatMap (fun c => (if (fv ≠ 0 ∧ c = cl) ∨ (fv = 0 ∧ ¬ uf c = 0) then goQ fv kd l1 l2 x3 x4 x5 x6 p4 ly vo mp sz X Y c (dS np pl (rQ R hm) p3 p4 16 c []) else []))).length ≤ 1500 := fun q => c9 (if_pos q)
                         exact hk h fs 0 hm9 hl hE h58 h59 fr UF SC SZS ⟨_, T, Or.inr ⟨by have := EE_le (fun c => (if (fv ≠ 0 ∧ c = cl) ∨ (fv = 0 ∧ ¬ uf c = 0) then goQ fv kd l1 l2 x3 x4 x5 x6 p4 ly vo mp sz X Y c (dS np pl (rQ R hm) p3 p4 16 c []) else [])) (show c ≤ nc by omega); omega, rfl⟩⟩)
                      | (have c9 := c_137
                         have n9 : ((List.range c).flatMap (fun c => (if (fv ≠ 0 ∧ c = cl) ∨ (fv = 0 ∧ ¬ uf c = 0) then goQ fv kd l1 l2 x3 x4 x5 x6 p4 ly vo mp sz X Y c (dS np pl (rQ R hm) p3 p4 16 c []) else []))).length ≤ 1500 := Decidable.of_not_not (fun q => by rw [if_neg q] at c9; exact absurd c9 (by decide))
                         exact absurd (if_pos n9) c_81))
      · refine v_iload_n dX13_find_84 rfl 1 rfl ?_
        refine v_if_eq (tgt := 97) dX13_find_85 (by decide) (fun c_85 => ?_) (fun c_85 => ?_)
        · refine v_aload_n dX13_find_97 rfl 4 rfl ?_
          refine v_getf 35 (ci := 11) (C := RX13) (T := TX13) (N := 71) rfl iwX13_find_X13 (Nat.le_of_ble_eq_true rfl) (by decide +kernel) dX13_find_98 (by first | with_reducible assumption) (by repeat (first | with_reducible assumption | (with_reducible refine (sv_ls (by first | omega | (simp only [List.length_set]; omega))).trans ?_; exact rfl) | with_reducible refine (List.getElem?_set_ne (by decide)).trans ?_)) ?_
          refine v_iload dX13_find_101 0 rfl ?_
          refine v_zaldS (v := uf c) dX13_find_103 (by first | with_reducible assumption) (vp_in_nI (by omega) (by omega)) (by rw [nI_clamp (by omega)]) ?_
          refine v_if_eq (tgt := 127) dX13_find_104 (by decide) (fun c_104 => ?_) (fun c_104 => ?_)
          · refine v_sub (L' := [(4, _), (3, _), (2, _), (1, _), (0, _)]) [0, 1, 2, 3, 4] rfl ?_
            refine hkk h fs hm9 hl hE h58 h59 fr UF SC SZS ?_
            rw [esc, if_neg (fun q => by
              rcases q with q | q
              · first
                  | exact c_91 (congrArg nI q.2)
                  | exact q.1 c_85
              · first
                  | exact c_85 q.1
                  | exact q.2 c_104), List.append_nil]
            exact T
          · refine v_sub (L' := [(4, _), (3, _), (2, _), (1, _), (0, _)]) [0, 1, 2, 3, 4] rfl ?_
            refine t_fi107 G Qr z b nc np pl R hm p3 p4 sz ly vo mp X Y hb fs0 hq0 MY hXY hR rk hr hrn OKH ri kd l1 l2 x3 x4 x5 x6 RU hen n0 pg0 cc0 cl hcl hN1 fv hfv uf c hc (by
              first
                | (have e9 : c = cl := nI_i (by omega) (by omega) c_91
                   rw [e9]
                   exact fun S9 s0 _ => s0)
                | exact (hu c (by omega)).mp c_104) _ (fun h2 fs2 v1 v2 v3 v4 v5 v6 v7 v8 vS v9 => hkk h2 fs2 v1 v2 v3 v4 v5 v6 v7 v8 vS (by
              rw [esc, if_pos (by
                first
                  | exact Or.inl ⟨c_85, nI_i (by omega) (by omega) c_91⟩
                  | exact Or.inr ⟨c_85, c_104⟩)]
              exact v9)) h fs hm9 hl hE h58 h59 fr UF SC SZS T
        · refine v_iload dX13_find_88 0 rfl ?_
          refine v_iload_n dX13_find_90 rfl 2 rfl ?_
          refine v_icmp_ne (tgt := 127) dX13_find_91 (by decide) (fun c_91 => ?_) (fun c_91 => ?_)
          · refine v_sub (L' := [(4, _), (3, _), (2, _), (1, _), (0, _)]) [0, 1, 2, 3, 4] rfl ?_
            refine hkk h fs hm9 hl hE h58 h59 fr UF SC SZS ?_
            rw [esc, if_neg (fun q => by
              rcases q with q | q
              · first
                  | exact c_91 (congrArg nI q.2)
                  | exact q.1 c_85
              · first
                  | exact c_85 q.1
                  | exact q.2 c_104), List.append_nil]
            exact T
          · refine v_goto (tgt := 107) dX13_find_94 (by decide) ?_
            refine v_sub (L' := [(4, _), (3, _), (2, _), (1, _), (0, _)]) [0, 1, 2, 3, 4] rfl ?_
            refine t_fi107 G Qr z b nc np pl R hm p3 p4 sz ly vo mp X Y hb fs0 hq0 MY hXY hR rk hr hrn OKH ri kd l1 l2 x3 x4 x5 x6 RU hen n0 pg0 cc0 cl hcl hN1 fv hfv uf c hc (by
              first
                | (have e9 : c = cl := nI_i (by omega) (by omega) c_91
                   rw [e9]
                   exact fun S9 s0 _ => s0)
                | exact (hu c (by omega)).mp c_104) _ (fun h2 fs2 v1 v2 v3 v4 v5 v6 v7 v8 vS v9 => hkk h2 fs2 v1 v2 v3 v4 v5 v6 v7 v8 vS (by
              rw [esc, if_pos (by
                first
                  | exact Or.inl ⟨c_85, nI_i (by omega) (by omega) c_91⟩
                  | exact Or.inr ⟨c_85, c_104⟩)]
              exact v9)) h fs hm9 hl hE h58 h59 fr UF SC SZS T

set_option maxHeartbeats 4000000 in
set_option maxRecDepth 100000 in
theorem t_fi41 (G : sv_G) (Qr : Option Value → sv_h → Nat → Prop) (z b nc np pl : Nat) (R : Nat → Bool) (hm p3 p4 sz : Nat → Nat) (ly vo : Nat → Int32) (mp : Nat → mvT) (X Y : Nat → Nat → Int) (hb : sv_h) (fs0 : List Value) (hq0 : mfq_ b nc np pl fs0) (MY : myl_ G hb b nc np pl R hm p3 p4 sz ly vo mp X Y) (hXY : ∀ p, p < np → ∀ i, i < sz p → (-10000 ≤ X p i ∧ X p i ≤ 10000) ∧ (-10000 ≤ Y p i ∧ Y p i ≤ 10000)) (hR : ∀ p, p < np → (R p = true ↔ gm_mr (sz p) (fun i => iN (X p i)) (fun i => iN (Y p i)))) (rk : Nat → Nat) (hr : ∀ i, i < pl → rk (p4 i) < rk (p3 i)) (hrn : ∀ c, c < nc → rk c < nc) (OKH : ∀ c, c < nc → mok_ np pl sz mp X Y (dS np pl (rQ R hm) p3 p4 16 c [])) (ri kd : Nat) (l1 l2 x3 x4 x5 x6 : Int32) (RU : mru_ G hb b ri kd l1 l2 x3 x4 x5 x6) (hen : x6 = -1 ∨ 0 ≤ x6) (n0 pg0 : Nat → Nat) (cc0 : Nat → Nat → Int × Int) (cl : Nat) (hcl : cl < nc) (hN1 : ∀ c, gr_R pl p3 p4 cl c → oc_n np pl R hm p3 p4 16 c ≤ 100) (fv : Int32) (hfv : fv = 0 ∨ fv = 1) (hbw : (kd = 5 ∨ kd = 6) → ∀ i, i < (dS np pl (rQ R hm) p3 p4 16 cl []).length → (bxW mp sz X Y (dS np pl (rQ R hm) p3 p4 16 cl [])) i 0 < (bxW mp sz X Y (dS np pl (rQ R hm) p3 p4 16 cl [])) i 2 ∧ (bxW mp sz X Y (dS np pl (rQ R hm) p3 p4 16 cl [])) i 1 < (bxW mp sz X Y (dS np pl (rQ R hm) p3 p4 16 cl [])) i 3) (k56 : kd = 5 ∨ kd = 6) (uf : Nat → Int32) (hk : ∀ (h : sv_h) (fs : List Value), h (b + 220) = some (.inr (11, fs)) → fs.length = 71 → fsE [28, 29, 36, 41, 52, 53, 54, 55, 56, 57, 58, 59, 60, 61, 62] fs0 fs → fs[58]? = some (.int (nI ri)) → fs[59]? = some (.int fv) → (∀ a, a ≠ b + 220 → a ≠ b + 241 → ¬ (b + 243 ≤ a ∧ a < b + 258) → h a = hb a) → (∃ uf, ab_Z G h (b + 243) 16 uf) → msc_ G h b n0 pg0 cc0 → szc_ G h b nc np pl R hm p3 p4 → mT_ gu G h b fs (whQ kd x3 cl (dS np pl (rQ R hm) p3 p4 16 cl []).length (arW (fun p => arM (crR (fun k => (X p k, Y p k)) (sz p)) (sz p)) ly l1 (dS np pl (rQ R hm) p3 p4 16 cl []) (dS np pl (rQ R hm) p3 p4 16 cl []).length) (cnS ly l1 (dS np pl (rQ R hm) p3 p4 16 cl []) (dS np pl (rQ R hm) p3 p4 16 cl []).length) (spn (bxW mp sz X Y (dS np pl (rQ R hm) p3 p4 16 cl [])) (dS np pl (rQ R hm) p3 p4 16 cl []).length)) → Qr (some (.int 1)) h z) (h : sv_h) (fs : List Value) (hm9 : h (b + 220) = some (.inr (11, fs))) (hl : fs.length = 71) (hE : fsE [28, 29, 36, 41, 52, 53, 54, 55, 56, 57, 58, 59, 60, 61, 62] fs0 fs) (h58 : fs[58]? = some (.int (nI ri))) (h59 : fs[59]? = some (.int fv)) (fr : (∀ a, a ≠ b + 220 → a ≠ b + 241 → ¬ (b + 243 ≤ a ∧ a < b + 258) → h a = hb a)) (UF : ab_Z G h (b + 243) 16 uf) (SC : msc_ G h b n0 pg0 cc0) (SZS : szc_ G h b nc np pl R hm p3 p4) (T : mT_ gu G h b fs (([] : List (List Int64)))) (mo : Value) (h60 : fs[60]? = some mo) : V G mX13_find (sv_MQ G mX13_find Qr) 41 [(3, .int fv), (2, .int (nI cl)), (1, .int (nI ri)), (0, .ref (b + 220))] [] h z 0 0 := by
  have hqf := hq0.to (S := [28, 29, 36, 41, 52, 53, 54, 55, 56, 57, 58, 59, 60, 61, 62]) hl hE (by decide)
  refine v_aload_n dX13_find_41 rfl 3 rfl ?_
  refine v_iload_n dX13_find_42 rfl 1 rfl ?_
  refine v_callVq (M' := mX13_sizeOf) (n := 1) (As := [_]) (ci := 11) (r := (RX13, TX13, 71)) gX13_find_X13_sizeOf rfl (by decide +kernel) ⟨(Nat.le_of_ble_eq_true rfl), (Nat.le_of_ble_eq_true rfl)⟩ rfl rfl dX13_find_43 rfl ⟨(Nat.le_of_ble_eq_true rfl), (Nat.le_of_ble_eq_true rfl)⟩ (Nat.le_of_ble_eq_true rfl) (by first | with_reducible assumption) rfl (m_sizeOfL G _ b nc np pl R hm p3 p4 sz ly vo mp X Y h fs hqf hm9 (MY.kp (fun a p1 p2 => fr a (by omega) (by omega) (by omega))) hXY hR rk hr hrn cl hcl SC.2.2.2.2.1) (fun v9 h1 z1 hq9 => ?_)
  obtain ⟨rfl, rfl, SZ, u1⟩ := hq9
  have fr1 : ∀ a, a ≠ b + 220 → a ≠ b + 241 → ¬ (b + 243 ≤ a ∧ a < b + 258) → h1 a = hb a := fun a p1 p2 p3_ => (u1 a (by omega)).trans (fr a p1 p2 p3_)
  have hm1 := (u1 (b + 220) (by omega)).trans hm9
  obtain ⟨⟨f44, v44⟩, ⟨f45, v45⟩, ⟨f46, v46⟩, ⟨f47, v47⟩, _, L9⟩ := id SC
  refine v_lstore (L' := [(4, _), (3, _), (2, _), (1, _), (0, _)]) dX13_find_46 (Nat.le_of_ble_eq_true rfl) rfl ?_
  refine v_aload_n dX13_find_48 rfl 4 rfl ?_
  refine v_iload_n dX13_find_49 rfl 2 rfl ?_
  refine v_callVq (M' := mX13_lay) (n := 1) (As := [_]) (ci := 11) (r := (RX13, TX13, 71)) gX13_find_X13_lay rfl (by decide +kernel) ⟨(Nat.le_of_ble_eq_true rfl), (Nat.le_of_ble_eq_true rfl)⟩ rfl rfl dX13_find_50 rfl ⟨(Nat.le_of_ble_eq_true rfl), (Nat.le_of_ble_eq_true rfl)⟩ (Nat.le_of_ble_eq_true rfl) (by first | with_reducible assumption) rfl (m_lay G _ b nc np pl R hm p3 p4 sz ly vo mp X Y h1 fs hqf (MY.kp (fun a p1 p2 => fr1 a (by omega) (by omega) (by omega))) cl hcl hXY hR SZ rk hr hrn (hN1 cl (fun S9 s0 _ => s0)) ⟨f44, (u1 _ (by omega)).trans v44⟩ ⟨f45, (u1 _ (by omega)).trans v45⟩ ⟨f46, (u1 _ (by omega)).trans v46⟩ ⟨f47, (u1 _ (by omega)).trans v47⟩ hm1) (fun v9 h2 z2 hq9 => ?_)
  obtain ⟨rfl, rfl, fs2, d1, d2, d3, d4, d5, d6, d7⟩ := hq9
  have hq2 := hqf.to d2 d3 (by decide)
  have fr2 : ∀ a, a ≠ b + 220 → a ≠ b + 241 → ¬ (b + 243 ≤ a ∧ a < b + 258) → h2 a = hb a := fun a p1 p2 p3_ => (d7 a p1 (by omega)).trans (fr1 a p1 p2 p3_)
  have L2 : mld_ G h2 b 0 n0 pg0 cc0 := L9.kp (fun a p1 p2 => (d7 a (by omega) (by omega)).trans (u1 a (by omega)))
  have T2 : mT_ gu G h2 b fs2 [] := T.kp ((d7 _ (by omega) (by omega)).trans (u1 _ (by omega))) (d3 28 (by decide)) (d3 29 (by decide))
  obtain ⟨t28, t29, gt, t41, tg, hgu⟩ := id T2
  refine v_aload_n dX13_find_53 rfl 4 rfl ?_
  refine v_iload_n dX13_find_54 rfl 2 rfl ?_
  refine v_callVq (M' := mX13_whole) (n := 1) (As := [_]) (ci := 11) (r := (RX13, TX13, 71)) gX13_find_X13_whole rfl (by decide +kernel) ⟨(Nat.le_of_ble_eq_true rfl), (Nat.le_of_ble_eq_true rfl)⟩ rfl rfl dX13_find_55 rfl ⟨(Nat.le_of_ble_eq_true rfl), (Nat.le_of_ble_eq_true rfl)⟩ (Nat.le_of_ble_eq_true rfl) (by first | with_reducible assumption) rfl (m_whole G _ b nc np pl R hm p3 p4 sz ly vo mp X Y h2 fs2 hq2 (MY.kp (fun a p1 p2 => fr2 a (by omega) (by omega) (by omega))) (dS np pl (rQ R hm) p3 p4 16 cl []) d5 (OKH cl hcl) ri kd l1 l2 x3 x4 x5 x6 (RU.kp (fun a p1 p2 => fr2 a (by omega) (by omega) (by omega))) ((d3 58 (by decide)).trans h58) hen n0 pg0 cc0 L2 cl hcl d4 (hbw k56) mo ((d3 60 (by decide)).trans h60) gt t41 t28 t29 hgu d1) (fun v9 h3 z3 hq9 => ?_)
  obtain ⟨rfl, rfl, fs3, w1, w2, w3, w4, w5, w6⟩ := hq9
  refine v_iconst (v := 1) dX13_find_58 (by decide) ?_
  exact v_iret rfl dX13_find_59 (Nat.le_of_ble_eq_true rfl) (Nat.le_of_ble_eq_true rfl) rfl (by
        obtain ⟨fp, fd, fw, e1, e2, e3, e4, e5⟩ := id d5
        obtain ⟨fz, z8, z9⟩ := SZ
        obtain ⟨f7, e7⟩ := d6
        exact hk h3 fs3 w1 w2 ((hE.tr (d3.up (by decide))).tr (w3.up (by decide))) ((w3 58 (by decide)).trans ((d3 58 (by decide)).trans h58)) ((w3 59 (by decide)).trans ((d3 59 (by decide)).trans h59)) (fun a p1 p2 p3_ => (w4 a (by omega) p1 p2).trans (fr2 a p1 p2 p3_)) ⟨uf, (w4 _ (by omega) (by omega) (by omega)).trans ((d7 _ (by omega) (by omega)).trans ((u1 _ (by omega)).trans UF))⟩ ⟨⟨fp, (w4 _ (by omega) (by omega) (by omega)).trans e1⟩, ⟨fd, (w4 _ (by omega) (by omega) (by omega)).trans e2⟩, ⟨fw, (w4 _ (by omega) (by omega) (by omega)).trans e3⟩, ⟨f7, (w4 _ (by omega) (by omega) (by omega)).trans e7⟩, ⟨fz, (w4 _ (by omega) (by omega) (by omega)).trans ((d7 _ (by omega) (by omega)).trans z8)⟩, w5⟩ ⟨fz, (w4 _ (by omega) (by omega) (by omega)).trans ((d7 _ (by omega) (by omega)).trans z8), z9⟩ w6)

end GU
