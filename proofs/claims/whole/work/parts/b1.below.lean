theorem iwX1_layOutBelow_X1 : ∀ w ∈ wsX10, w ∈ wsX1_layOutBelow := by decide +kernel
theorem iwX1_layOutBelow_X10 : ∀ w ∈ wsX100, w ∈ wsX1_layOutBelow := by decide +kernel
theorem iwX1_layOutBelow_X3 : ∀ w ∈ wsX30, w ∈ wsX1_layOutBelow := by decide +kernel
set_option maxRecDepth 20000 in
theorem ggX1_layOutBelow_X10_addMoved : GoodIn wsX1_layOutBelow wsX10_addMoved := goodIn_r _ [14, 15, 16, 17, 18, 19, 20, 21, 22, 23, 24, 25, 26, 27, 28, 29, 30, 31, 32, 33, 13, 34, 35, 36, 37, 38, 39, 40, 41, 42, 43, 44, 45, 46, 47, 48, 49, 50, 51, 52, 69, 70, 71, 72, 73, 74, 75, 86, 87, 88, 89] (by decide +kernel) (by decide +kernel)
set_option maxRecDepth 20000 in
theorem gX1_layOutBelow_X10_addMoved : GoodIn wsX1_layOutBelow (wsV RX1 97 RX10 yX10_addMoved wsX10_addMoved) := goodIn_app (goodIn_of _ (by decide +kernel)) ggX1_layOutBelow_X10_addMoved
set_option maxRecDepth 20000 in
theorem ggX1_layOutBelow_X4_join : GoodIn wsX1_layOutBelow wsX4_join := goodIn_r _ [56, 40, 41, 42, 47, 57, 36, 37, 38, 39, 58, 44, 45, 46, 86, 87, 88, 89] (by decide +kernel) (by decide +kernel)
set_option maxRecDepth 20000 in
theorem gX1_layOutBelow_X4_join : GoodIn wsX1_layOutBelow (wsV RX1 113 RX4 yX4_join wsX4_join) := goodIn_app (goodIn_of _ (by decide +kernel)) ggX1_layOutBelow_X4_join
set_option maxRecDepth 20000 in
theorem ggX1_layOutBelow_X1_layOutBelow : GoodIn wsX1_layOutBelow wsX1_layOutBelow := goodIn_r _ [0, 1, 2, 3, 4, 5, 6, 7, 8, 9, 10, 11, 12, 13, 14, 15, 16, 17, 18, 19, 20, 21, 22, 23, 24, 25, 26, 27, 28, 29, 30, 31, 32, 33, 34, 35, 36, 37, 38, 39, 40, 41, 42, 43, 44, 45, 46, 47, 48, 49, 50, 51, 52, 53, 54, 55, 56, 57, 58, 59, 60, 61, 62, 63, 64, 65, 66, 67, 68, 69, 70, 71, 72, 73, 74, 75, 76, 77, 78, 79, 80, 81, 82, 83, 84, 85, 86, 87, 88, 89] (by decide +kernel) (by decide +kernel)
set_option maxRecDepth 20000 in
theorem gX1_layOutBelow_X1_layOutBelow : GoodIn wsX1_layOutBelow (wsV RX1 93 RX1 yX1_layOutBelow wsX1_layOutBelow) := goodIn_app (goodIn_of _ (by decide +kernel)) ggX1_layOutBelow_X1_layOutBelow
theorem dX1_layOutBelow_0 : decode cX1_layOutBelow 0 = .ok (.aload_n 0, 1) := by decide +kernel
theorem dX1_layOutBelow_1 : decode cX1_layOutBelow 1 = .ok (.getfield 17, 3) := by decide +kernel
theorem dX1_layOutBelow_4 : decode cX1_layOutBelow 4 = .ok (.iload_n 2, 1) := by decide +kernel
theorem dX1_layOutBelow_5 : decode cX1_layOutBelow 5 = .ok (.iaload, 1) := by decide +kernel
theorem dX1_layOutBelow_6 : decode cX1_layOutBelow 6 = .ok (.istore 5, 2) := by decide +kernel
theorem dX1_layOutBelow_8 : decode cX1_layOutBelow 8 = .ok (.iload 5, 2) := by decide +kernel
theorem dX1_layOutBelow_10 : decode cX1_layOutBelow 10 = .ok (.aload_n 0, 1) := by decide +kernel
theorem dX1_layOutBelow_11 : decode cX1_layOutBelow 11 = .ok (.getfield 17, 3) := by decide +kernel
theorem dX1_layOutBelow_14 : decode cX1_layOutBelow 14 = .ok (.iload_n 2, 1) := by decide +kernel
theorem dX1_layOutBelow_15 : decode cX1_layOutBelow 15 = .ok (.iconst 1, 1) := by decide +kernel
theorem dX1_layOutBelow_16 : decode cX1_layOutBelow 16 = .ok (.iadd, 1) := by decide +kernel
theorem dX1_layOutBelow_17 : decode cX1_layOutBelow 17 = .ok (.iaload, 1) := by decide +kernel
theorem dX1_layOutBelow_18 : decode cX1_layOutBelow 18 = .ok (.if_icmp .ge 31, 3) := by decide +kernel
theorem dX1_layOutBelow_21 : decode cX1_layOutBelow 21 = .ok (.aload 4, 2) := by decide +kernel
theorem dX1_layOutBelow_23 : decode cX1_layOutBelow 23 = .ok (.getfield 83, 3) := by decide +kernel
theorem dX1_layOutBelow_26 : decode cX1_layOutBelow 26 = .ok (.ifCond .ne 23, 3) := by decide +kernel
theorem dX1_layOutBelow_29 : decode cX1_layOutBelow 29 = .ok (.aload 4, 2) := by decide +kernel
theorem dX1_layOutBelow_31 : decode cX1_layOutBelow 31 = .ok (.aload_n 1, 1) := by decide +kernel
theorem dX1_layOutBelow_32 : decode cX1_layOutBelow 32 = .ok (.iload 5, 2) := by decide +kernel
theorem dX1_layOutBelow_34 : decode cX1_layOutBelow 34 = .ok (.aload_n 0, 1) := by decide +kernel
theorem dX1_layOutBelow_35 : decode cX1_layOutBelow 35 = .ok (.getfield 11, 3) := by decide +kernel
theorem dX1_layOutBelow_38 : decode cX1_layOutBelow 38 = .ok (.iload_n 3, 1) := by decide +kernel
theorem dX1_layOutBelow_39 : decode cX1_layOutBelow 39 = .ok (.aaload, 1) := by decide +kernel
theorem dX1_layOutBelow_40 : decode cX1_layOutBelow 40 = .ok (.invokevirtual 97, 3) := by decide +kernel
theorem dX1_layOutBelow_43 : decode cX1_layOutBelow 43 = .ok (.iinc 5 1, 3) := by decide +kernel
theorem dX1_layOutBelow_46 : decode cX1_layOutBelow 46 = .ok (.goto (-38), 3) := by decide +kernel
theorem dX1_layOutBelow_49 : decode cX1_layOutBelow 49 = .ok (.iload_n 3, 1) := by decide +kernel
theorem dX1_layOutBelow_50 : decode cX1_layOutBelow 50 = .ok (.iconst 1, 1) := by decide +kernel
theorem dX1_layOutBelow_51 : decode cX1_layOutBelow 51 = .ok (.iadd, 1) := by decide +kernel
theorem dX1_layOutBelow_52 : decode cX1_layOutBelow 52 = .ok (.aload_n 0, 1) := by decide +kernel
theorem dX1_layOutBelow_53 : decode cX1_layOutBelow 53 = .ok (.getfield 11, 3) := by decide +kernel
theorem dX1_layOutBelow_56 : decode cX1_layOutBelow 56 = .ok (.arraylength, 1) := by decide +kernel
theorem dX1_layOutBelow_57 : decode cX1_layOutBelow 57 = .ok (.if_icmp .lt 4, 3) := by decide +kernel
theorem dX1_layOutBelow_60 : decode cX1_layOutBelow 60 = .ok (.return_, 1) := by decide +kernel
theorem dX1_layOutBelow_61 : decode cX1_layOutBelow 61 = .ok (.iconst 0, 1) := by decide +kernel
theorem dX1_layOutBelow_62 : decode cX1_layOutBelow 62 = .ok (.istore 5, 2) := by decide +kernel
theorem dX1_layOutBelow_64 : decode cX1_layOutBelow 64 = .ok (.iload 5, 2) := by decide +kernel
theorem dX1_layOutBelow_66 : decode cX1_layOutBelow 66 = .ok (.aload_n 0, 1) := by decide +kernel
theorem dX1_layOutBelow_67 : decode cX1_layOutBelow 67 = .ok (.getfield 21, 3) := by decide +kernel
theorem dX1_layOutBelow_70 : decode cX1_layOutBelow 70 = .ok (.getfield 101, 3) := by decide +kernel
theorem dX1_layOutBelow_73 : decode cX1_layOutBelow 73 = .ok (.if_icmp .ge 95, 3) := by decide +kernel
theorem dX1_layOutBelow_76 : decode cX1_layOutBelow 76 = .ok (.aload 4, 2) := by decide +kernel
theorem dX1_layOutBelow_78 : decode cX1_layOutBelow 78 = .ok (.getfield 83, 3) := by decide +kernel
theorem dX1_layOutBelow_81 : decode cX1_layOutBelow 81 = .ok (.ifCond .ne 87, 3) := by decide +kernel
theorem dX1_layOutBelow_84 : decode cX1_layOutBelow 84 = .ok (.aload_n 0, 1) := by decide +kernel
theorem dX1_layOutBelow_85 : decode cX1_layOutBelow 85 = .ok (.getfield 21, 3) := by decide +kernel
theorem dX1_layOutBelow_88 : decode cX1_layOutBelow 88 = .ok (.getfield 104, 3) := by decide +kernel
theorem dX1_layOutBelow_91 : decode cX1_layOutBelow 91 = .ok (.iload 5, 2) := by decide +kernel
theorem dX1_layOutBelow_93 : decode cX1_layOutBelow 93 = .ok (.iaload, 1) := by decide +kernel
theorem dX1_layOutBelow_94 : decode cX1_layOutBelow 94 = .ok (.istore 6, 2) := by decide +kernel
theorem dX1_layOutBelow_96 : decode cX1_layOutBelow 96 = .ok (.aload_n 0, 1) := by decide +kernel
theorem dX1_layOutBelow_97 : decode cX1_layOutBelow 97 = .ok (.getfield 21, 3) := by decide +kernel
theorem dX1_layOutBelow_100 : decode cX1_layOutBelow 100 = .ok (.getfield 107, 3) := by decide +kernel
theorem dX1_layOutBelow_103 : decode cX1_layOutBelow 103 = .ok (.iload 5, 2) := by decide +kernel
theorem dX1_layOutBelow_105 : decode cX1_layOutBelow 105 = .ok (.iaload, 1) := by decide +kernel
theorem dX1_layOutBelow_106 : decode cX1_layOutBelow 106 = .ok (.iload_n 2, 1) := by decide +kernel
theorem dX1_layOutBelow_107 : decode cX1_layOutBelow 107 = .ok (.if_icmp .ne 55, 3) := by decide +kernel
theorem dX1_layOutBelow_110 : decode cX1_layOutBelow 110 = .ok (.aload_n 0, 1) := by decide +kernel
theorem dX1_layOutBelow_111 : decode cX1_layOutBelow 111 = .ok (.getfield 21, 3) := by decide +kernel
theorem dX1_layOutBelow_114 : decode cX1_layOutBelow 114 = .ok (.getfield 77, 3) := by decide +kernel
theorem dX1_layOutBelow_117 : decode cX1_layOutBelow 117 = .ok (.iload 6, 2) := by decide +kernel
theorem dX1_layOutBelow_119 : decode cX1_layOutBelow 119 = .ok (.iaload, 1) := by decide +kernel
theorem dX1_layOutBelow_120 : decode cX1_layOutBelow 120 = .ok (.ifCond .le 42, 3) := by decide +kernel
theorem dX1_layOutBelow_123 : decode cX1_layOutBelow 123 = .ok (.aload_n 0, 1) := by decide +kernel
theorem dX1_layOutBelow_124 : decode cX1_layOutBelow 124 = .ok (.getfield 11, 3) := by decide +kernel
theorem dX1_layOutBelow_127 : decode cX1_layOutBelow 127 = .ok (.iload_n 3, 1) := by decide +kernel
theorem dX1_layOutBelow_128 : decode cX1_layOutBelow 128 = .ok (.iconst 1, 1) := by decide +kernel
theorem dX1_layOutBelow_129 : decode cX1_layOutBelow 129 = .ok (.iadd, 1) := by decide +kernel
theorem dX1_layOutBelow_130 : decode cX1_layOutBelow 130 = .ok (.aaload, 1) := by decide +kernel
theorem dX1_layOutBelow_131 : decode cX1_layOutBelow 131 = .ok (.aload_n 0, 1) := by decide +kernel
theorem dX1_layOutBelow_132 : decode cX1_layOutBelow 132 = .ok (.getfield 11, 3) := by decide +kernel
theorem dX1_layOutBelow_135 : decode cX1_layOutBelow 135 = .ok (.iload_n 3, 1) := by decide +kernel
theorem dX1_layOutBelow_136 : decode cX1_layOutBelow 136 = .ok (.aaload, 1) := by decide +kernel
theorem dX1_layOutBelow_137 : decode cX1_layOutBelow 137 = .ok (.aload_n 0, 1) := by decide +kernel
theorem dX1_layOutBelow_138 : decode cX1_layOutBelow 138 = .ok (.getfield 21, 3) := by decide +kernel
theorem dX1_layOutBelow_141 : decode cX1_layOutBelow 141 = .ok (.getfield 110, 3) := by decide +kernel
theorem dX1_layOutBelow_144 : decode cX1_layOutBelow 144 = .ok (.iload 5, 2) := by decide +kernel
theorem dX1_layOutBelow_146 : decode cX1_layOutBelow 146 = .ok (.aaload, 1) := by decide +kernel
theorem dX1_layOutBelow_147 : decode cX1_layOutBelow 147 = .ok (.invokevirtual 113, 3) := by decide +kernel
theorem dX1_layOutBelow_150 : decode cX1_layOutBelow 150 = .ok (.aload_n 0, 1) := by decide +kernel
theorem dX1_layOutBelow_151 : decode cX1_layOutBelow 151 = .ok (.aload_n 1, 1) := by decide +kernel
theorem dX1_layOutBelow_152 : decode cX1_layOutBelow 152 = .ok (.iload 6, 2) := by decide +kernel
theorem dX1_layOutBelow_154 : decode cX1_layOutBelow 154 = .ok (.iload_n 3, 1) := by decide +kernel
theorem dX1_layOutBelow_155 : decode cX1_layOutBelow 155 = .ok (.iconst 1, 1) := by decide +kernel
theorem dX1_layOutBelow_156 : decode cX1_layOutBelow 156 = .ok (.iadd, 1) := by decide +kernel
theorem dX1_layOutBelow_157 : decode cX1_layOutBelow 157 = .ok (.aload 4, 2) := by decide +kernel
theorem dX1_layOutBelow_159 : decode cX1_layOutBelow 159 = .ok (.invokevirtual 93, 3) := by decide +kernel
theorem dX1_layOutBelow_162 : decode cX1_layOutBelow 162 = .ok (.iinc 5 1, 3) := by decide +kernel
theorem dX1_layOutBelow_165 : decode cX1_layOutBelow 165 = .ok (.goto (-101), 3) := by decide +kernel
theorem dX1_layOutBelow_168 : decode cX1_layOutBelow 168 = .ok (.return_, 1) := by decide +kernel

abbrev mLb (f : Nat) : sv_M := (cX1_layOutBelow, 7, yX1_layOutBelow, wsX1_layOutBelow, none, { frames := f + 5, cells := 0, slots := 0, locals := 26 * f + 200 }, [])
/-- where the rows of cell c begin -/
def bgL (Lc : Nat → List (List Int64)) (c : Nat) : Nat := ((List.range c).flatMap Lc).length
theorem bgL_s (Lc : Nat → List (List Int64)) (c : Nat) : bgL Lc (c + 1) = bgL Lc c + (Lc c).length := by
  unfold bgL
  rw [rg_s, List.length_append]
theorem bgL_get {Lc : Nat → List (List Int64)} {n c x : Nat} (hc : c < n) (hx : x < (Lc c).length) : bgL Lc c + x < ((List.range n).flatMap Lc).length ∧ ((List.range n).flatMap Lc).getD (bgL Lc c + x) [] = (Lc c).getD x [] := by
  obtain ⟨R, e⟩ := rg_cut Lc (show c + 1 ≤ n by omega)
  rw [e, rg_s, List.length_append, List.length_append]
  refine ⟨by unfold bgL; omega, ?_⟩
  rw [List.getD_eq_getElem?_getD, List.getD_eq_getElem?_getD, List.getElem?_append_left (by rw [List.length_append]; unfold bgL; omega), List.getElem?_append_right (by unfold bgL; omega)]
  congr 2
  unfold bgL
  omega
theorem bgL_le {Lc : Nat → List (List Int64)} {c n : Nat} (h : c ≤ n) : bgL Lc c ≤ ((List.range n).flatMap Lc).length := by
  obtain ⟨R, e⟩ := rg_cut Lc h
  rw [e, List.length_append]
  unfold bgL
  omega
/-- lists by cells, laid out below a cell -/
def lS (pl : Nat) (p3 p4 : Nat → Nat) (mp : Nat → mvT) (Lc : Nat → List (List Int64)) : Nat → Nat → List Nat → List (List Int64)
  | 0, _, _ => []
  | f + 1, c, w => (Lc c).map (mvR (mvW mp w)) ++ (List.range pl).flatMap (fun i => if p3 i = c then lS pl p3 p4 mp Lc f (p4 i) (w ++ [i]) else [])
theorem lS_s (pl : Nat) (p3 p4 : Nat → Nat) (mp : Nat → mvT) (Lc : Nat → List (List Int64)) (f c : Nat) (w : List Nat) : lS pl p3 p4 mp Lc (f + 1) c w = (Lc c).map (mvR (mvW mp w)) ++ (List.range pl).flatMap (fun i => if p3 i = c then lS pl p3 p4 mp Lc f (p4 i) (w ++ [i]) else []) := rfl
/-- the checker's path along w -/
def lp_ (b : Nat) (mp : Nat → mvT) (h0 h : sv_h) (t2 : Nat) (w : List Nat) : Prop :=
  (∀ i, i < 16 → ∃ x0 x1 x2 x3 : Int32, h (b + 164 + i) = some (.inr (2, [.int x0, .int x1, .int x2, .int x3]))) ∧ (∀ i, i ≤ w.length → h (b + 164 + i) = mvC (mvW mp (w.take i))) ∧ ∀ a, ¬ (b + 164 ≤ a ∧ a < b + 180) → ¬ (t2 ≤ a ∧ a < t2 + 4) → h a = h0 a
theorem lp_.cut {b : Nat} {mp : Nat → mvT} {h0 h : sv_h} {t2 : Nat} {w : List Nat} {i : Nat} (H : lp_ b mp h0 h t2 (w ++ [i])) : lp_ b mp h0 h t2 w := by
  refine ⟨H.1, fun j hj => ?_, H.2.2⟩
  have := H.2.1 j (by rw [List.length_append]; omega)
  rwa [List.take_append_of_le_length hj] at this
theorem lp_.ext {b : Nat} {mp : Nat → mvT} {h0 h h1 : sv_h} {t2 : Nat} {w : List Nat} {i : Nat} (H : lp_ b mp h0 h t2 w) (hw : w.length + 1 < 16) (k1 : h1 (b + 164 + (w.length + 1)) = mvC (mvJ (mvW mp w) (mp i))) (k2 : ∀ a, a ≠ b + 164 + (w.length + 1) → h1 a = h a) : lp_ b mp h0 h1 t2 (w ++ [i]) := by
  refine ⟨fun j hj => ?_, fun j hj => ?_, fun a p1 p2 => (k2 _ (by omega)).trans (H.2.2 a p1 p2)⟩
  · by_cases e : j = w.length + 1
    · rw [e]; exact ⟨_, _, _, _, k1⟩
    · obtain ⟨x0, x1, x2, x3, hx⟩ := H.1 j hj
      exact ⟨x0, x1, x2, x3, (k2 _ (by omega)).trans hx⟩
  · rw [List.length_append] at hj
    have hj2 : j ≤ w.length + 1 := hj
    by_cases e : j = w.length + 1
    · rw [e, List.take_of_length_le (by rw [List.length_append]; exact Nat.le_refl _), mvW_s]
      exact k1
    · rw [List.take_append_of_le_length (by omega)]
      exact (k2 _ (by omega)).trans (H.2.1 j (by omega))
theorem lp_.told {b : Nat} {mp : Nat → mvT} {h0 h h1 : sv_h} {t2 : Nat} {w : List Nat} (H : lp_ b mp h0 h t2 w) (ht : b + 204 ≤ t2) (hw : w.length < 16) (k2 : ∀ a, ¬ (t2 ≤ a ∧ a < t2 + 4) → h1 a = h a) : lp_ b mp h0 h1 t2 w := by
  refine ⟨fun j hj => ?_, fun j hj => (k2 _ (by omega)).trans (H.2.1 j hj), fun a p1 p2 => (k2 _ p2).trans (H.2.2 a p1 p2)⟩
  obtain ⟨x0, x1, x2, x3, hx⟩ := H.1 j hj
  exact ⟨x0, x1, x2, x3, (k2 _ (by omega)).trans hx⟩
set_option maxHeartbeats 4000000 in
set_option maxRecDepth 100000 in
theorem l_lbO (G : sv_G) (Qr : Option Value → sv_h → Nat → Prop) (h0 : sv_h) (z b : Nat) (k : Int32) (nc np pl : Nat) (R : Nat → Bool) (hm p3 p4 pa ma sz : Nat → Nat) (ly vo ar : Nat → Int32) (mp : Nat → mvT) (N : Nat → Nat) (Z9 : sx_ G h0 b k nc np pl R hm p3 p4 pa ma sz ly vo ar mp N) (c4 c5 : Value) (hchk : h0 (b + 32) = some (.inr (0, [.ref (b + 1), .ref (b + 35), .ref (b + 33), .ref (b + 34), c4, c5]))) (fp : Nat → Option Nat) (h33 : ab_Q G h0 (b + 33) 3 16 fp) (hfp : ∀ i, i < 16 → fp i = some (b + 164 + i)) (Lc : Nat → List (List Int64)) (fb : Nat → Int32) (h34 : ab_I G h0 (b + 34) 17 fb) (hfb : ∀ c, c ≤ 16 → fb c = nI (bgL Lc c)) (t1 t2 : Nat) (hd : t1 + 4 ≤ t2 ∨ t2 + 4 ≤ t1) (hta : b + 204 ≤ t1 ∧ t1 + 4 ≤ b + 220) (htb : b + 204 ≤ t2 ∧ t2 + 4 ≤ b + 220) (H1 : tO G h0 t1 ((List.range 16).flatMap Lc)) (hok : ∀ c, c < 16 → ∀ x, x < (Lc c).length → rok ((Lc c).getD x [])) (hMB : ∀ i, i < pl → mvB mp i) (top9 : Nat) (hL0 : ∀ i, i < pl → gr_R pl p3 p4 top9 (p3 i) → N (p4 i) = 0 → ∀ f w, lS pl p3 p4 mp Lc f (p4 i) w = []) (f : Nat) (w : List Nat) (hw : w.length < 16) (hwp : ∀ i, i ∈ w → i < pl) (c : Nat) (hc : c < nc) (E : List (List Int64)) (hk : ∀ (h : sv_h) (hm9 : Int32), lp_ b mp h0 h t2 w → tE G h t2 hm9 (E ++ (Lc c).map (mvR (mvW mp w))) → V G (mLb f) (sv_MQ G (mLb f) Qr) 49 [(4, .ref t2), (3, .int (nI w.length)), (2, .int (nI c)), (1, .ref t1), (0, .ref (b + 32))] [] h z 0 0) : ∀ (e x : Nat) (h : sv_h) (hm9 : Int32), x + e = (Lc c).length → lp_ b mp h0 h t2 w → tE G h t2 hm9 (E ++ ((Lc c).take x).map (mvR (mvW mp w))) → V G (mLb f) (sv_MQ G (mLb f) Qr) 8 [(5, .int (nI (bgL Lc c + x))), (4, .ref t2), (3, .int (nI w.length)), (2, .int (nI c)), (1, .ref t1), (0, .ref (b + 32))] [] h z 0 0 := by
  intro e
  induction e with
  | zero =>
    intro x h hm9 hxe P H
    obtain ⟨g1, _, ⟨f3, g3, g3a⟩, ⟨f4, g4, g4a⟩, ⟨f5, g5, g5a⟩, ⟨f6, g6, g6a⟩, gp, gm, gn, gnp, gpl⟩ := id Z9
    obtain ⟨pA, pB, pF⟩ := id P
    have r1 := (pF (b + 1) (by omega) (by omega)).trans g1
    have r3 : ab_I G h (b + 3) 32 f3 := (pF (b + 3) (by omega) (by omega)).trans g3
    have r4 : ab_I G h (b + 4) 32 f4 := (pF (b + 4) (by omega) (by omega)).trans g4
    have r5 : ab_Q G h (b + 5) 3 32 f5 := (pF (b + 5) (by omega) (by omega)).trans g5
    have r6 : ab_I G h (b + 6) 16 f6 := (pF (b + 6) (by omega) (by omega)).trans g6
    have rC := (pF (b + 32) (by omega) (by omega)).trans hchk
    have r33 : ab_Q G h (b + 33) 3 16 fp := (pF (b + 33) (by omega) (by omega)).trans h33
    have r34 : ab_I G h (b + 34) 17 fb := (pF (b + 34) (by omega) (by omega)).trans h34
    have rT : tO G h t1 ((List.range 16).flatMap Lc) := H1.kept (fun a p1 p2 => pF a (by omega) (by omega))
    obtain ⟨x9, us9, sz9, ov9, ht9, ho9⟩ := H.ov
    have hlen : bgL Lc 16 ≤ 1500 := by obtain ⟨_, _, _, _, _, _, _, _, d1, _⟩ := H1; exact d1
    have hbs := bgL_s Lc c
    have hb1 := bgL_le (Lc := Lc) (show c + 1 ≤ 16 by omega)
    have hb16 : ((List.range 16).flatMap Lc).length = bgL Lc 16 := rfl
    refine v_iload dX1_layOutBelow_8 0 rfl ?_
    refine v_aload_n dX1_layOutBelow_10 rfl 5 rfl ?_
    refine v_getf 3 (ci := 0) (C := RX1) (T := TX1) (N := 6) rfl iwX1_layOutBelow_X1 (Nat.le_of_ble_eq_true rfl) (by first | decide +kernel | (change Cond.fieldLink RX1 _ _ _ _ ∈ wsX1_layOutBelow; decide +kernel)) dX1_layOutBelow_11 (by first | with_reducible assumption) rfl ?_
    refine v_iload_n dX1_layOutBelow_14 rfl 3 rfl ?_
    refine v_iconst (v := 1) dX1_layOutBelow_15 (by decide) ?_
    refine v_iadd dX1_layOutBelow_16 ?_
    rw [nI_1]
    refine v_ialdS (v := nI (bgL Lc (c + 1))) dX1_layOutBelow_17 (by first | with_reducible assumption) (vp_in_nI (by omega) (by omega)) (by rw [nI_clamp (by omega)]; exact hfb (c + 1) (by omega)) ?_
    refine v_icmp_ge (tgt := 49) dX1_layOutBelow_18 (by decide) (fun c_18 => ?_) (fun c_18 => ?_)
    · refine v_sub (L' := [(4, _), (3, _), (2, _), (1, _), (0, _)]) [1, 2, 3, 4, 5] rfl ?_
      have e9 : x = (Lc c).length := by omega
      rw [e9, List.take_length] at H
      exact hk h hm9 P H
    · exact absurd (nI_le (show bgL Lc (c + 1) ≤ bgL Lc c + x by omega) (by omega)) c_18
  | succ e ih =>
    intro x h hm9 hxe P H
    obtain ⟨g1, _, ⟨f3, g3, g3a⟩, ⟨f4, g4, g4a⟩, ⟨f5, g5, g5a⟩, ⟨f6, g6, g6a⟩, gp, gm, gn, gnp, gpl⟩ := id Z9
    obtain ⟨pA, pB, pF⟩ := id P
    have r1 := (pF (b + 1) (by omega) (by omega)).trans g1
    have r3 : ab_I G h (b + 3) 32 f3 := (pF (b + 3) (by omega) (by omega)).trans g3
    have r4 : ab_I G h (b + 4) 32 f4 := (pF (b + 4) (by omega) (by omega)).trans g4
    have r5 : ab_Q G h (b + 5) 3 32 f5 := (pF (b + 5) (by omega) (by omega)).trans g5
    have r6 : ab_I G h (b + 6) 16 f6 := (pF (b + 6) (by omega) (by omega)).trans g6
    have rC := (pF (b + 32) (by omega) (by omega)).trans hchk
    have r33 : ab_Q G h (b + 33) 3 16 fp := (pF (b + 33) (by omega) (by omega)).trans h33
    have r34 : ab_I G h (b + 34) 17 fb := (pF (b + 34) (by omega) (by omega)).trans h34
    have rT : tO G h t1 ((List.range 16).flatMap Lc) := H1.kept (fun a p1 p2 => pF a (by omega) (by omega))
    obtain ⟨x9, us9, sz9, ov9, ht9, ho9⟩ := H.ov
    have hlen : bgL Lc 16 ≤ 1500 := by obtain ⟨_, _, _, _, _, _, _, _, d1, _⟩ := H1; exact d1
    have hbs := bgL_s Lc c
    have hb1 := bgL_le (Lc := Lc) (show c + 1 ≤ 16 by omega)
    have hb16 : ((List.range 16).flatMap Lc).length = bgL Lc 16 := rfl
    obtain ⟨hg1, hg2⟩ := bgL_get (n := 16) (c := c) (x := x) (Lc := Lc) (by omega) (by omega)
    have hb9 := mvW_b w.length w rfl (fun i hi => hMB i (hwp i hi))
    have hp9 : h (b + 164 + w.length) = mvC (mvW mp w) := by
      have := pB w.length (Nat.le_refl _)
      rwa [List.take_length] at this
    refine v_iload dX1_layOutBelow_8 0 rfl ?_
    refine v_aload_n dX1_layOutBelow_10 rfl 5 rfl ?_
    refine v_getf 3 (ci := 0) (C := RX1) (T := TX1) (N := 6) rfl iwX1_layOutBelow_X1 (Nat.le_of_ble_eq_true rfl) (by first | decide +kernel | (change Cond.fieldLink RX1 _ _ _ _ ∈ wsX1_layOutBelow; decide +kernel)) dX1_layOutBelow_11 (by first | with_reducible assumption) rfl ?_
    refine v_iload_n dX1_layOutBelow_14 rfl 3 rfl ?_
    refine v_iconst (v := 1) dX1_layOutBelow_15 (by decide) ?_
    refine v_iadd dX1_layOutBelow_16 ?_
    rw [nI_1]
    refine v_ialdS (v := nI (bgL Lc (c + 1))) dX1_layOutBelow_17 (by first | with_reducible assumption) (vp_in_nI (by omega) (by omega)) (by rw [nI_clamp (by omega)]; exact hfb (c + 1) (by omega)) ?_
    refine v_icmp_ge (tgt := 49) dX1_layOutBelow_18 (by decide) (fun c_18 => ?_) (fun c_18 => ?_)
    · exact absurd c_18 (nI_ge (show bgL Lc c + x < bgL Lc (c + 1) by omega) (by omega))
    · refine v_aload dX1_layOutBelow_21 1 rfl ?_
      refine v_getf 5 (ci := 8) (C := RX10) (T := TX10) (N := 7) rfl iwX1_layOutBelow_X10 (Nat.le_of_ble_eq_true rfl) (by first | decide +kernel | (change Cond.fieldLink RX1 _ _ _ _ ∈ wsX1_layOutBelow; decide +kernel)) dX1_layOutBelow_23 (by first | with_reducible assumption) rfl ?_
      refine v_if_ne (tgt := 49) dX1_layOutBelow_26 (by decide) (fun c_26 => ?_) (fun c_26 => ?_)
      · refine v_sub (L' := [(4, _), (3, _), (2, _), (1, _), (0, _)]) [1, 2, 3, 4, 5] rfl ?_
        rcases ho9 with ⟨e9, _⟩ | ⟨_, _, e9⟩
        · exact absurd e9 c_26
        · refine hk h hm9 P ?_
          have e8 := e9 (((Lc c).drop x).map (mvR (mvW mp w)))
          rw [List.append_assoc, ← List.map_append, List.take_append_drop] at e8
          exact e8
      · refine v_aload dX1_layOutBelow_29 1 rfl ?_
        refine v_aload_n dX1_layOutBelow_31 rfl 4 rfl ?_
        refine v_iload dX1_layOutBelow_32 0 rfl ?_
        refine v_aload_n dX1_layOutBelow_34 rfl 5 rfl ?_
        refine v_getf 2 (ci := 0) (C := RX1) (T := TX1) (N := 6) rfl iwX1_layOutBelow_X1 (Nat.le_of_ble_eq_true rfl) (by first | decide +kernel | (change Cond.fieldLink RX1 _ _ _ _ ∈ wsX1_layOutBelow; decide +kernel)) dX1_layOutBelow_35 (by first | with_reducible assumption) rfl ?_
        refine v_iload_n dX1_layOutBelow_38 rfl 2 rfl ?_
        refine v_aaldS (t := 3) (q := b + 164 + w.length) dX1_layOutBelow_39 (fun _ => rfl) (by first | with_reducible assumption) (vp_in_nI (by omega) (by omega)) (by rw [nI_clamp (by omega)]; exact hfp _ hw) ?_
        refine v_callVq (M' := mX10_addMoved) (n := 3) (As := [_, _, _]) (ci := 8) (r := (RX10, TX10, 7)) gX1_layOutBelow_X10_addMoved rfl (by first | decide +kernel | (change Cond.fieldLink RX1 _ _ _ _ ∈ wsX1_layOutBelow; decide +kernel)) (by refine ⟨?_, ?_⟩ <;> (dsimp only [mX10_addMoved, mLb]; omega)) rfl rfl dX1_layOutBelow_40 rfl ⟨(Nat.le_of_ble_eq_true rfl), (Nat.le_of_ble_eq_true rfl)⟩ (Nat.le_of_ble_eq_true rfl) (by first | with_reducible assumption) rfl (c_addMoved G h _ t1 t2 (bgL Lc c + x) (b + 164 + w.length) hd ((List.range 16).flatMap Lc) rT hg1 (mvW mp w) (mvW_q mp w) (by omega) (by omega) hp9 (by omega) hm9 _ H (by rw [hg2]; exact hok c (by omega) x (by omega))) (fun v h1 z1 hq9 => ?_)
        obtain ⟨rfl, rfl, ⟨hm1, H2⟩, fr1⟩ := hq9
        refine v_iinc (j := 0) (L' := [(5, _), (4, _), (3, _), (2, _), (1, _), (0, _)]) (v := nI (bgL Lc c + (x + 1))) dX1_layOutBelow_43 rfl (nI_1 _) (Nat.le_of_ble_eq_true rfl) rfl ?_
        refine v_goto (tgt := 8) dX1_layOutBelow_46 (by decide) ?_
        refine v_sub (L' := [(5, _), (4, _), (3, _), (2, _), (1, _), (0, _)]) [0, 1, 2, 3, 4, 5] rfl ?_
        refine ih (x + 1) h1 hm1 (by omega) (P.told htb.1 hw fr1) ?_
        rw [hg2] at H2
        rw [tk_s [] (show x < (Lc c).length by omega), List.map_append, ← List.append_assoc]
        exact H2

set_option maxHeartbeats 4000000 in
set_option maxRecDepth 100000 in
theorem l_lbP (G : sv_G) (Qr : Option Value → sv_h → Nat → Prop) (h0 : sv_h) (z b : Nat) (k : Int32) (nc np pl : Nat) (R : Nat → Bool) (hm p3 p4 pa ma sz : Nat → Nat) (ly vo ar : Nat → Int32) (mp : Nat → mvT) (N : Nat → Nat) (Z9 : sx_ G h0 b k nc np pl R hm p3 p4 pa ma sz ly vo ar mp N) (c4 c5 : Value) (hchk : h0 (b + 32) = some (.inr (0, [.ref (b + 1), .ref (b + 35), .ref (b + 33), .ref (b + 34), c4, c5]))) (fp : Nat → Option Nat) (h33 : ab_Q G h0 (b + 33) 3 16 fp) (hfp : ∀ i, i < 16 → fp i = some (b + 164 + i)) (Lc : Nat → List (List Int64)) (fb : Nat → Int32) (h34 : ab_I G h0 (b + 34) 17 fb) (hfb : ∀ c, c ≤ 16 → fb c = nI (bgL Lc c)) (t1 t2 : Nat) (hd : t1 + 4 ≤ t2 ∨ t2 + 4 ≤ t1) (hta : b + 204 ≤ t1 ∧ t1 + 4 ≤ b + 220) (htb : b + 204 ≤ t2 ∧ t2 + 4 ≤ b + 220) (H1 : tO G h0 t1 ((List.range 16).flatMap Lc)) (hok : ∀ c, c < 16 → ∀ x, x < (Lc c).length → rok ((Lc c).getD x [])) (hMB : ∀ i, i < pl → mvB mp i) (top9 : Nat) (hL0 : ∀ i, i < pl → gr_R pl p3 p4 top9 (p3 i) → N (p4 i) = 0 → ∀ f w, lS pl p3 p4 mp Lc f (p4 i) w = []) (f : Nat) (w : List Nat) (hwf : w.length + (f + 2) = 16) (hwp : ∀ i, i ∈ w → i < pl) (c : Nat) (hc : c < nc) (hcW : gr_R pl p3 p4 top9 c) (E : List (List Int64)) (IH : ∀ (w : List Nat) (c : Nat) (E : List (List Int64)) (h : sv_h) (hm9 : Int32), w.length + (f + 1) = 16 → (∀ i, i ∈ w → i < pl) → c < nc → gr_R pl p3 p4 top9 c → lp_ b mp h0 h t2 w → tE G h t2 hm9 E → CT G (mLb f) [.ref (b + 32), .ref t1, .int (nI c), .int (nI w.length), .ref t2] h z (fun v h1 z1 => v = none ∧ z1 = z ∧ lp_ b mp h0 h1 t2 w ∧ ∃ hm1 : Int32, tE G h1 t2 hm1 (E ++ lS pl p3 p4 mp Lc (f + 1) c w))) (hk : ∀ (h : sv_h) (hm9 : Int32), lp_ b mp h0 h t2 w → tE G h t2 hm9 (E ++ ((List.range pl).flatMap (fun i => if p3 i = c then lS pl p3 p4 mp Lc (f + 1) (p4 i) (w ++ [i]) else []))) → Qr none h z) : ∀ (e i : Nat) (h : sv_h) (hm9 : Int32), i + e = pl → lp_ b mp h0 h t2 w → tE G h t2 hm9 (E ++ ((List.range i).flatMap (fun i => if p3 i = c then lS pl p3 p4 mp Lc (f + 1) (p4 i) (w ++ [i]) else []))) → V G (mLb (f + 1)) (sv_MQ G (mLb (f + 1)) Qr) 64 [(5, .int (nI i)), (4, .ref t2), (3, .int (nI w.length)), (2, .int (nI c)), (1, .ref t1), (0, .ref (b + 32))] [] h z 0 0 := by
  intro e
  induction e with
  | zero =>
    intro i h hm9 hie P H
    obtain ⟨g1, _, ⟨f3, g3, g3a⟩, ⟨f4, g4, g4a⟩, ⟨f5, g5, g5a⟩, ⟨f6, g6, g6a⟩, gp, gm, gn, gnp, gpl⟩ := id Z9
    obtain ⟨pA, pB, pF⟩ := id P
    have r1 := (pF (b + 1) (by omega) (by omega)).trans g1
    have r3 : ab_I G h (b + 3) 32 f3 := (pF (b + 3) (by omega) (by omega)).trans g3
    have r4 : ab_I G h (b + 4) 32 f4 := (pF (b + 4) (by omega) (by omega)).trans g4
    have r5 : ab_Q G h (b + 5) 3 32 f5 := (pF (b + 5) (by omega) (by omega)).trans g5
    have r6 : ab_I G h (b + 6) 16 f6 := (pF (b + 6) (by omega) (by omega)).trans g6
    have rC := (pF (b + 32) (by omega) (by omega)).trans hchk
    have r33 : ab_Q G h (b + 33) 3 16 fp := (pF (b + 33) (by omega) (by omega)).trans h33
    have r34 : ab_I G h (b + 34) 17 fb := (pF (b + 34) (by omega) (by omega)).trans h34
    have rT : tO G h t1 ((List.range 16).flatMap Lc) := H1.kept (fun a p1 p2 => pF a (by omega) (by omega))
    obtain ⟨x9, us9, sz9, ov9, ht9, ho9⟩ := H.ov
    have hlen : bgL Lc 16 ≤ 1500 := by obtain ⟨_, _, _, _, _, _, _, _, d1, _⟩ := H1; exact d1
    refine v_iload dX1_layOutBelow_64 0 rfl ?_
    refine v_aload_n dX1_layOutBelow_66 rfl 5 rfl ?_
    refine v_getf 0 (ci := 0) (C := RX1) (T := TX1) (N := 6) rfl iwX1_layOutBelow_X1 (Nat.le_of_ble_eq_true rfl) (by first | decide +kernel | (change Cond.fieldLink RX1 _ _ _ _ ∈ wsX1_layOutBelow; decide +kernel)) dX1_layOutBelow_67 (by repeat (first | with_reducible assumption | with_reducible refine (k2 _ (by omega)).trans ?_)) (by exact rfl) ?_
    refine v_getf 7 (ci := 1) (C := RX3) (T := TX3) (N := 10) rfl iwX1_layOutBelow_X3 (Nat.le_of_ble_eq_true rfl) (by first | decide +kernel | (change Cond.fieldLink RX1 _ _ _ _ ∈ wsX1_layOutBelow; decide +kernel)) dX1_layOutBelow_70 (by repeat (first | with_reducible assumption | with_reducible refine (k2 _ (by omega)).trans ?_)) (by exact rfl) ?_
    refine v_icmp_ge (tgt := 168) dX1_layOutBelow_73 (by decide) (fun c_73 => ?_) (fun c_73 => ?_)
    · exact v_ret rfl dX1_layOutBelow_168 (Nat.le_of_ble_eq_true rfl) (Nat.le_of_ble_eq_true rfl) (by
                have e9 : i = pl := by omega
                rw [e9] at H
                exact hk h hm9 P H)
    · exact absurd (nI_le (show pl ≤ i by omega) (by omega)) c_73
  | succ e ih =>
    intro i h hm9 hie P H
    obtain ⟨g1, _, ⟨f3, g3, g3a⟩, ⟨f4, g4, g4a⟩, ⟨f5, g5, g5a⟩, ⟨f6, g6, g6a⟩, gp, gm, gn, gnp, gpl⟩ := id Z9
    obtain ⟨pA, pB, pF⟩ := id P
    have r1 := (pF (b + 1) (by omega) (by omega)).trans g1
    have r3 : ab_I G h (b + 3) 32 f3 := (pF (b + 3) (by omega) (by omega)).trans g3
    have r4 : ab_I G h (b + 4) 32 f4 := (pF (b + 4) (by omega) (by omega)).trans g4
    have r5 : ab_Q G h (b + 5) 3 32 f5 := (pF (b + 5) (by omega) (by omega)).trans g5
    have r6 : ab_I G h (b + 6) 16 f6 := (pF (b + 6) (by omega) (by omega)).trans g6
    have rC := (pF (b + 32) (by omega) (by omega)).trans hchk
    have r33 : ab_Q G h (b + 33) 3 16 fp := (pF (b + 33) (by omega) (by omega)).trans h33
    have r34 : ab_I G h (b + 34) 17 fb := (pF (b + 34) (by omega) (by omega)).trans h34
    have rT : tO G h t1 ((List.range 16).flatMap Lc) := H1.kept (fun a p1 p2 => pF a (by omega) (by omega))
    obtain ⟨x9, us9, sz9, ov9, ht9, ho9⟩ := H.ov
    have hlen : bgL Lc 16 ≤ 1500 := by obtain ⟨_, _, _, _, _, _, _, _, d1, _⟩ := H1; exact d1
    obtain ⟨rm0, rm1, rm2, rm3, rm4⟩ := gm i (by omega)
    have rm := (pF (ma i) (by omega) (by omega)).trans rm0
    obtain ⟨y0, y1, y2, y3, hy⟩ := pA (w.length + 1) (by omega)
    have hp9 : h (b + 164 + w.length) = mvC (mvW mp w) := by
      have := pB w.length (Nat.le_refl _)
      rwa [List.take_length] at this
    refine v_iload dX1_layOutBelow_64 0 rfl ?_
    refine v_aload_n dX1_layOutBelow_66 rfl 5 rfl ?_
    refine v_getf 0 (ci := 0) (C := RX1) (T := TX1) (N := 6) rfl iwX1_layOutBelow_X1 (Nat.le_of_ble_eq_true rfl) (by first | decide +kernel | (change Cond.fieldLink RX1 _ _ _ _ ∈ wsX1_layOutBelow; decide +kernel)) dX1_layOutBelow_67 (by repeat (first | with_reducible assumption | with_reducible refine (k2 _ (by omega)).trans ?_)) (by exact rfl) ?_
    refine v_getf 7 (ci := 1) (C := RX3) (T := TX3) (N := 10) rfl iwX1_layOutBelow_X3 (Nat.le_of_ble_eq_true rfl) (by first | decide +kernel | (change Cond.fieldLink RX1 _ _ _ _ ∈ wsX1_layOutBelow; decide +kernel)) dX1_layOutBelow_70 (by repeat (first | with_reducible assumption | with_reducible refine (k2 _ (by omega)).trans ?_)) (by exact rfl) ?_
    refine v_icmp_ge (tgt := 168) dX1_layOutBelow_73 (by decide) (fun c_73 => ?_) (fun c_73 => ?_)
    · exact absurd c_73 (nI_ge (show i < pl by omega) (by omega))
    · refine v_aload dX1_layOutBelow_76 1 rfl ?_
      refine v_getf 5 (ci := 8) (C := RX10) (T := TX10) (N := 7) rfl iwX1_layOutBelow_X10 (Nat.le_of_ble_eq_true rfl) (by first | decide +kernel | (change Cond.fieldLink RX1 _ _ _ _ ∈ wsX1_layOutBelow; decide +kernel)) dX1_layOutBelow_78 (by repeat (first | with_reducible assumption | with_reducible refine (k2 _ (by omega)).trans ?_)) (by exact rfl) ?_
      refine v_if_ne (tgt := 168) dX1_layOutBelow_81 (by decide) (fun c_81 => ?_) (fun c_81 => ?_)
      · exact v_ret rfl dX1_layOutBelow_168 (Nat.le_of_ble_eq_true rfl) (Nat.le_of_ble_eq_true rfl) (by
                  rcases ho9 with ⟨e9, _⟩ | ⟨_, _, e9⟩
                  · exact absurd e9 c_81
                  · obtain ⟨R9, r9⟩ := rg_cut (fun i => if p3 i = c then lS pl p3 p4 mp Lc (f + 1) (p4 i) (w ++ [i]) else []) (show i ≤ pl by omega)
                    refine hk h hm9 P ?_
                    rw [r9, ← List.append_assoc]
                    exact e9 R9)
      · refine v_aload_n dX1_layOutBelow_84 rfl 5 rfl ?_
        refine v_getf 0 (ci := 0) (C := RX1) (T := TX1) (N := 6) rfl iwX1_layOutBelow_X1 (Nat.le_of_ble_eq_true rfl) (by first | decide +kernel | (change Cond.fieldLink RX1 _ _ _ _ ∈ wsX1_layOutBelow; decide +kernel)) dX1_layOutBelow_85 (by repeat (first | with_reducible assumption | with_reducible refine (k2 _ (by omega)).trans ?_)) (by exact rfl) ?_
        refine v_getf 5 (ci := 1) (C := RX3) (T := TX3) (N := 10) rfl iwX1_layOutBelow_X3 (Nat.le_of_ble_eq_true rfl) (by first | decide +kernel | (change Cond.fieldLink RX1 _ _ _ _ ∈ wsX1_layOutBelow; decide +kernel)) dX1_layOutBelow_88 (by repeat (first | with_reducible assumption | with_reducible refine (k2 _ (by omega)).trans ?_)) (by exact rfl) ?_
        refine v_iload dX1_layOutBelow_91 0 rfl ?_
        refine v_ialdS (v := nI (p4 i)) dX1_layOutBelow_93 (by repeat (first | with_reducible assumption | with_reducible refine (k2 _ (by omega)).trans ?_)) (vp_in_nI (by omega) (by omega)) (by rw [nI_clamp (by omega)]; exact g4a i (by omega)) ?_
        refine v_istore (L' := [(6, _), (5, _), (4, _), (3, _), (2, _), (1, _), (0, _)]) dX1_layOutBelow_94 (Nat.le_of_ble_eq_true rfl) rfl ?_
        refine v_aload_n dX1_layOutBelow_96 rfl 6 rfl ?_
        refine v_getf 0 (ci := 0) (C := RX1) (T := TX1) (N := 6) rfl iwX1_layOutBelow_X1 (Nat.le_of_ble_eq_true rfl) (by first | decide +kernel | (change Cond.fieldLink RX1 _ _ _ _ ∈ wsX1_layOutBelow; decide +kernel)) dX1_layOutBelow_97 (by repeat (first | with_reducible assumption | with_reducible refine (k2 _ (by omega)).trans ?_)) (by exact rfl) ?_
        refine v_getf 4 (ci := 1) (C := RX3) (T := TX3) (N := 10) rfl iwX1_layOutBelow_X3 (Nat.le_of_ble_eq_true rfl) (by first | decide +kernel | (change Cond.fieldLink RX1 _ _ _ _ ∈ wsX1_layOutBelow; decide +kernel)) dX1_layOutBelow_100 (by repeat (first | with_reducible assumption | with_reducible refine (k2 _ (by omega)).trans ?_)) (by exact rfl) ?_
        refine v_iload dX1_layOutBelow_103 1 rfl ?_
        refine v_ialdS (v := nI (p3 i)) dX1_layOutBelow_105 (by repeat (first | with_reducible assumption | with_reducible refine (k2 _ (by omega)).trans ?_)) (vp_in_nI (by omega) (by omega)) (by rw [nI_clamp (by omega)]; exact g3a i (by omega)) ?_
        refine v_iload_n dX1_layOutBelow_106 rfl 4 rfl ?_
        refine v_icmp_ne (tgt := 162) dX1_layOutBelow_107 (by decide) (fun c_107 => ?_) (fun c_107 => ?_)
        · refine v_iinc (j := 1) (L' := [(5, _), (6, _), (4, _), (3, _), (2, _), (1, _), (0, _)]) (v := nI (i + 1)) dX1_layOutBelow_162 rfl (nI_1 _) (Nat.le_of_ble_eq_true rfl) rfl ?_
          refine v_goto (tgt := 64) dX1_layOutBelow_165 (by decide) ?_
          refine v_sub (L' := [(5, _), (4, _), (3, _), (2, _), (1, _), (0, _)]) [0, 2, 3, 4, 5, 6] rfl ?_
          first
            | (have c9 := H3
               refine ih (i + 1) _ hm1 (by omega) P2.cut ?_
               rw [rg_s, if_pos e3, ← List.append_assoc]
               exact c9)
            | (refine ih (i + 1) _ hm9 (by omega) P ?_
               rw [rg_s]
               have e9 : (if p3 i = c then lS pl p3 p4 mp Lc (f + 1) (p4 i) (w ++ [i]) else []) = [] := (by
                 by_cases e3 : p3 i = c
                 · rw [if_pos e3]
                   have c9 : nI (min 101 (N (p4 i))) ≤ 0 := (by first | exact c_120 | exact absurd (congrArg nI e3) c_107)
                   have z9 : N (p4 i) = 0 := (by
                     by_cases z8 : N (p4 i) = 0
                     · exact z8
                     · exact absurd c9 (nI_nle (n := min 101 (N (p4 i))) (by omega) (by omega)))
                   exact hL0 i (by omega) (by rw [e3]; exact hcW) z9 _ _
                 · rw [if_neg e3])
               rw [e9, List.append_nil]
               exact H)
        · refine v_aload_n dX1_layOutBelow_110 rfl 6 rfl ?_
          refine v_getf 0 (ci := 0) (C := RX1) (T := TX1) (N := 6) rfl iwX1_layOutBelow_X1 (Nat.le_of_ble_eq_true rfl) (by first | decide +kernel | (change Cond.fieldLink RX1 _ _ _ _ ∈ wsX1_layOutBelow; decide +kernel)) dX1_layOutBelow_111 (by repeat (first | with_reducible assumption | with_reducible refine (k2 _ (by omega)).trans ?_)) (by exact rfl) ?_
          refine v_getf 8 (ci := 1) (C := RX3) (T := TX3) (N := 10) rfl iwX1_layOutBelow_X3 (Nat.le_of_ble_eq_true rfl) (by first | decide +kernel | (change Cond.fieldLink RX1 _ _ _ _ ∈ wsX1_layOutBelow; decide +kernel)) dX1_layOutBelow_114 (by repeat (first | with_reducible assumption | with_reducible refine (k2 _ (by omega)).trans ?_)) (by exact rfl) ?_
          refine v_iload dX1_layOutBelow_117 0 rfl ?_
          refine v_ialdS (v := nI (min 101 (N (p4 i)))) dX1_layOutBelow_119 (by repeat (first | with_reducible assumption | with_reducible refine (k2 _ (by omega)).trans ?_)) (vp_in_nI (by omega) (by omega)) (by rw [nI_clamp (by omega)]; exact g6a _ rm3) ?_
          refine v_if_le (tgt := 162) dX1_layOutBelow_120 (by decide) (fun c_120 => ?_) (fun c_120 => ?_)
          · refine v_iinc (j := 1) (L' := [(5, _), (6, _), (4, _), (3, _), (2, _), (1, _), (0, _)]) (v := nI (i + 1)) dX1_layOutBelow_162 rfl (nI_1 _) (Nat.le_of_ble_eq_true rfl) rfl ?_
            refine v_goto (tgt := 64) dX1_layOutBelow_165 (by decide) ?_
            refine v_sub (L' := [(5, _), (4, _), (3, _), (2, _), (1, _), (0, _)]) [0, 2, 3, 4, 5, 6] rfl ?_
            first
              | (have c9 := H3
                 refine ih (i + 1) _ hm1 (by omega) P2.cut ?_
                 rw [rg_s, if_pos e3, ← List.append_assoc]
                 exact c9)
              | (refine ih (i + 1) _ hm9 (by omega) P ?_
                 rw [rg_s]
                 have e9 : (if p3 i = c then lS pl p3 p4 mp Lc (f + 1) (p4 i) (w ++ [i]) else []) = [] := (by
                   by_cases e3 : p3 i = c
                   · rw [if_pos e3]
                     have c9 : nI (min 101 (N (p4 i))) ≤ 0 := (by first | exact c_120 | exact absurd (congrArg nI e3) c_107)
                     have z9 : N (p4 i) = 0 := (by
                       by_cases z8 : N (p4 i) = 0
                       · exact z8
                       · exact absurd c9 (nI_nle (n := min 101 (N (p4 i))) (by omega) (by omega)))
                     exact hL0 i (by omega) (by rw [e3]; exact hcW) z9 _ _
                   · rw [if_neg e3])
                 rw [e9, List.append_nil]
                 exact H)
          · refine v_aload_n dX1_layOutBelow_123 rfl 6 rfl ?_
            refine v_getf 2 (ci := 0) (C := RX1) (T := TX1) (N := 6) rfl iwX1_layOutBelow_X1 (Nat.le_of_ble_eq_true rfl) (by first | decide +kernel | (change Cond.fieldLink RX1 _ _ _ _ ∈ wsX1_layOutBelow; decide +kernel)) dX1_layOutBelow_124 (by repeat (first | with_reducible assumption | with_reducible refine (k2 _ (by omega)).trans ?_)) (by exact rfl) ?_
            refine v_iload_n dX1_layOutBelow_127 rfl 3 rfl ?_
            refine v_iconst (v := 1) dX1_layOutBelow_128 (by decide) ?_
            refine v_iadd dX1_layOutBelow_129 ?_
            rw [nI_1]
            refine v_aaldS (t := 3) (q := b + 164 + (w.length + 1)) dX1_layOutBelow_130 (fun _ => rfl) (by repeat (first | with_reducible assumption | with_reducible refine (k2 _ (by omega)).trans ?_)) (vp_in_nI (by omega) (by omega)) (by rw [nI_clamp (by omega)]; exact hfp _ (by omega)) ?_
            refine v_aload_n dX1_layOutBelow_131 rfl 6 rfl ?_
            refine v_getf 2 (ci := 0) (C := RX1) (T := TX1) (N := 6) rfl iwX1_layOutBelow_X1 (Nat.le_of_ble_eq_true rfl) (by first | decide +kernel | (change Cond.fieldLink RX1 _ _ _ _ ∈ wsX1_layOutBelow; decide +kernel)) dX1_layOutBelow_132 (by repeat (first | with_reducible assumption | with_reducible refine (k2 _ (by omega)).trans ?_)) (by exact rfl) ?_
            refine v_iload_n dX1_layOutBelow_135 rfl 3 rfl ?_
            refine v_aaldS (t := 3) (q := b + 164 + w.length) dX1_layOutBelow_136 (fun _ => rfl) (by repeat (first | with_reducible assumption | with_reducible refine (k2 _ (by omega)).trans ?_)) (vp_in_nI (by omega) (by omega)) (by rw [nI_clamp (by omega)]; exact hfp _ (by omega)) ?_
            refine v_aload_n dX1_layOutBelow_137 rfl 6 rfl ?_
            refine v_getf 0 (ci := 0) (C := RX1) (T := TX1) (N := 6) rfl iwX1_layOutBelow_X1 (Nat.le_of_ble_eq_true rfl) (by first | decide +kernel | (change Cond.fieldLink RX1 _ _ _ _ ∈ wsX1_layOutBelow; decide +kernel)) dX1_layOutBelow_138 (by repeat (first | with_reducible assumption | with_reducible refine (k2 _ (by omega)).trans ?_)) (by exact rfl) ?_
            refine v_getf 6 (ci := 1) (C := RX3) (T := TX3) (N := 10) rfl iwX1_layOutBelow_X3 (Nat.le_of_ble_eq_true rfl) (by first | decide +kernel | (change Cond.fieldLink RX1 _ _ _ _ ∈ wsX1_layOutBelow; decide +kernel)) dX1_layOutBelow_141 (by repeat (first | with_reducible assumption | with_reducible refine (k2 _ (by omega)).trans ?_)) (by exact rfl) ?_
            refine v_iload dX1_layOutBelow_144 1 rfl ?_
            refine v_aaldS (t := 3) (q := ma i) dX1_layOutBelow_146 (fun _ => rfl) (by repeat (first | with_reducible assumption | with_reducible refine (k2 _ (by omega)).trans ?_)) (vp_in_nI (by omega) (by omega)) (by rw [nI_clamp (by omega)]; exact g5a i (by omega)) ?_
            refine v_callVq (M' := mX4_join) (n := 2) (As := [_, _]) (ci := 2) (r := (RX4, TX4, 4)) gX1_layOutBelow_X4_join rfl (by first | decide +kernel | (change Cond.fieldLink RX1 _ _ _ _ ∈ wsX1_layOutBelow; decide +kernel)) (by refine ⟨?_, ?_⟩ <;> (dsimp only [mX4_join, mLb]; omega)) rfl rfl dX1_layOutBelow_147 rfl ⟨(Nat.le_of_ble_eq_true rfl), (Nat.le_of_ble_eq_true rfl)⟩ (Nat.le_of_ble_eq_true rfl) (by repeat (first | with_reducible assumption | with_reducible refine (k2 _ (by omega)).trans ?_)) rfl (c_join G h z (b + 164 + (w.length + 1)) (b + 164 + w.length) (ma i) (mvW mp w) (mp i) (mvW_q mp w) rm1 (by omega) (by omega) y0 y1 y2 y3 hy hp9 rm) (fun v h1 z1 hq8 => ?_)
            obtain ⟨rfl, rfl, k1, k2⟩ := hq8
            have P1 := P.ext (by omega) k1 k2
            have H2 : tE G h1 t2 hm9 (E ++ ((List.range i).flatMap (fun i => if p3 i = c then lS pl p3 p4 mp Lc (f + 1) (p4 i) (w ++ [i]) else []))) := H.kept (fun a p1 p2 => k2 a (by omega))
            refine v_aload_n dX1_layOutBelow_150 rfl 6 rfl ?_
            refine v_aload_n dX1_layOutBelow_151 rfl 5 rfl ?_
            refine v_iload dX1_layOutBelow_152 0 rfl ?_
            refine v_iload_n dX1_layOutBelow_154 rfl 3 rfl ?_
            refine v_iconst (v := 1) dX1_layOutBelow_155 (by decide) ?_
            refine v_iadd dX1_layOutBelow_156 ?_
            rw [nI_1]
            refine v_aload dX1_layOutBelow_157 2 rfl ?_
            have e3 : p3 i = c := (nI_eq (by omega) (by omega)).mp c_107
            have hlw : (w ++ [i]).length = w.length + 1 := by rw [List.length_append]; rfl
            have hct := IH (w ++ [i]) (p4 i) _ h1 hm9 (by omega) (fun j hj => by rcases List.mem_append.mp hj with hj | hj; exact hwp j hj; rw [List.mem_singleton.mp hj]; omega) rm3 (fun S9 s0 s1 => s1 i (by omega) (by rw [e3]; exact hcW S9 s0 s1)) P1 H2
            rw [hlw] at hct
            refine v_callVq (M' := mLb f) (n := 4) (As := [_, _, _, _]) (ci := 0) (r := (RX1, TX1, 6)) gX1_layOutBelow_X1_layOutBelow rfl (by change yX1_layOutBelow.cls = yX1_layOutBelow.cls ∧ yX1_layOutBelow.cls ≠ _ ∧ yX1_layOutBelow.cls ≠ _ ∧ (parseMethodDescriptor yX1_layOutBelow.desc).map _ = _; decide +kernel) (by refine ⟨?_, ?_⟩ <;> (dsimp only [mLb]; omega)) rfl rfl dX1_layOutBelow_159 rfl ⟨(Nat.le_of_ble_eq_true rfl), (Nat.le_of_ble_eq_true rfl)⟩ (Nat.le_of_ble_eq_true rfl) (by repeat (first | with_reducible assumption | with_reducible refine (k2 _ (by omega)).trans ?_)) rfl (hct) (fun v h2 z2 hq8 => ?_)
            obtain ⟨rfl, rfl, P2, ⟨hm1, H3⟩⟩ := hq8
            refine v_iinc (j := 1) (L' := [(5, _), (6, _), (4, _), (3, _), (2, _), (1, _), (0, _)]) (v := nI (i + 1)) dX1_layOutBelow_162 rfl (nI_1 _) (Nat.le_of_ble_eq_true rfl) rfl ?_
            refine v_goto (tgt := 64) dX1_layOutBelow_165 (by decide) ?_
            refine v_sub (L' := [(5, _), (4, _), (3, _), (2, _), (1, _), (0, _)]) [0, 2, 3, 4, 5, 6] rfl ?_
            first
              | (have c9 := H3
                 refine ih (i + 1) _ hm1 (by omega) P2.cut ?_
                 rw [rg_s, if_pos e3, ← List.append_assoc]
                 exact c9)
              | (refine ih (i + 1) _ hm9 (by omega) P ?_
                 rw [rg_s]
                 have e9 : (if p3 i = c then lS pl p3 p4 mp Lc (f + 1) (p4 i) (w ++ [i]) else []) = [] := (by
                   by_cases e3 : p3 i = c
                   · rw [if_pos e3]
                     have c9 : nI (min 101 (N (p4 i))) ≤ 0 := (by first | exact c_120 | exact absurd (congrArg nI e3) c_107)
                     have z9 : N (p4 i) = 0 := (by
                       by_cases z8 : N (p4 i) = 0
                       · exact z8
                       · exact absurd c9 (nI_nle (n := min 101 (N (p4 i))) (by omega) (by omega)))
                     exact hL0 i (by omega) (by rw [e3]; exact hcW) z9 _ _
                   · rw [if_neg e3])
                 rw [e9, List.append_nil]
                 exact H)

