theorem iwX13_lay_X13 : ∀ w ∈ wsX130, w ∈ wsX13_lay := by decide +kernel
set_option maxRecDepth 20000 in
theorem ggX13_lay_X13_take_p0 : GoodIn wsX13_lay [.code yX13_take cX13_take 4 none] := goodIn_r _ [12] (by decide +kernel) (by decide +kernel)
set_option maxRecDepth 20000 in
theorem ggX13_lay_X13_take_p1 : GoodIn wsX13_lay wsX13_take_r1 := goodIn_r _ [13, 14, 15, 1, 16, 2, 17, 7, 18, 19, 20, 11, 21, 22, 23, 24, 25, 26, 27, 28, 29, 30, 31, 32] (by decide +kernel) (by decide +kernel)
set_option maxRecDepth 20000 in
theorem ggX13_lay_X13_take_p2 : GoodIn wsX13_lay wsX13_take_r2 := goodIn_r _ [33, 34, 35, 36, 37, 38, 39, 40, 41, 42] (by decide +kernel) (by decide +kernel)
theorem ggX13_lay_X13_take_p3 : GoodIn wsX13_lay wsX130 := goodIn_sub iwX13_lay_X13 (by decide +kernel)
theorem ggX13_lay_X13_take : GoodIn wsX13_lay wsX13_take := goodIn_cn ggX13_lay_X13_take_p0 (goodIn_app (goodIn_app ggX13_lay_X13_take_p1 ggX13_lay_X13_take_p2) ggX13_lay_X13_take_p3)
set_option maxRecDepth 20000 in
theorem gX13_lay_X13_take : GoodIn wsX13_lay (wsV RX13 211 RX13 yX13_take wsX13_take) := goodIn_app (goodIn_of _ (by decide +kernel)) ggX13_lay_X13_take
set_option maxRecDepth 20000 in
theorem ggX13_lay_X13_cellAt : GoodIn wsX13_lay wsX13_cellAt := goodIn_r _ [46, 2, 6, 7, 47, 48, 49, 50, 51, 52, 53, 54, 55, 56, 57, 58, 59, 60, 61, 62, 63, 64, 65, 66, 67, 68, 69, 70, 71, 72, 73, 74, 75, 76, 77, 78, 79, 80, 81, 82, 83, 84, 85, 86, 87, 88, 89, 90, 91, 92, 93, 94, 95, 96, 97, 98, 99, 100, 101, 102, 103, 104, 105, 106, 107, 108, 109, 110, 111, 112, 113, 114, 115, 116, 117] (by decide +kernel) (by decide +kernel)
set_option maxRecDepth 20000 in
theorem gX13_lay_X13_cellAt : GoodIn wsX13_lay (wsV RX13 214 RX13 yX13_cellAt wsX13_cellAt) := goodIn_app (goodIn_of _ (by decide +kernel)) ggX13_lay_X13_cellAt
theorem dX13_lay_0 : decode cX13_lay 0 = .ok (.aload_n 0, 1) := by decide +kernel
theorem dX13_lay_1 : decode cX13_lay 1 = .ok (.iconst 0, 1) := by decide +kernel
theorem dX13_lay_2 : decode cX13_lay 2 = .ok (.putfield 208, 3) := by decide +kernel
theorem dX13_lay_5 : decode cX13_lay 5 = .ok (.aload_n 0, 1) := by decide +kernel
theorem dX13_lay_6 : decode cX13_lay 6 = .ok (.iconst 0, 1) := by decide +kernel
theorem dX13_lay_7 : decode cX13_lay 7 = .ok (.putfield 205, 3) := by decide +kernel
theorem dX13_lay_10 : decode cX13_lay 10 = .ok (.aload_n 0, 1) := by decide +kernel
theorem dX13_lay_11 : decode cX13_lay 11 = .ok (.iload_n 1, 1) := by decide +kernel
theorem dX13_lay_12 : decode cX13_lay 12 = .ok (.invokevirtual 211, 3) := by decide +kernel
theorem dX13_lay_15 : decode cX13_lay 15 = .ok (.iconst 0, 1) := by decide +kernel
theorem dX13_lay_16 : decode cX13_lay 16 = .ok (.istore_n 2, 1) := by decide +kernel
theorem dX13_lay_17 : decode cX13_lay 17 = .ok (.aload_n 0, 1) := by decide +kernel
theorem dX13_lay_18 : decode cX13_lay 18 = .ok (.getfield 205, 3) := by decide +kernel
theorem dX13_lay_21 : decode cX13_lay 21 = .ok (.ifCond .gt 11, 3) := by decide +kernel
theorem dX13_lay_24 : decode cX13_lay 24 = .ok (.iload_n 2, 1) := by decide +kernel
theorem dX13_lay_25 : decode cX13_lay 25 = .ok (.aload_n 0, 1) := by decide +kernel
theorem dX13_lay_26 : decode cX13_lay 26 = .ok (.getfield 169, 3) := by decide +kernel
theorem dX13_lay_29 : decode cX13_lay 29 = .ok (.if_icmp .ge 149, 3) := by decide +kernel
theorem dX13_lay_32 : decode cX13_lay 32 = .ok (.aload_n 0, 1) := by decide +kernel
theorem dX13_lay_33 : decode cX13_lay 33 = .ok (.iload_n 1, 1) := by decide +kernel
theorem dX13_lay_34 : decode cX13_lay 34 = .ok (.invokevirtual 214, 3) := by decide +kernel
theorem dX13_lay_37 : decode cX13_lay 37 = .ok (.istore_n 3, 1) := by decide +kernel
theorem dX13_lay_38 : decode cX13_lay 38 = .ok (.iload_n 2, 1) := by decide +kernel
theorem dX13_lay_39 : decode cX13_lay 39 = .ok (.aload_n 0, 1) := by decide +kernel
theorem dX13_lay_40 : decode cX13_lay 40 = .ok (.getfield 169, 3) := by decide +kernel
theorem dX13_lay_43 : decode cX13_lay 43 = .ok (.if_icmp .ge 35, 3) := by decide +kernel
theorem dX13_lay_46 : decode cX13_lay 46 = .ok (.aload_n 0, 1) := by decide +kernel
theorem dX13_lay_47 : decode cX13_lay 47 = .ok (.getfield 29, 3) := by decide +kernel
theorem dX13_lay_50 : decode cX13_lay 50 = .ok (.iload_n 2, 1) := by decide +kernel
theorem dX13_lay_51 : decode cX13_lay 51 = .ok (.iaload, 1) := by decide +kernel
theorem dX13_lay_52 : decode cX13_lay 52 = .ok (.iload_n 3, 1) := by decide +kernel
theorem dX13_lay_53 : decode cX13_lay 53 = .ok (.if_icmp .ne 19, 3) := by decide +kernel
theorem dX13_lay_56 : decode cX13_lay 56 = .ok (.aload_n 0, 1) := by decide +kernel
theorem dX13_lay_57 : decode cX13_lay 57 = .ok (.getfield 98, 3) := by decide +kernel
theorem dX13_lay_60 : decode cX13_lay 60 = .ok (.aload_n 0, 1) := by decide +kernel
theorem dX13_lay_61 : decode cX13_lay 61 = .ok (.getfield 32, 3) := by decide +kernel
theorem dX13_lay_64 : decode cX13_lay 64 = .ok (.iload_n 2, 1) := by decide +kernel
theorem dX13_lay_65 : decode cX13_lay 65 = .ok (.iaload, 1) := by decide +kernel
theorem dX13_lay_66 : decode cX13_lay 66 = .ok (.laload, 1) := by decide +kernel
theorem dX13_lay_67 : decode cX13_lay 67 = .ok (.lconst 0, 1) := by decide +kernel
theorem dX13_lay_68 : decode cX13_lay 68 = .ok (.lcmp, 1) := by decide +kernel
theorem dX13_lay_69 : decode cX13_lay 69 = .ok (.ifCond .ne 9, 3) := by decide +kernel
theorem dX13_lay_72 : decode cX13_lay 72 = .ok (.iinc 2 1, 3) := by decide +kernel
theorem dX13_lay_75 : decode cX13_lay 75 = .ok (.goto (-37), 3) := by decide +kernel
theorem dX13_lay_78 : decode cX13_lay 78 = .ok (.iload_n 2, 1) := by decide +kernel
theorem dX13_lay_79 : decode cX13_lay 79 = .ok (.aload_n 0, 1) := by decide +kernel
theorem dX13_lay_80 : decode cX13_lay 80 = .ok (.getfield 169, 3) := by decide +kernel
theorem dX13_lay_83 : decode cX13_lay 83 = .ok (.if_icmp .ge 37, 3) := by decide +kernel
theorem dX13_lay_86 : decode cX13_lay 86 = .ok (.aload_n 0, 1) := by decide +kernel
theorem dX13_lay_87 : decode cX13_lay 87 = .ok (.getfield 95, 3) := by decide +kernel
theorem dX13_lay_90 : decode cX13_lay 90 = .ok (.aload_n 0, 1) := by decide +kernel
theorem dX13_lay_91 : decode cX13_lay 91 = .ok (.getfield 205, 3) := by decide +kernel
theorem dX13_lay_94 : decode cX13_lay 94 = .ok (.iload_n 2, 1) := by decide +kernel
theorem dX13_lay_95 : decode cX13_lay 95 = .ok (.iastore, 1) := by decide +kernel
theorem dX13_lay_96 : decode cX13_lay 96 = .ok (.aload_n 0, 1) := by decide +kernel
theorem dX13_lay_97 : decode cX13_lay 97 = .ok (.dup, 1) := by decide +kernel
theorem dX13_lay_98 : decode cX13_lay 98 = .ok (.getfield 205, 3) := by decide +kernel
theorem dX13_lay_101 : decode cX13_lay 101 = .ok (.iconst 1, 1) := by decide +kernel
theorem dX13_lay_102 : decode cX13_lay 102 = .ok (.iadd, 1) := by decide +kernel
theorem dX13_lay_103 : decode cX13_lay 103 = .ok (.putfield 205, 3) := by decide +kernel
theorem dX13_lay_106 : decode cX13_lay 106 = .ok (.aload_n 0, 1) := by decide +kernel
theorem dX13_lay_107 : decode cX13_lay 107 = .ok (.aload_n 0, 1) := by decide +kernel
theorem dX13_lay_108 : decode cX13_lay 108 = .ok (.iload_n 1, 1) := by decide +kernel
theorem dX13_lay_109 : decode cX13_lay 109 = .ok (.invokevirtual 214, 3) := by decide +kernel
theorem dX13_lay_112 : decode cX13_lay 112 = .ok (.invokevirtual 211, 3) := by decide +kernel
theorem dX13_lay_115 : decode cX13_lay 115 = .ok (.iconst 0, 1) := by decide +kernel
theorem dX13_lay_116 : decode cX13_lay 116 = .ok (.istore_n 2, 1) := by decide +kernel
theorem dX13_lay_117 : decode cX13_lay 117 = .ok (.goto 58, 3) := by decide +kernel
theorem dX13_lay_120 : decode cX13_lay 120 = .ok (.aload_n 0, 1) := by decide +kernel
theorem dX13_lay_121 : decode cX13_lay 121 = .ok (.dup, 1) := by decide +kernel
theorem dX13_lay_122 : decode cX13_lay 122 = .ok (.getfield 205, 3) := by decide +kernel
theorem dX13_lay_125 : decode cX13_lay 125 = .ok (.iconst 1, 1) := by decide +kernel
theorem dX13_lay_126 : decode cX13_lay 126 = .ok (.isub, 1) := by decide +kernel
theorem dX13_lay_127 : decode cX13_lay 127 = .ok (.putfield 205, 3) := by decide +kernel
theorem dX13_lay_130 : decode cX13_lay 130 = .ok (.aload_n 0, 1) := by decide +kernel
theorem dX13_lay_131 : decode cX13_lay 131 = .ok (.getfield 205, 3) := by decide +kernel
theorem dX13_lay_134 : decode cX13_lay 134 = .ok (.ifCond .ge 10, 3) := by decide +kernel
theorem dX13_lay_137 : decode cX13_lay 137 = .ok (.aload_n 0, 1) := by decide +kernel
theorem dX13_lay_138 : decode cX13_lay 138 = .ok (.getfield 169, 3) := by decide +kernel
theorem dX13_lay_141 : decode cX13_lay 141 = .ok (.goto 14, 3) := by decide +kernel
theorem dX13_lay_144 : decode cX13_lay 144 = .ok (.aload_n 0, 1) := by decide +kernel
theorem dX13_lay_145 : decode cX13_lay 145 = .ok (.getfield 95, 3) := by decide +kernel
theorem dX13_lay_148 : decode cX13_lay 148 = .ok (.aload_n 0, 1) := by decide +kernel
theorem dX13_lay_149 : decode cX13_lay 149 = .ok (.getfield 205, 3) := by decide +kernel
theorem dX13_lay_152 : decode cX13_lay 152 = .ok (.iaload, 1) := by decide +kernel
theorem dX13_lay_153 : decode cX13_lay 153 = .ok (.iconst 1, 1) := by decide +kernel
theorem dX13_lay_154 : decode cX13_lay 154 = .ok (.iadd, 1) := by decide +kernel
theorem dX13_lay_155 : decode cX13_lay 155 = .ok (.istore_n 2, 1) := by decide +kernel
theorem dX13_lay_156 : decode cX13_lay 156 = .ok (.aload_n 0, 1) := by decide +kernel
theorem dX13_lay_157 : decode cX13_lay 157 = .ok (.aload_n 0, 1) := by decide +kernel
theorem dX13_lay_158 : decode cX13_lay 158 = .ok (.getfield 205, 3) := by decide +kernel
theorem dX13_lay_161 : decode cX13_lay 161 = .ok (.ifCond .ge 7, 3) := by decide +kernel
theorem dX13_lay_164 : decode cX13_lay 164 = .ok (.iconst 0, 1) := by decide +kernel
theorem dX13_lay_165 : decode cX13_lay 165 = .ok (.goto 7, 3) := by decide +kernel
theorem dX13_lay_168 : decode cX13_lay 168 = .ok (.aload_n 0, 1) := by decide +kernel
theorem dX13_lay_169 : decode cX13_lay 169 = .ok (.getfield 205, 3) := by decide +kernel
theorem dX13_lay_172 : decode cX13_lay 172 = .ok (.putfield 205, 3) := by decide +kernel
theorem dX13_lay_175 : decode cX13_lay 175 = .ok (.goto (-158), 3) := by decide +kernel
theorem dX13_lay_178 : decode cX13_lay 178 = .ok (.return_, 1) := by decide +kernel

abbrev mX13_lay : sv_M := (cX13_lay, 4, yX13_lay, wsX13_lay, none, { frames := 6, cells := 0, slots := 0, locals := 150 }, [])
/-- from i on, so many -/
def dR {α : Type} (F : Nat → List α) : Nat → Nat → List α
  | _, 0 => []
  | i, e + 1 => F i ++ dR F (i + 1) e
theorem dR_e {α : Type} (F : Nat → List α) : ∀ (e i : Nat), dR F i e = (List.range' i e).flatMap F
  | 0, i => rfl
  | e + 1, i => by
    show F i ++ dR F (i + 1) e = (i :: List.range' (i + 1) e).flatMap F
    rw [dR_e F e (i + 1), List.flatMap_cons]
theorem dR_0 {α : Type} (F : Nat → List α) (n : Nat) : dR F 0 n = (List.range n).flatMap F := by
  rw [dR_e, List.range_eq_range']
theorem dR_z {α : Type} {F : Nat → List α} {n : Nat} (h : n = 0) : dR F 0 n = [] := by subst h; rfl
/-- what lies in the cells placed in c -/
def fwD (np pl : Nat) (R : Nat → Bool) (hm p3 p4 : Nat → Nat) (f c : Nat) (w : List Nat) (i : Nat) : List (List Nat × Nat) := if p3 i = c then dS np pl (rQ R hm) p3 p4 f (p4 i) (w ++ [i]) else []
theorem dS_fw (np pl : Nat) (R : Nat → Bool) (hm p3 p4 : Nat → Nat) (f c : Nat) (w : List Nat) : dS np pl (rQ R hm) p3 p4 (f + 1) c w = dO np (rQ R hm) c w ++ dR (fwD np pl R hm p3 p4 f c w) 0 pl := by
  rw [dR_0]; rfl
theorem mcl_a (p4 : Nat → Nat) (top : Nat) (wy : List Nat) (i : Nat) : mcl p4 top (wy ++ [i]) (wy ++ [i]).length = p4 i := by
  unfold mcl
  rw [if_neg (by rw [List.length_append]; exact Nat.succ_ne_zero _), List.length_append]
  show p4 ((wy ++ [i]).getD (wy.length + 1 - 1) 0) = p4 i
  rw [Nat.add_sub_cancel, gA_e]
theorem mst_s {G : sv_G} {h : sv_h} {b : Nat} {wy : List Nat} {i : Nat} {f : Nat → Int32} (H : ∀ k, k < wy.length → f k = nI (wy.getD k 0)) (a : ab_I G h (b + 247) 17 (upd f wy.length (nI i))) (hw : wy.length < 16) : mst_ G h b (wy ++ [i]) := by
  refine ⟨_, a, by rw [List.length_append]; exact hw, fun k hk => ?_⟩
  rw [List.length_append] at hk
  have hk : k < wy.length + 1 := hk
  by_cases e : k = wy.length
  · subst e; rw [gA_e]; exact if_pos rfl
  · rw [gA_l _ (by omega)]; exact (if_neg e).trans (H k (by omega))
theorem mst_p {G : sv_G} {h : sv_h} {b : Nat} {wy : List Nat} {i : Nat} (H : mst_ G h b (wy ++ [i])) : mst_ G h b wy := by
  obtain ⟨f, a, c, d⟩ := H
  rw [List.length_append] at c
  have c : wy.length + 1 ≤ 16 := c
  refine ⟨f, a, by omega, fun k hk => ?_⟩
  rw [d k (by rw [List.length_append]; exact Nat.lt_succ_of_lt hk), gA_l _ hk]
set_option maxHeartbeats 4000000 in
set_option maxRecDepth 100000 in
theorem t_ly17 (G : sv_G) (Qr : Option Value → sv_h → Nat → Prop) (z b nc np pl : Nat) (R : Nat → Bool) (hm p3 p4 sz : Nat → Nat) (ly vo : Nat → Int32) (mp : Nat → mvT) (X Y : Nat → Nat → Int) (hb : sv_h) (fs0 : List Value) (hq0 : mfq_ b nc np pl fs0) (MY : myl_ G hb b nc np pl R hm p3 p4 sz ly vo mp X Y) (top : Nat) (htop : top < nc) (wy : List Nat) (hwp : ∀ i, i ∈ wy → i < pl) (i : Nat) (hip : i ≤ pl) (hor : 0 < wy.length ∨ i < pl) (O : List (List Nat × Nat)) (h : sv_h) (fs : List Value) (hm9 : h (b + 220) = some (.inr (11, fs))) (hl : fs.length = 71) (hE : fsE [36, 41] fs0 fs) (f_occurrences : fs[36]? = some (.int (nI (O).length))) (f_deep : fs[41]? = some (.int (nI (wy).length))) (MO : moc_ G h b (O)) (MS : mst_ G h b (wy)) (frh : (∀ a, a ≠ b + 220 → ¬ (b + 244 ≤ a ∧ a < b + 248) → h a = hb a)) (hk : V G mX13_lay (sv_MQ G mX13_lay Qr) 38 [(3, .int (nI (mcl p4 top wy wy.length))), (2, .int (nI i)), (1, .int (nI top)), (0, .ref (b + 220))] [] h z 0 0) : V G mX13_lay (sv_MQ G mX13_lay Qr) 17 [(2, .int (nI i)), (1, .int (nI top)), (0, .ref (b + 220))] [] h z 0 0 := by
  have hqf := hq0.to (S := [36, 41]) hl hE (by decide)
  have hlen : fs.length = 71 := hl
  obtain ⟨_, _, _, _, _, _, ⟨g6, y6, y6a⟩, ⟨g7, y7, y7a⟩, _, _, _, yB, yC, yD, yE, yF⟩ := id MY
  have w227 : ab_I G h (b + 227) 32 g6 := (frh _ (by omega) (by omega)).trans y6
  have w228 : ab_I G h (b + 228) 32 g7 := (frh _ (by omega) (by omega)).trans y7
  obtain ⟨fst, s1, s2, s3⟩ := id MS
  have f_places := hqf.f_places
  have f_placeIn := hqf.f_placeIn
  have f_placeOf := hqf.f_placeOf
  have f_stack := hqf.f_stack
  have f_sizes := hqf.f_sizes
  refine v_aload_n dX13_lay_17 rfl 2 rfl ?_
  refine v_getf 41 (ci := 11) (C := RX13) (T := TX13) (N := 71) rfl iwX13_lay_X13 (Nat.le_of_ble_eq_true rfl) (by decide +kernel) dX13_lay_18 (by first | with_reducible assumption) (by repeat (first | with_reducible assumption | (with_reducible refine (sv_ls (by first | omega | (simp only [List.length_set]; omega))).trans ?_; exact rfl) | with_reducible refine (List.getElem?_set_ne (by decide)).trans ?_)) ?_
  refine v_if_gt (tgt := 32) dX13_lay_21 (by decide) (fun c_21 => ?_) (fun c_21 => ?_)
  · refine v_aload_n dX13_lay_32 rfl 2 rfl ?_
    refine v_iload_n dX13_lay_33 rfl 1 rfl ?_
    refine v_callVq (M' := mX13_cellAt) (n := 1) (As := [_]) (ci := 11) (r := (RX13, TX13, 71)) gX13_lay_X13_cellAt rfl (by decide +kernel) ⟨(Nat.le_of_ble_eq_true rfl), (Nat.le_of_ble_eq_true rfl)⟩ rfl rfl dX13_lay_34 rfl ⟨(Nat.le_of_ble_eq_true rfl), (Nat.le_of_ble_eq_true rfl)⟩ (Nat.le_of_ble_eq_true rfl) (by first | with_reducible assumption) rfl (m_cellAt G _ b nc np pl R hm p3 p4 sz ly vo mp X Y h fs hqf (MY.kp (fun a p1 p2 => frh a (by omega) (by omega))) _ MS f_deep hwp hm9 top) (fun v9 h9 y9 hq => v_pq hq ?_)
    refine v_istore_n (L' := [(3, _), (2, _), (1, _), (0, _)]) dX13_lay_37 rfl (Nat.le_of_ble_eq_true rfl) rfl ?_
    refine v_sub (L' := [(3, _), (2, _), (1, _), (0, _)]) [0, 1, 2, 3] rfl ?_
    exact hk
  · refine v_iload_n dX13_lay_24 rfl 0 rfl ?_
    refine v_aload_n dX13_lay_25 rfl 2 rfl ?_
    refine v_getf 10 (ci := 11) (C := RX13) (T := TX13) (N := 71) rfl iwX13_lay_X13 (Nat.le_of_ble_eq_true rfl) (by decide +kernel) dX13_lay_26 (by first | with_reducible assumption) (by repeat (first | with_reducible assumption | (with_reducible refine (sv_ls (by first | omega | (simp only [List.length_set]; omega))).trans ?_; exact rfl) | with_reducible refine (List.getElem?_set_ne (by decide)).trans ?_)) ?_
    refine v_icmp_ge (tgt := 178) dX13_lay_29 (by decide) (fun c_29 => ?_) (fun c_29 => ?_)
    · exact hor.elim (fun e9 => absurd (Int32.not_le.mp (nI_ge (a := 0) e9 (by omega))) c_21) (fun e9 => absurd c_29 (nI_ge e9 (by omega)))
    · refine v_aload_n dX13_lay_32 rfl 2 rfl ?_
      refine v_iload_n dX13_lay_33 rfl 1 rfl ?_
      refine v_callVq (M' := mX13_cellAt) (n := 1) (As := [_]) (ci := 11) (r := (RX13, TX13, 71)) gX13_lay_X13_cellAt rfl (by decide +kernel) ⟨(Nat.le_of_ble_eq_true rfl), (Nat.le_of_ble_eq_true rfl)⟩ rfl rfl dX13_lay_34 rfl ⟨(Nat.le_of_ble_eq_true rfl), (Nat.le_of_ble_eq_true rfl)⟩ (Nat.le_of_ble_eq_true rfl) (by first | with_reducible assumption) rfl (m_cellAt G _ b nc np pl R hm p3 p4 sz ly vo mp X Y h fs hqf (MY.kp (fun a p1 p2 => frh a (by omega) (by omega))) _ MS f_deep hwp hm9 top) (fun v9 h9 y9 hq => v_pq hq ?_)
      refine v_istore_n (L' := [(3, _), (2, _), (1, _), (0, _)]) dX13_lay_37 rfl (Nat.le_of_ble_eq_true rfl) rfl ?_
      refine v_sub (L' := [(3, _), (2, _), (1, _), (0, _)]) [0, 1, 2, 3] rfl ?_
      exact hk

set_option maxHeartbeats 4000000 in
set_option maxRecDepth 100000 in
theorem t_ly120 (G : sv_G) (Qr : Option Value → sv_h → Nat → Prop) (z b nc np pl : Nat) (R : Nat → Bool) (hm p3 p4 sz : Nat → Nat) (ly vo : Nat → Int32) (mp : Nat → mvT) (X Y : Nat → Nat → Int) (hb : sv_h) (fs0 : List Value) (hq0 : mfq_ b nc np pl fs0) (MY : myl_ G hb b nc np pl R hm p3 p4 sz ly vo mp X Y) (top : Nat) (htop : top < nc) (wy : List Nat) (c j i : Nat) (hi : i < pl) (O : List (List Nat × Nat)) (h : sv_h) (fs : List Value) (hm9 : h (b + 220) = some (.inr (11, fs))) (hl : fs.length = 71) (hE : fsE [36, 41] fs0 fs) (f_occurrences : fs[36]? = some (.int (nI (O).length))) (f_deep : fs[41]? = some (.int (nI (wy ++ [i]).length))) (MO : moc_ G h b (O)) (MS : mst_ G h b (wy ++ [i])) (frh : (∀ a, a ≠ b + 220 → ¬ (b + 244 ≤ a ∧ a < b + 248) → h a = hb a)) (hk : ∀ (h : sv_h) (fs : List Value), h (b + 220) = some (.inr (11, fs)) → fs.length = 71 → fsE [36, 41] fs0 fs → fs[36]? = some (.int (nI (O).length)) → fs[41]? = some (.int (nI (wy).length)) → moc_ G h b (O) → mst_ G h b (wy) → (∀ a, a ≠ b + 220 → ¬ (b + 244 ≤ a ∧ a < b + 248) → h a = hb a) → V G mX13_lay (sv_MQ G mX13_lay Qr) 17 [(2, .int (nI (i + 1))), (1, .int (nI top)), (0, .ref (b + 220))] [] h z 0 0) : V G mX13_lay (sv_MQ G mX13_lay Qr) 120 [(3, .int (nI c)), (2, .int (nI j)), (1, .int (nI top)), (0, .ref (b + 220))] [] h z 0 0 := by
  have hqf := hq0.to (S := [36, 41]) hl hE (by decide)
  have hlen : fs.length = 71 := hl
  obtain ⟨_, _, _, _, _, _, ⟨g6, y6, y6a⟩, ⟨g7, y7, y7a⟩, _, _, _, yB, yC, yD, yE, yF⟩ := id MY
  have w227 : ab_I G h (b + 227) 32 g6 := (frh _ (by omega) (by omega)).trans y6
  have w228 : ab_I G h (b + 228) 32 g7 := (frh _ (by omega) (by omega)).trans y7
  obtain ⟨fst, s1, s2, s3⟩ := id MS
  have f_places := hqf.f_places
  have f_placeIn := hqf.f_placeIn
  have f_placeOf := hqf.f_placeOf
  have f_stack := hqf.f_stack
  have f_sizes := hqf.f_sizes
  have w247 : ab_I G h (b + 247) 17 fst := s1
  rw [List.length_append] at s2
  have s2 : wy.length + 1 ≤ 16 := s2
  have s3i : fst wy.length = nI i := (s3 wy.length (by rw [List.length_append]; exact Nat.lt_succ_self _)).trans (by rw [gA_e])
  refine v_aload_n dX13_lay_120 rfl 3 rfl ?_
  refine v_dup dX13_lay_121 rfl ?_
  refine v_getf 41 (ci := 11) (C := RX13) (T := TX13) (N := 71) rfl iwX13_lay_X13 (Nat.le_of_ble_eq_true rfl) (by decide +kernel) dX13_lay_122 (by repeat (first | with_reducible assumption | (with_reducible refine sv_us.trans ?_; exact rfl) | with_reducible refine (sv_un (by omega)).trans ?_)) (by repeat (first | with_reducible assumption | (with_reducible refine (sv_ls (by first | omega | (simp only [List.length_set]; omega))).trans ?_; exact rfl) | with_reducible refine (List.getElem?_set_ne (by decide)).trans ?_)) ?_
  refine v_iconst (v := 1) dX13_lay_125 (by decide) ?_
  refine v_isub dX13_lay_126 ?_
  rw [show nI (wy ++ [i]).length - 1 = nI wy.length from by rw [List.length_append]; exact nI_s1 _]
  refine v_putf 41 (fs' := _) (ci := 11) (C := RX13) (T := TX13) (N := 71) (ty := .int) rfl iwX13_lay_X13 tyX13 tyX13_ok nmX13 (Nat.le_of_ble_eq_true rfl) (by decide +kernel) rfl rfl dX13_lay_127 rfl rfl (by repeat (first | with_reducible assumption | (with_reducible refine sv_us.trans ?_; exact rfl) | with_reducible refine (sv_un (by omega)).trans ?_)) (by first | omega | (simp only [List.length_set]; omega)) rfl ?_
  refine v_aload_n dX13_lay_130 rfl 3 rfl ?_
  refine v_getf 41 (ci := 11) (C := RX13) (T := TX13) (N := 71) rfl iwX13_lay_X13 (Nat.le_of_ble_eq_true rfl) (by decide +kernel) dX13_lay_131 (by repeat (first | with_reducible assumption | (with_reducible refine sv_us.trans ?_; exact rfl) | with_reducible refine (sv_un (by omega)).trans ?_)) (by repeat (first | with_reducible assumption | (with_reducible refine (sv_ls (by first | omega | (simp only [List.length_set]; omega))).trans ?_; exact rfl) | with_reducible refine (List.getElem?_set_ne (by decide)).trans ?_)) ?_
  refine v_if_ge (tgt := 144) dX13_lay_134 (by decide) (fun c_134 => ?_) (fun c_134 => ?_)
  · refine v_aload_n dX13_lay_144 rfl 3 rfl ?_
    refine v_getf 40 (ci := 11) (C := RX13) (T := TX13) (N := 71) rfl iwX13_lay_X13 (Nat.le_of_ble_eq_true rfl) (by decide +kernel) dX13_lay_145 (by repeat (first | with_reducible assumption | (with_reducible refine sv_us.trans ?_; exact rfl) | with_reducible refine (sv_un (by omega)).trans ?_)) (by repeat (first | with_reducible assumption | (with_reducible refine (sv_ls (by first | omega | (simp only [List.length_set]; omega))).trans ?_; exact rfl) | with_reducible refine (List.getElem?_set_ne (by decide)).trans ?_)) ?_
    refine v_aload_n dX13_lay_148 rfl 3 rfl ?_
    refine v_getf 41 (ci := 11) (C := RX13) (T := TX13) (N := 71) rfl iwX13_lay_X13 (Nat.le_of_ble_eq_true rfl) (by decide +kernel) dX13_lay_149 (by repeat (first | with_reducible assumption | (with_reducible refine sv_us.trans ?_; exact rfl) | with_reducible refine (sv_un (by omega)).trans ?_)) (by repeat (first | with_reducible assumption | (with_reducible refine (sv_ls (by first | omega | (simp only [List.length_set]; omega))).trans ?_; exact rfl) | with_reducible refine (List.getElem?_set_ne (by decide)).trans ?_)) ?_
    refine v_ialdS (v := nI i) dX13_lay_152 (by repeat (first | with_reducible assumption | (with_reducible refine sv_us.trans ?_; exact rfl) | with_reducible refine (sv_un (by omega)).trans ?_)) (vp_in_nI (by omega) (by omega)) (by rw [nI_clamp (by omega)]; exact s3i) ?_
    refine v_iconst (v := 1) dX13_lay_153 (by decide) ?_
    refine v_iadd dX13_lay_154 ?_
    rw [show nI i + 1 = nI (i + 1) from nI_1 _]
    refine v_istore_n (L' := [(2, _), (3, _), (1, _), (0, _)]) dX13_lay_155 rfl (Nat.le_of_ble_eq_true rfl) rfl ?_
    refine v_aload_n dX13_lay_156 rfl 3 rfl ?_
    refine v_aload_n dX13_lay_157 rfl 3 rfl ?_
    refine v_getf 41 (ci := 11) (C := RX13) (T := TX13) (N := 71) rfl iwX13_lay_X13 (Nat.le_of_ble_eq_true rfl) (by decide +kernel) dX13_lay_158 (by repeat (first | with_reducible assumption | (with_reducible refine sv_us.trans ?_; exact rfl) | with_reducible refine (sv_un (by omega)).trans ?_)) (by repeat (first | with_reducible assumption | (with_reducible refine (sv_ls (by first | omega | (simp only [List.length_set]; omega))).trans ?_; exact rfl) | with_reducible refine (List.getElem?_set_ne (by decide)).trans ?_)) ?_
    refine v_if_ge (tgt := 168) dX13_lay_161 (by decide) (fun c_161 => ?_) (fun c_161 => ?_)
    · refine v_aload_n dX13_lay_168 rfl 3 rfl ?_
      refine v_getf 41 (ci := 11) (C := RX13) (T := TX13) (N := 71) rfl iwX13_lay_X13 (Nat.le_of_ble_eq_true rfl) (by decide +kernel) dX13_lay_169 (by repeat (first | with_reducible assumption | (with_reducible refine sv_us.trans ?_; exact rfl) | with_reducible refine (sv_un (by omega)).trans ?_)) (by repeat (first | with_reducible assumption | (with_reducible refine (sv_ls (by first | omega | (simp only [List.length_set]; omega))).trans ?_; exact rfl) | with_reducible refine (List.getElem?_set_ne (by decide)).trans ?_)) ?_
      refine v_putf 41 (fs' := _) (ci := 11) (C := RX13) (T := TX13) (N := 71) (ty := .int) rfl iwX13_lay_X13 tyX13 tyX13_ok nmX13 (Nat.le_of_ble_eq_true rfl) (by decide +kernel) rfl rfl dX13_lay_172 rfl rfl (by repeat (first | with_reducible assumption | (with_reducible refine sv_us.trans ?_; exact rfl) | with_reducible refine (sv_un (by omega)).trans ?_)) (by first | omega | (simp only [List.length_set]; omega)) rfl ?_
      refine v_goto (tgt := 17) dX13_lay_175 (by decide) ?_
      refine v_sub (L' := [(2, _), (1, _), (0, _)]) [0, 2, 3] rfl ?_
      exact hk _ _ sv_us (by rw [List.length_set, List.length_set]; exact hl) ((hE.st (by decide)).st (by decide)) ((List.getElem?_set_ne (by decide)).trans ((List.getElem?_set_ne (by decide)).trans f_occurrences)) (sv_ls (by rw [List.length_set]; omega)) (MO.kp (fun a p1 p2 => (sv_un (by omega)).trans (sv_un (by omega)))) ((mst_p MS).kp ((sv_un (by omega)).trans (sv_un (by omega)))) (fun a p1 p2 => (sv_un p1).trans ((sv_un p1).trans (frh a p1 p2)))
    · exact absurd (nI_le (a := 0) (Nat.zero_le wy.length) (by omega)) c_161
  · exact absurd (nI_le (a := 0) (Nat.zero_le wy.length) (by omega)) c_134

set_option maxHeartbeats 4000000 in
set_option maxRecDepth 100000 in
theorem t_ly120z (G : sv_G) (Qr : Option Value → sv_h → Nat → Prop) (z b nc np pl : Nat) (R : Nat → Bool) (hm p3 p4 sz : Nat → Nat) (ly vo : Nat → Int32) (mp : Nat → mvT) (X Y : Nat → Nat → Int) (hb : sv_h) (fs0 : List Value) (hq0 : mfq_ b nc np pl fs0) (MY : myl_ G hb b nc np pl R hm p3 p4 sz ly vo mp X Y) (top : Nat) (htop : top < nc) (c j : Nat) (O : List (List Nat × Nat)) (h : sv_h) (fs : List Value) (hm9 : h (b + 220) = some (.inr (11, fs))) (hl : fs.length = 71) (hE : fsE [36, 41] fs0 fs) (f_occurrences : fs[36]? = some (.int (nI (O).length))) (f_deep : fs[41]? = some (.int (nI (([] : List Nat)).length))) (MO : moc_ G h b (O)) (MS : mst_ G h b (([] : List Nat))) (frh : (∀ a, a ≠ b + 220 → ¬ (b + 244 ≤ a ∧ a < b + 248) → h a = hb a)) (hk : ∀ (h : sv_h) (fs : List Value), h (b + 220) = some (.inr (11, fs)) → fs.length = 71 → fsE [36, 41] fs0 fs → fs[36]? = some (.int (nI (O).length)) → fs[41]? = some (.int (nI (([] : List Nat)).length)) → moc_ G h b (O) → mst_ G h b (([] : List Nat)) → (∀ a, a ≠ b + 220 → ¬ (b + 244 ≤ a ∧ a < b + 248) → h a = hb a) → V G mX13_lay (sv_MQ G mX13_lay Qr) 17 [(2, .int (nI pl)), (1, .int (nI top)), (0, .ref (b + 220))] [] h z 0 0) : V G mX13_lay (sv_MQ G mX13_lay Qr) 120 [(3, .int (nI c)), (2, .int (nI j)), (1, .int (nI top)), (0, .ref (b + 220))] [] h z 0 0 := by
  have hqf := hq0.to (S := [36, 41]) hl hE (by decide)
  have hlen : fs.length = 71 := hl
  obtain ⟨_, _, _, _, _, _, ⟨g6, y6, y6a⟩, ⟨g7, y7, y7a⟩, _, _, _, yB, yC, yD, yE, yF⟩ := id MY
  have w227 : ab_I G h (b + 227) 32 g6 := (frh _ (by omega) (by omega)).trans y6
  have w228 : ab_I G h (b + 228) 32 g7 := (frh _ (by omega) (by omega)).trans y7
  obtain ⟨fst, s1, s2, s3⟩ := id MS
  have f_places := hqf.f_places
  have f_placeIn := hqf.f_placeIn
  have f_placeOf := hqf.f_placeOf
  have f_stack := hqf.f_stack
  have f_sizes := hqf.f_sizes
  refine v_aload_n dX13_lay_120 rfl 3 rfl ?_
  refine v_dup dX13_lay_121 rfl ?_
  refine v_getf 41 (ci := 11) (C := RX13) (T := TX13) (N := 71) rfl iwX13_lay_X13 (Nat.le_of_ble_eq_true rfl) (by decide +kernel) dX13_lay_122 (by repeat (first | with_reducible assumption | (with_reducible refine sv_us.trans ?_; exact rfl) | with_reducible refine (sv_un (by omega)).trans ?_)) (by repeat (first | with_reducible assumption | (with_reducible refine (sv_ls (by first | omega | (simp only [List.length_set]; omega))).trans ?_; exact rfl) | with_reducible refine (List.getElem?_set_ne (by decide)).trans ?_)) ?_
  refine v_iconst (v := 1) dX13_lay_125 (by decide) ?_
  refine v_isub dX13_lay_126 ?_
  refine v_putf 41 (fs' := _) (ci := 11) (C := RX13) (T := TX13) (N := 71) (ty := .int) rfl iwX13_lay_X13 tyX13 tyX13_ok nmX13 (Nat.le_of_ble_eq_true rfl) (by decide +kernel) rfl rfl dX13_lay_127 rfl rfl (by repeat (first | with_reducible assumption | (with_reducible refine sv_us.trans ?_; exact rfl) | with_reducible refine (sv_un (by omega)).trans ?_)) (by first | omega | (simp only [List.length_set]; omega)) rfl ?_
  refine v_aload_n dX13_lay_130 rfl 3 rfl ?_
  refine v_getf 41 (ci := 11) (C := RX13) (T := TX13) (N := 71) rfl iwX13_lay_X13 (Nat.le_of_ble_eq_true rfl) (by decide +kernel) dX13_lay_131 (by repeat (first | with_reducible assumption | (with_reducible refine sv_us.trans ?_; exact rfl) | with_reducible refine (sv_un (by omega)).trans ?_)) (by repeat (first | with_reducible assumption | (with_reducible refine (sv_ls (by first | omega | (simp only [List.length_set]; omega))).trans ?_; exact rfl) | with_reducible refine (List.getElem?_set_ne (by decide)).trans ?_)) ?_
  refine v_if_ge (tgt := 144) dX13_lay_134 (by decide) (fun c_134 => ?_) (fun c_134 => ?_)
  · exact absurd c_134 (by decide)
  · refine v_aload_n dX13_lay_137 rfl 3 rfl ?_
    refine v_getf 10 (ci := 11) (C := RX13) (T := TX13) (N := 71) rfl iwX13_lay_X13 (Nat.le_of_ble_eq_true rfl) (by decide +kernel) dX13_lay_138 (by repeat (first | with_reducible assumption | (with_reducible refine sv_us.trans ?_; exact rfl) | with_reducible refine (sv_un (by omega)).trans ?_)) (by repeat (first | with_reducible assumption | (with_reducible refine (sv_ls (by first | omega | (simp only [List.length_set]; omega))).trans ?_; exact rfl) | with_reducible refine (List.getElem?_set_ne (by decide)).trans ?_)) ?_
    refine v_goto (tgt := 155) dX13_lay_141 (by decide) ?_
    refine v_istore_n (L' := [(2, _), (3, _), (1, _), (0, _)]) dX13_lay_155 rfl (Nat.le_of_ble_eq_true rfl) rfl ?_
    refine v_aload_n dX13_lay_156 rfl 3 rfl ?_
    refine v_aload_n dX13_lay_157 rfl 3 rfl ?_
    refine v_getf 41 (ci := 11) (C := RX13) (T := TX13) (N := 71) rfl iwX13_lay_X13 (Nat.le_of_ble_eq_true rfl) (by decide +kernel) dX13_lay_158 (by repeat (first | with_reducible assumption | (with_reducible refine sv_us.trans ?_; exact rfl) | with_reducible refine (sv_un (by omega)).trans ?_)) (by repeat (first | with_reducible assumption | (with_reducible refine (sv_ls (by first | omega | (simp only [List.length_set]; omega))).trans ?_; exact rfl) | with_reducible refine (List.getElem?_set_ne (by decide)).trans ?_)) ?_
    refine v_if_ge (tgt := 168) dX13_lay_161 (by decide) (fun c_161 => ?_) (fun c_161 => ?_)
    · exact absurd c_161 (by decide)
    · refine v_iconst (v := 0) dX13_lay_164 (by decide) ?_
      refine v_goto (tgt := 172) dX13_lay_165 (by decide) ?_
      refine v_putf 41 (fs' := _) (ci := 11) (C := RX13) (T := TX13) (N := 71) (ty := .int) rfl iwX13_lay_X13 tyX13 tyX13_ok nmX13 (Nat.le_of_ble_eq_true rfl) (by decide +kernel) rfl rfl dX13_lay_172 rfl rfl (by repeat (first | with_reducible assumption | (with_reducible refine sv_us.trans ?_; exact rfl) | with_reducible refine (sv_un (by omega)).trans ?_)) (by first | omega | (simp only [List.length_set]; omega)) rfl ?_
      refine v_goto (tgt := 17) dX13_lay_175 (by decide) ?_
      refine v_sub (L' := [(2, _), (1, _), (0, _)]) [0, 2, 3] rfl ?_
      exact hk _ _ sv_us (by rw [List.length_set, List.length_set]; exact hl) ((hE.st (by decide)).st (by decide)) ((List.getElem?_set_ne (by decide)).trans ((List.getElem?_set_ne (by decide)).trans f_occurrences)) (sv_ls (by rw [List.length_set]; omega)) (MO.kp (fun a p1 p2 => (sv_un (by omega)).trans (sv_un (by omega)))) (MS.kp ((sv_un (by omega)).trans (sv_un (by omega)))) (fun a p1 p2 => (sv_un p1).trans ((sv_un p1).trans (frh a p1 p2)))

theorem dS_rz {np pl : Nat} {R : Nat → Bool} {hm p3 p4 : Nat → Nat} {f c : Nat} {w : List Nat} (h : oc_n np pl R hm p3 p4 16 c = 0) (hf : f ≤ 16) : dS np pl (rQ R hm) p3 p4 f c w = [] := by
  have a := dS_len (np := np) (pl := pl) (Q := rQ R hm) (R := R) (hm := hm) (p3 := p3) (p4 := p4) (fun c p q => rQ_iff.mp q) f c w
  have b := oc_mono2 (np := np) (pl := pl) (R := R) (hm := hm) (p3 := p3) (p4 := p4) (c := c) hf
  exact List.eq_nil_of_length_eq_zero (by omega)
theorem oc_zz {n : Nat} (h : lN (min 100000 n) = 0) : n = 0 := by
  have q := congrArg Int64.toInt h
  have e : (lN (min 100000 n)).toInt = ((min 100000 n : Nat) : Int) := jN_to (a := ((min 100000 n : Nat) : Int)) (by omega) (by omega)
  rw [e] at q
  have q2 : ((min 100000 n : Nat) : Int) = 0 := q
  omega
set_option maxHeartbeats 4000000 in
set_option maxRecDepth 100000 in
theorem l_lay (G : sv_G) (Qr : Option Value → sv_h → Nat → Prop) (z b nc np pl : Nat) (R : Nat → Bool) (hm p3 p4 sz : Nat → Nat) (ly vo : Nat → Int32) (mp : Nat → mvT) (X Y : Nat → Nat → Int) (hb : sv_h) (fs0 : List Value) (hq0 : mfq_ b nc np pl fs0) (MY : myl_ G hb b nc np pl R hm p3 p4 sz ly vo mp X Y) (top : Nat) (htop : top < nc) (hXY : ∀ p, p < np → ∀ i, i < sz p → (-10000 ≤ X p i ∧ X p i ≤ 10000) ∧ (-10000 ≤ Y p i ∧ Y p i ≤ 10000)) (hR : ∀ p, p < np → (R p = true ↔ gm_mr (sz p) (fun i => iN (X p i)) (fun i => iN (Y p i)))) (SZ : ∃ fz, ab_J G hb (b + 248) 16 fz ∧ ∀ d, d < nc → fz d = lN (min 100000 (oc_n np pl R hm p3 p4 16 d))) (rk : Nat → Nat) (hr : ∀ i, i < pl → rk (p4 i) < rk (p3 i)) : ∀ (f : Nat) (wy : List Nat) (c : Nat), (mcl p4 top wy wy.length) = c → rk c ≤ f → wy.length + f ≤ 15 → (∀ i, i ∈ wy → i < pl) → ∀ (e i : Nat) (O : List (List Nat × Nat)) (h : sv_h) (fs : List Value), i + e = pl → O.length + (dR (fwD np pl R hm p3 p4 f c wy) i e).length ≤ 100 → (∀ (h : sv_h) (fs : List Value), h (b + 220) = some (.inr (11, fs)) → fs.length = 71 → fsE [36, 41] fs0 fs → fs[36]? = some (.int (nI (O ++ dR (fwD np pl R hm p3 p4 f c wy) i e).length)) → fs[41]? = some (.int (nI (wy).length)) → moc_ G h b (O ++ dR (fwD np pl R hm p3 p4 f c wy) i e) → mst_ G h b (wy) → (∀ a, a ≠ b + 220 → ¬ (b + 244 ≤ a ∧ a < b + 248) → h a = hb a) → V G mX13_lay (sv_MQ G mX13_lay Qr) 120 [(3, .int (nI c)), (2, .int (nI pl)), (1, .int (nI top)), (0, .ref (b + 220))] [] h z 0 0) → (wy = [] → ∀ (h : sv_h) (fs : List Value), h (b + 220) = some (.inr (11, fs)) → fs.length = 71 → fsE [36, 41] fs0 fs → fs[36]? = some (.int (nI (O ++ dR (fwD np pl R hm p3 p4 f c wy) i e).length)) → fs[41]? = some (.int (nI (wy).length)) → moc_ G h b (O ++ dR (fwD np pl R hm p3 p4 f c wy) i e) → mst_ G h b (wy) → (∀ a, a ≠ b + 220 → ¬ (b + 244 ≤ a ∧ a < b + 248) → h a = hb a) → V G mX13_lay (sv_MQ G mX13_lay Qr) 17 [(2, .int (nI pl)), (1, .int (nI top)), (0, .ref (b + 220))] [] h z 0 0) → h (b + 220) = some (.inr (11, fs)) → fs.length = 71 → fsE [36, 41] fs0 fs → fs[36]? = some (.int (nI (O).length)) → fs[41]? = some (.int (nI (wy).length)) → moc_ G h b (O) → mst_ G h b (wy) → (∀ a, a ≠ b + 220 → ¬ (b + 244 ≤ a ∧ a < b + 248) → h a = hb a) → V G mX13_lay (sv_MQ G mX13_lay Qr) 38 [(3, .int (nI c)), (2, .int (nI i)), (1, .int (nI top)), (0, .ref (b + 220))] [] h z 0 0 := by
  intro f
  induction f with
  | zero =>
    intro wy c hwc hrc hwf hwp e
    induction e with
    | zero =>
      intro i O h fs hie hN hk hkx hm9 hl hE f_occurrences f_deep MO MS frh
      have hqf := hq0.to (S := [36, 41]) hl hE (by decide)
      have hlen : fs.length = 71 := hl
      obtain ⟨_, _, _, _, _, _, ⟨g6, y6, y6a⟩, ⟨g7, y7, y7a⟩, _, _, _, yB, yC, yD, yE, yF⟩ := id MY
      have w227 : ab_I G h (b + 227) 32 g6 := (frh _ (by omega) (by omega)).trans y6
      have w228 : ab_I G h (b + 228) 32 g7 := (frh _ (by omega) (by omega)).trans y7
      obtain ⟨fst, s1, s2, s3⟩ := id MS
      have f_places := hqf.f_places
      have f_placeIn := hqf.f_placeIn
      have f_placeOf := hqf.f_placeOf
      have f_stack := hqf.f_stack
      have f_sizes := hqf.f_sizes
      have w247 : ab_I G h (b + 247) 17 fst := s1
      obtain ⟨fz, z1_, z2_⟩ := id SZ
      have w248 : ab_J G h (b + 248) 16 fz := (frh _ (by omega) (by omega)).trans z1_
      have e9 : i = pl := by omega
      refine v_iload_n dX13_lay_38 rfl 1 rfl ?_
      refine v_aload_n dX13_lay_39 rfl 3 rfl ?_
      refine v_getf 10 (ci := 11) (C := RX13) (T := TX13) (N := 71) rfl iwX13_lay_X13 (Nat.le_of_ble_eq_true rfl) (by decide +kernel) dX13_lay_40 (by repeat (first | with_reducible assumption | (with_reducible refine sv_us.trans ?_; exact rfl) | with_reducible refine (sv_un (by omega)).trans ?_)) (by repeat (first | with_reducible assumption | (with_reducible refine (sv_ls (by first | omega | (simp only [List.length_set]; omega))).trans ?_; exact rfl) | with_reducible refine (List.getElem?_set_ne (by decide)).trans ?_)) ?_
      refine v_icmp_ge (tgt := 78) dX13_lay_43 (by decide) (fun c_43 => ?_) (fun c_43 => ?_)
      · refine v_iload_n dX13_lay_78 rfl 1 rfl ?_
        refine v_aload_n dX13_lay_79 rfl 3 rfl ?_
        refine v_getf 10 (ci := 11) (C := RX13) (T := TX13) (N := 71) rfl iwX13_lay_X13 (Nat.le_of_ble_eq_true rfl) (by decide +kernel) dX13_lay_80 (by repeat (first | with_reducible assumption | (with_reducible refine sv_us.trans ?_; exact rfl) | with_reducible refine (sv_un (by omega)).trans ?_)) (by repeat (first | with_reducible assumption | (with_reducible refine (sv_ls (by first | omega | (simp only [List.length_set]; omega))).trans ?_; exact rfl) | with_reducible refine (List.getElem?_set_ne (by decide)).trans ?_)) ?_
        refine v_icmp_ge (tgt := 120) dX13_lay_83 (by decide) (fun c_83 => ?_) (fun c_83 => ?_)
        · refine v_sub (L' := [(3, _), (2, _), (1, _), (0, _)]) [0, 1, 2, 3] rfl ?_
          rw [show nI i = nI pl from congrArg nI e9]
          exact hk h fs hm9 hl hE (by rw [show dR (fwD np pl R hm p3 p4 0 c wy) i 0 = [] from rfl, List.append_nil]; exact f_occurrences) f_deep (by rw [show dR (fwD np pl R hm p3 p4 0 c wy) i 0 = [] from rfl, List.append_nil]; exact MO) MS frh
        · exact absurd (nI_le (show pl ≤ i by omega) (by omega)) c_83
      · exact absurd (nI_le (show pl ≤ i by omega) (by omega)) c_43
    | succ e ihe =>
      intro i O h fs hie hN hk hkx hm9 hl hE f_occurrences f_deep MO MS frh
      have hqf := hq0.to (S := [36, 41]) hl hE (by decide)
      have hlen : fs.length = 71 := hl
      obtain ⟨_, _, _, _, _, _, ⟨g6, y6, y6a⟩, ⟨g7, y7, y7a⟩, _, _, _, yB, yC, yD, yE, yF⟩ := id MY
      have w227 : ab_I G h (b + 227) 32 g6 := (frh _ (by omega) (by omega)).trans y6
      have w228 : ab_I G h (b + 228) 32 g7 := (frh _ (by omega) (by omega)).trans y7
      obtain ⟨fst, s1, s2, s3⟩ := id MS
      have f_places := hqf.f_places
      have f_placeIn := hqf.f_placeIn
      have f_placeOf := hqf.f_placeOf
      have f_stack := hqf.f_stack
      have f_sizes := hqf.f_sizes
      have w247 : ab_I G h (b + 247) 17 fst := s1
      obtain ⟨fz, z1_, z2_⟩ := id SZ
      have w248 : ab_J G h (b + 248) 16 fz := (frh _ (by omega) (by omega)).trans z1_
      have hi : i < pl := by omega
      have h34 := yF i hi
      have e7 : dR (fwD np pl R hm p3 p4 0 c wy) i (e + 1) = (fwD np pl R hm p3 p4 0 c wy) i ++ dR (fwD np pl R hm p3 p4 0 c wy) (i + 1) e := rfl
      have ncc : c < 16 := (by
        have : c < nc := (by
          rw [← hwc]
          unfold mcl
          split
          · exact htop
          · exact (yF _ (hwp _ (getD_mem 0 (by omega)))).2)
        omega)
      refine v_iload_n dX13_lay_38 rfl 1 rfl ?_
      refine v_aload_n dX13_lay_39 rfl 3 rfl ?_
      refine v_getf 10 (ci := 11) (C := RX13) (T := TX13) (N := 71) rfl iwX13_lay_X13 (Nat.le_of_ble_eq_true rfl) (by decide +kernel) dX13_lay_40 (by repeat (first | with_reducible assumption | (with_reducible refine sv_us.trans ?_; exact rfl) | with_reducible refine (sv_un (by omega)).trans ?_)) (by repeat (first | with_reducible assumption | (with_reducible refine (sv_ls (by first | omega | (simp only [List.length_set]; omega))).trans ?_; exact rfl) | with_reducible refine (List.getElem?_set_ne (by decide)).trans ?_)) ?_
      refine v_icmp_ge (tgt := 78) dX13_lay_43 (by decide) (fun c_43 => ?_) (fun c_43 => ?_)
      · exact absurd c_43 (nI_ge hi (by omega))
      · refine v_aload_n dX13_lay_46 rfl 3 rfl ?_
        refine v_getf 11 (ci := 11) (C := RX13) (T := TX13) (N := 71) rfl iwX13_lay_X13 (Nat.le_of_ble_eq_true rfl) (by decide +kernel) dX13_lay_47 (by repeat (first | with_reducible assumption | (with_reducible refine sv_us.trans ?_; exact rfl) | with_reducible refine (sv_un (by omega)).trans ?_)) (by repeat (first | with_reducible assumption | (with_reducible refine (sv_ls (by first | omega | (simp only [List.length_set]; omega))).trans ?_; exact rfl) | with_reducible refine (List.getElem?_set_ne (by decide)).trans ?_)) ?_
        refine v_iload_n dX13_lay_50 rfl 1 rfl ?_
        refine v_ialdS (v := nI (p3 i)) dX13_lay_51 (by repeat (first | with_reducible assumption | (with_reducible refine sv_us.trans ?_; exact rfl) | with_reducible refine (sv_un (by omega)).trans ?_)) (vp_in_nI (by omega) (by omega)) (by rw [nI_clamp (by omega)]; exact y6a i hi) ?_
        refine v_iload_n dX13_lay_52 rfl 0 rfl ?_
        refine v_icmp_ne (tgt := 72) dX13_lay_53 (by decide) (fun c_53 => ?_) (fun c_53 => ?_)
        · refine v_iinc (j := 1) (L' := [(2, _), (3, _), (1, _), (0, _)]) (v := nI (i + 1)) dX13_lay_72 rfl (nI_1 _) (Nat.le_of_ble_eq_true rfl) rfl ?_
          refine v_goto (tgt := 38) dX13_lay_75 (by decide) ?_
          refine v_sub (L' := [(3, _), (2, _), (1, _), (0, _)]) [1, 0, 2, 3] rfl ?_
          have e8 : (fwD np pl R hm p3 p4 0 c wy) i = [] := (by
            unfold fwD
            first
              | rw [if_neg (fun e9 => c_53 (congrArg nI e9))]
              | (split
                 · exact dS_rz (oc_zz c_69) (by omega)
                 · rfl))
          rw [e7, e8, List.nil_append] at hN hk hkx
          exact ihe (i + 1) O h fs (by omega) hN hk hkx hm9 hl hE f_occurrences f_deep MO MS frh
        · exact absurd (hr i hi) (by rw [nI_i (by omega) (by omega) c_53]; omega)
  | succ f ihf =>
    intro wy c hwc hrc hwf hwp e
    induction e with
    | zero =>
      intro i O h fs hie hN hk hkx hm9 hl hE f_occurrences f_deep MO MS frh
      have hqf := hq0.to (S := [36, 41]) hl hE (by decide)
      have hlen : fs.length = 71 := hl
      obtain ⟨_, _, _, _, _, _, ⟨g6, y6, y6a⟩, ⟨g7, y7, y7a⟩, _, _, _, yB, yC, yD, yE, yF⟩ := id MY
      have w227 : ab_I G h (b + 227) 32 g6 := (frh _ (by omega) (by omega)).trans y6
      have w228 : ab_I G h (b + 228) 32 g7 := (frh _ (by omega) (by omega)).trans y7
      obtain ⟨fst, s1, s2, s3⟩ := id MS
      have f_places := hqf.f_places
      have f_placeIn := hqf.f_placeIn
      have f_placeOf := hqf.f_placeOf
      have f_stack := hqf.f_stack
      have f_sizes := hqf.f_sizes
      have w247 : ab_I G h (b + 247) 17 fst := s1
      obtain ⟨fz, z1_, z2_⟩ := id SZ
      have w248 : ab_J G h (b + 248) 16 fz := (frh _ (by omega) (by omega)).trans z1_
      have e9 : i = pl := by omega
      refine v_iload_n dX13_lay_38 rfl 1 rfl ?_
      refine v_aload_n dX13_lay_39 rfl 3 rfl ?_
      refine v_getf 10 (ci := 11) (C := RX13) (T := TX13) (N := 71) rfl iwX13_lay_X13 (Nat.le_of_ble_eq_true rfl) (by decide +kernel) dX13_lay_40 (by repeat (first | with_reducible assumption | (with_reducible refine sv_us.trans ?_; exact rfl) | with_reducible refine (sv_un (by omega)).trans ?_)) (by repeat (first | with_reducible assumption | (with_reducible refine (sv_ls (by first | omega | (simp only [List.length_set]; omega))).trans ?_; exact rfl) | with_reducible refine (List.getElem?_set_ne (by decide)).trans ?_)) ?_
      refine v_icmp_ge (tgt := 78) dX13_lay_43 (by decide) (fun c_43 => ?_) (fun c_43 => ?_)
      · refine v_iload_n dX13_lay_78 rfl 1 rfl ?_
        refine v_aload_n dX13_lay_79 rfl 3 rfl ?_
        refine v_getf 10 (ci := 11) (C := RX13) (T := TX13) (N := 71) rfl iwX13_lay_X13 (Nat.le_of_ble_eq_true rfl) (by decide +kernel) dX13_lay_80 (by repeat (first | with_reducible assumption | (with_reducible refine sv_us.trans ?_; exact rfl) | with_reducible refine (sv_un (by omega)).trans ?_)) (by repeat (first | with_reducible assumption | (with_reducible refine (sv_ls (by first | omega | (simp only [List.length_set]; omega))).trans ?_; exact rfl) | with_reducible refine (List.getElem?_set_ne (by decide)).trans ?_)) ?_
        refine v_icmp_ge (tgt := 120) dX13_lay_83 (by decide) (fun c_83 => ?_) (fun c_83 => ?_)
        · refine v_sub (L' := [(3, _), (2, _), (1, _), (0, _)]) [0, 1, 2, 3] rfl ?_
          rw [show nI i = nI pl from congrArg nI e9]
          exact hk h fs hm9 hl hE (by rw [show dR (fwD np pl R hm p3 p4 (f + 1) c wy) i 0 = [] from rfl, List.append_nil]; exact f_occurrences) f_deep (by rw [show dR (fwD np pl R hm p3 p4 (f + 1) c wy) i 0 = [] from rfl, List.append_nil]; exact MO) MS frh
        · exact absurd (nI_le (show pl ≤ i by omega) (by omega)) c_83
      · exact absurd (nI_le (show pl ≤ i by omega) (by omega)) c_43
    | succ e ihe =>
      intro i O h fs hie hN hk hkx hm9 hl hE f_occurrences f_deep MO MS frh
      have hqf := hq0.to (S := [36, 41]) hl hE (by decide)
      have hlen : fs.length = 71 := hl
      obtain ⟨_, _, _, _, _, _, ⟨g6, y6, y6a⟩, ⟨g7, y7, y7a⟩, _, _, _, yB, yC, yD, yE, yF⟩ := id MY
      have w227 : ab_I G h (b + 227) 32 g6 := (frh _ (by omega) (by omega)).trans y6
      have w228 : ab_I G h (b + 228) 32 g7 := (frh _ (by omega) (by omega)).trans y7
      obtain ⟨fst, s1, s2, s3⟩ := id MS
      have f_places := hqf.f_places
      have f_placeIn := hqf.f_placeIn
      have f_placeOf := hqf.f_placeOf
      have f_stack := hqf.f_stack
      have f_sizes := hqf.f_sizes
      have w247 : ab_I G h (b + 247) 17 fst := s1
      obtain ⟨fz, z1_, z2_⟩ := id SZ
      have w248 : ab_J G h (b + 248) 16 fz := (frh _ (by omega) (by omega)).trans z1_
      have hi : i < pl := by omega
      have h34 := yF i hi
      have e7 : dR (fwD np pl R hm p3 p4 (f + 1) c wy) i (e + 1) = (fwD np pl R hm p3 p4 (f + 1) c wy) i ++ dR (fwD np pl R hm p3 p4 (f + 1) c wy) (i + 1) e := rfl
      have ncc : c < 16 := (by
        have : c < nc := (by
          rw [← hwc]
          unfold mcl
          split
          · exact htop
          · exact (yF _ (hwp _ (getD_mem 0 (by omega)))).2)
        omega)
      refine v_iload_n dX13_lay_38 rfl 1 rfl ?_
      refine v_aload_n dX13_lay_39 rfl 3 rfl ?_
      refine v_getf 10 (ci := 11) (C := RX13) (T := TX13) (N := 71) rfl iwX13_lay_X13 (Nat.le_of_ble_eq_true rfl) (by decide +kernel) dX13_lay_40 (by repeat (first | with_reducible assumption | (with_reducible refine sv_us.trans ?_; exact rfl) | with_reducible refine (sv_un (by omega)).trans ?_)) (by repeat (first | with_reducible assumption | (with_reducible refine (sv_ls (by first | omega | (simp only [List.length_set]; omega))).trans ?_; exact rfl) | with_reducible refine (List.getElem?_set_ne (by decide)).trans ?_)) ?_
      refine v_icmp_ge (tgt := 78) dX13_lay_43 (by decide) (fun c_43 => ?_) (fun c_43 => ?_)
      · exact absurd c_43 (nI_ge hi (by omega))
      · refine v_aload_n dX13_lay_46 rfl 3 rfl ?_
        refine v_getf 11 (ci := 11) (C := RX13) (T := TX13) (N := 71) rfl iwX13_lay_X13 (Nat.le_of_ble_eq_true rfl) (by decide +kernel) dX13_lay_47 (by repeat (first | with_reducible assumption | (with_reducible refine sv_us.trans ?_; exact rfl) | with_reducible refine (sv_un (by omega)).trans ?_)) (by repeat (first | with_reducible assumption | (with_reducible refine (sv_ls (by first | omega | (simp only [List.length_set]; omega))).trans ?_; exact rfl) | with_reducible refine (List.getElem?_set_ne (by decide)).trans ?_)) ?_
        refine v_iload_n dX13_lay_50 rfl 1 rfl ?_
        refine v_ialdS (v := nI (p3 i)) dX13_lay_51 (by repeat (first | with_reducible assumption | (with_reducible refine sv_us.trans ?_; exact rfl) | with_reducible refine (sv_un (by omega)).trans ?_)) (vp_in_nI (by omega) (by omega)) (by rw [nI_clamp (by omega)]; exact y6a i hi) ?_
        refine v_iload_n dX13_lay_52 rfl 0 rfl ?_
        refine v_icmp_ne (tgt := 72) dX13_lay_53 (by decide) (fun c_53 => ?_) (fun c_53 => ?_)
        · refine v_iinc (j := 1) (L' := [(2, _), (3, _), (1, _), (0, _)]) (v := nI (i + 1)) dX13_lay_72 rfl (nI_1 _) (Nat.le_of_ble_eq_true rfl) rfl ?_
          refine v_goto (tgt := 38) dX13_lay_75 (by decide) ?_
          refine v_sub (L' := [(3, _), (2, _), (1, _), (0, _)]) [1, 0, 2, 3] rfl ?_
          have e8 : (fwD np pl R hm p3 p4 (f + 1) c wy) i = [] := (by
            unfold fwD
            first
              | rw [if_neg (fun e9 => c_53 (congrArg nI e9))]
              | (split
                 · exact dS_rz (oc_zz c_69) (by omega)
                 · rfl))
          rw [e7, e8, List.nil_append] at hN hk hkx
          exact ihe (i + 1) O h fs (by omega) hN hk hkx hm9 hl hE f_occurrences f_deep MO MS frh
        · refine v_aload_n dX13_lay_56 rfl 3 rfl ?_
          refine v_getf 42 (ci := 11) (C := RX13) (T := TX13) (N := 71) rfl iwX13_lay_X13 (Nat.le_of_ble_eq_true rfl) (by decide +kernel) dX13_lay_57 (by repeat (first | with_reducible assumption | (with_reducible refine sv_us.trans ?_; exact rfl) | with_reducible refine (sv_un (by omega)).trans ?_)) (by repeat (first | with_reducible assumption | (with_reducible refine (sv_ls (by first | omega | (simp only [List.length_set]; omega))).trans ?_; exact rfl) | with_reducible refine (List.getElem?_set_ne (by decide)).trans ?_)) ?_
          refine v_aload_n dX13_lay_60 rfl 3 rfl ?_
          refine v_getf 12 (ci := 11) (C := RX13) (T := TX13) (N := 71) rfl iwX13_lay_X13 (Nat.le_of_ble_eq_true rfl) (by decide +kernel) dX13_lay_61 (by repeat (first | with_reducible assumption | (with_reducible refine sv_us.trans ?_; exact rfl) | with_reducible refine (sv_un (by omega)).trans ?_)) (by repeat (first | with_reducible assumption | (with_reducible refine (sv_ls (by first | omega | (simp only [List.length_set]; omega))).trans ?_; exact rfl) | with_reducible refine (List.getElem?_set_ne (by decide)).trans ?_)) ?_
          refine v_iload_n dX13_lay_64 rfl 1 rfl ?_
          refine v_ialdS (v := nI (p4 i)) dX13_lay_65 (by repeat (first | with_reducible assumption | (with_reducible refine sv_us.trans ?_; exact rfl) | with_reducible refine (sv_un (by omega)).trans ?_)) (vp_in_nI (by omega) (by omega)) (by rw [nI_clamp (by omega)]; exact y7a i hi) ?_
          refine v_laldS (v := lN (min 100000 (oc_n np pl R hm p3 p4 16 (p4 i)))) dX13_lay_66 (by repeat (first | with_reducible assumption | (with_reducible refine sv_us.trans ?_; exact rfl) | with_reducible refine (sv_un (by omega)).trans ?_)) (vp_in_nI (by omega) (by omega)) (by rw [nI_clamp (by omega)]; exact z2_ _ h34.2) ?_
          refine v_lconst (v := 0) dX13_lay_67 (by decide) ?_
          refine v_lcmp_ne (tgt := 78) dX13_lay_68 dX13_lay_69 (by decide) (fun c_69 => ?_) (fun c_69 => ?_)
          · refine v_iload_n dX13_lay_78 rfl 1 rfl ?_
            refine v_aload_n dX13_lay_79 rfl 3 rfl ?_
            refine v_getf 10 (ci := 11) (C := RX13) (T := TX13) (N := 71) rfl iwX13_lay_X13 (Nat.le_of_ble_eq_true rfl) (by decide +kernel) dX13_lay_80 (by repeat (first | with_reducible assumption | (with_reducible refine sv_us.trans ?_; exact rfl) | with_reducible refine (sv_un (by omega)).trans ?_)) (by repeat (first | with_reducible assumption | (with_reducible refine (sv_ls (by first | omega | (simp only [List.length_set]; omega))).trans ?_; exact rfl) | with_reducible refine (List.getElem?_set_ne (by decide)).trans ?_)) ?_
            refine v_icmp_ge (tgt := 120) dX13_lay_83 (by decide) (fun c_83 => ?_) (fun c_83 => ?_)
            · exact absurd c_83 (nI_ge hi (by omega))
            · have e53 : p3 i = c := nI_i (by omega) (by omega) c_53
              refine v_aload_n dX13_lay_86 rfl 3 rfl ?_
              refine v_getf 40 (ci := 11) (C := RX13) (T := TX13) (N := 71) rfl iwX13_lay_X13 (Nat.le_of_ble_eq_true rfl) (by decide +kernel) dX13_lay_87 (by repeat (first | with_reducible assumption | (with_reducible refine sv_us.trans ?_; exact rfl) | with_reducible refine (sv_un (by omega)).trans ?_)) (by repeat (first | with_reducible assumption | (with_reducible refine (sv_ls (by first | omega | (simp only [List.length_set]; omega))).trans ?_; exact rfl) | with_reducible refine (List.getElem?_set_ne (by decide)).trans ?_)) ?_
              refine v_aload_n dX13_lay_90 rfl 3 rfl ?_
              refine v_getf 41 (ci := 11) (C := RX13) (T := TX13) (N := 71) rfl iwX13_lay_X13 (Nat.le_of_ble_eq_true rfl) (by decide +kernel) dX13_lay_91 (by repeat (first | with_reducible assumption | (with_reducible refine sv_us.trans ?_; exact rfl) | with_reducible refine (sv_un (by omega)).trans ?_)) (by repeat (first | with_reducible assumption | (with_reducible refine (sv_ls (by first | omega | (simp only [List.length_set]; omega))).trans ?_; exact rfl) | with_reducible refine (List.getElem?_set_ne (by decide)).trans ?_)) ?_
              refine v_iload_n dX13_lay_94 rfl 1 rfl ?_
              refine v_iast dX13_lay_95 (by repeat (first | with_reducible assumption | (with_reducible refine sv_us.trans ?_; exact rfl) | with_reducible refine (sv_un (by omega)).trans ?_)) (vp_in_nI (by omega) (by omega)) ?_
              refine v_aload_n dX13_lay_96 rfl 3 rfl ?_
              refine v_dup dX13_lay_97 rfl ?_
              refine v_getf 41 (ci := 11) (C := RX13) (T := TX13) (N := 71) rfl iwX13_lay_X13 (Nat.le_of_ble_eq_true rfl) (by decide +kernel) dX13_lay_98 (by repeat (first | with_reducible assumption | (with_reducible refine sv_us.trans ?_; exact rfl) | with_reducible refine (sv_un (by omega)).trans ?_)) (by repeat (first | with_reducible assumption | (with_reducible refine (sv_ls (by first | omega | (simp only [List.length_set]; omega))).trans ?_; exact rfl) | with_reducible refine (List.getElem?_set_ne (by decide)).trans ?_)) ?_
              refine v_iconst (v := 1) dX13_lay_101 (by decide) ?_
              refine v_iadd dX13_lay_102 ?_
              rw [show nI wy.length + 1 = nI (wy ++ [i]).length from by rw [List.length_append]; exact nI_1 _]
              refine v_putf 41 (fs' := _) (ci := 11) (C := RX13) (T := TX13) (N := 71) (ty := .int) rfl iwX13_lay_X13 tyX13 tyX13_ok nmX13 (Nat.le_of_ble_eq_true rfl) (by decide +kernel) rfl rfl dX13_lay_103 rfl rfl (by repeat (first | with_reducible assumption | (with_reducible refine sv_us.trans ?_; exact rfl) | with_reducible refine (sv_un (by omega)).trans ?_)) (by first | omega | (simp only [List.length_set]; omega)) rfl ?_
              rw [nI_clamp (show wy.length < 2 ^ 31 by omega)]
              have hq2 := hq0.to (S := [36, 41]) (fs1 := (fs.set 41 (.int (nI (wy ++ [i]).length)))) (by rw [List.length_set]; exact hl) (hE.st (by decide)) (by decide)
              have MS2 : mst_ G (va_up (va_up h (b + 247) (some (.inl (G.2.2.1 0, 17, .inl (upd fst wy.length (nI i)))))) (b + 220) (some (.inr (11, fs.set 41 (.int (nI (wy ++ [i]).length)))))) b (wy ++ [i]) := mst_s s3 ((sv_un (by omega)).trans sv_us) (by omega)
              have MY2 : myl_ G (va_up (va_up h (b + 247) (some (.inl (G.2.2.1 0, 17, .inl (upd fst wy.length (nI i)))))) (b + 220) (some (.inr (11, fs.set 41 (.int (nI (wy ++ [i]).length)))))) b nc np pl R hm p3 p4 sz ly vo mp X Y := MY.kp (fun a p1 p2 => ((sv_un (by omega)).trans (sv_un (by omega))).trans (frh a (by omega) (by omega)))
              have d2 : (fs.set 41 (.int (nI (wy ++ [i]).length)))[41]? = some (.int (nI (wy ++ [i]).length)) := sv_ls (by omega)
              have wp2 : ∀ j, j ∈ wy ++ [i] → j < pl := fun j hj => (by
                rcases List.mem_append.mp hj with q | q
                · exact hwp j q
                · rw [List.mem_singleton.mp q]; exact hi)
              have hl2 : (wy ++ [i]).length + f ≤ 15 := (by rw [List.length_append]; show wy.length + 1 + f ≤ 15; omega)
              have e8 : (fwD np pl R hm p3 p4 (f + 1) c wy) i = dO np (rQ R hm) (p4 i) (wy ++ [i]) ++ dR (fwD np pl R hm p3 p4 f (p4 i) (wy ++ [i])) 0 pl := (by
                unfold fwD
                rw [if_pos e53]
                exact dS_fw np pl R hm p3 p4 f (p4 i) (wy ++ [i]))
              have hN2 : O.length + ((dO np (rQ R hm) (p4 i) (wy ++ [i])).length + (dR (fwD np pl R hm p3 p4 f (p4 i) (wy ++ [i])) 0 pl).length + (dR (fwD np pl R hm p3 p4 (f + 1) c wy) (i + 1) e).length) ≤ 100 := (by
                rw [e7, e8, List.length_append, List.length_append] at hN
                exact hN)
              refine v_aload_n dX13_lay_106 rfl 3 rfl ?_
              refine v_aload_n dX13_lay_107 rfl 3 rfl ?_
              refine v_iload_n dX13_lay_108 rfl 2 rfl ?_
              refine v_callVq (M' := mX13_cellAt) (n := 1) (As := [_]) (ci := 11) (r := (RX13, TX13, 71)) gX13_lay_X13_cellAt rfl (by decide +kernel) ⟨(Nat.le_of_ble_eq_true rfl), (Nat.le_of_ble_eq_true rfl)⟩ rfl rfl dX13_lay_109 rfl ⟨(Nat.le_of_ble_eq_true rfl), (Nat.le_of_ble_eq_true rfl)⟩ (Nat.le_of_ble_eq_true rfl) (by repeat (first | with_reducible assumption | (with_reducible refine sv_us.trans ?_; exact rfl) | with_reducible refine (sv_un (by omega)).trans ?_)) rfl (m_cellAt G _ b nc np pl R hm p3 p4 sz ly vo mp X Y (va_up (va_up h (b + 247) (some (.inl (G.2.2.1 0, 17, .inl (upd fst wy.length (nI i)))))) (b + 220) (some (.inr (11, fs.set 41 (.int (nI (wy ++ [i]).length)))))) (fs.set 41 (.int (nI (wy ++ [i]).length))) hq2 MY2 _ MS2 d2 wp2 sv_us top) (fun v9 h9 y9 hq => v_pq hq ?_)
              refine v_callVq (M' := mX13_take) (n := 1) (As := [_]) (ci := 11) (r := (RX13, TX13, 71)) gX13_lay_X13_take rfl (by decide +kernel) ⟨(Nat.le_of_ble_eq_true rfl), (Nat.le_of_ble_eq_true rfl)⟩ rfl rfl dX13_lay_112 rfl ⟨(Nat.le_of_ble_eq_true rfl), (Nat.le_of_ble_eq_true rfl)⟩ (Nat.le_of_ble_eq_true rfl) (by repeat (first | with_reducible assumption | (with_reducible refine sv_us.trans ?_; exact rfl) | with_reducible refine (sv_un (by omega)).trans ?_)) rfl (m_takeC G _ b nc np pl R hm p3 p4 sz ly vo mp X Y (va_up (va_up h (b + 247) (some (.inl (G.2.2.1 0, 17, .inl (upd fst wy.length (nI i)))))) (b + 220) (some (.inr (11, fs.set 41 (.int (nI (wy ++ [i]).length)))))) (fs.set 41 (.int (nI (wy ++ [i]).length))) hq2 MY2 (wy ++ [i]) MS2 (by omega) d2 (mcl p4 top (wy ++ [i]) (wy ++ [i]).length) (by rw [mcl_a]; omega) O (by rw [mcl_a]; omega) hXY hR (MO.kp (fun a p1 p2 => (sv_un (by omega)).trans (sv_un (by omega)))) ((List.getElem?_set_ne (by decide)).trans f_occurrences) sv_us) (fun v9 h1 z1 hq9 => ?_)
              rw [mcl_a] at hq9
              obtain ⟨rfl, rfl, fs1, u1, u2, u3, u4, u5, u6⟩ := hq9
              refine v_iconst (v := 0) dX13_lay_115 (by decide) ?_
              refine v_istore_n (L' := [(2, _), (3, _), (1, _), (0, _)]) dX13_lay_116 rfl (Nat.le_of_ble_eq_true rfl) rfl ?_
              refine v_goto (tgt := 175) dX13_lay_117 (by decide) ?_
              refine v_goto (tgt := 17) dX13_lay_175 (by decide) ?_
              refine v_sub (L' := [(2, _), (1, _), (0, _)]) [0, 2, 3] rfl ?_
              have A1 : fsE [36, 41] fs0 fs1 := (hE.st (by decide)).tr (u3.up (by decide))
              have d3 : fs1[41]? = some (.int (nI (wy ++ [i]).length)) := (u3 41 (by decide)).trans d2
              have MS3 : mst_ G h1 b (wy ++ [i]) := MS2.kp (u6 _ (by omega) (by omega))
              have fr3 : ∀ a, a ≠ b + 220 → ¬ (b + 244 ≤ a ∧ a < b + 248) → h1 a = hb a := fun a p1 p2 => (u6 a p1 (by omega)).trans ((sv_un p1).trans ((sv_un (by omega)).trans (frh a p1 p2)))
              have hwm : mcl p4 top (wy ++ [i]) (wy ++ [i]).length = p4 i := mcl_a p4 top wy i
              have hpos : 0 < (wy ++ [i]).length := (by rw [List.length_append]; exact Nat.succ_pos _)
              refine t_ly17 G _ _ b nc np pl R hm p3 p4 sz ly vo mp X Y hb fs0 hq0 MY top htop (wy ++ [i]) wp2 0 (Nat.zero_le _) (Or.inl hpos) (O ++ dO np (rQ R hm) (p4 i) (wy ++ [i])) h1 fs1 u1 u2 A1 u4 d3 u5 MS3 fr3 ?_
              rw [hwm]
              refine ihf (wy ++ [i]) (p4 i) hwm (by have := hr i hi; rw [e53] at this; omega) hl2 wp2 pl 0 (O ++ dO np (rQ R hm) (p4 i) (wy ++ [i])) h1 fs1 (Nat.zero_add _) (by rw [List.length_append]; omega) ?_ (fun e9 => absurd e9 (by intro e8_; rw [e8_] at hpos; exact absurd hpos (by decide))) u1 u2 A1 u4 d3 u5 MS3 fr3
              intro h3 fs3 b1 b2 b3 b4 b5 b6 b7 b8
              refine t_ly120 G _ _ b nc np pl R hm p3 p4 sz ly vo mp X Y hb fs0 hq0 MY top htop wy (p4 i) pl i hi _ h3 fs3 b1 b2 b3 b4 b5 b6 b7 b8 ?_
              intro h4 fs4 d1_ d2_ d3_ d4_ d5_ d6_ d7_ d8_
              have e6 : O ++ dO np (rQ R hm) (p4 i) (wy ++ [i]) ++ dR (fwD np pl R hm p3 p4 f (p4 i) (wy ++ [i])) 0 pl = O ++ (fwD np pl R hm p3 p4 (f + 1) c wy) i := (by rw [e8, List.append_assoc])
              rw [e6] at d4_ d6_
              have hk2 := hk
              have hkx2 := hkx
              rw [e7, ← List.append_assoc] at hk2 hkx2
              have hN3 : (O ++ (fwD np pl R hm p3 p4 (f + 1) c wy) i).length + (dR (fwD np pl R hm p3 p4 (f + 1) c wy) (i + 1) e).length ≤ 100 := (by rw [← e6, List.length_append, List.length_append]; omega)
              by_cases hex : 0 < wy.length ∨ i + 1 < pl
              · refine t_ly17 G _ _ b nc np pl R hm p3 p4 sz ly vo mp X Y hb fs0 hq0 MY top htop wy hwp (i + 1) (by omega) hex _ h4 fs4 d1_ d2_ d3_ d4_ d5_ d6_ d7_ d8_ ?_
                rw [hwc]
                exact ihe (i + 1) (O ++ (fwD np pl R hm p3 p4 (f + 1) c wy) i) h4 fs4 (by omega) hN3 hk2 hkx2 d1_ d2_ d3_ d4_ d5_ d6_ d7_ d8_
              · have e5 : wy = [] := List.eq_nil_of_length_eq_zero (by omega)
                have e4 : e = 0 := by omega
                have e3 : i + 1 = pl := by omega
                rw [e3]
                refine hkx2 e5 h4 fs4 d1_ d2_ d3_ ?_ d5_ ?_ d7_ d8_
                · rw [e4, show dR (fwD np pl R hm p3 p4 (f + 1) c wy) (i + 1) 0 = [] from rfl, List.append_nil]; exact d4_
                · rw [e4, show dR (fwD np pl R hm p3 p4 (f + 1) c wy) (i + 1) 0 = [] from rfl, List.append_nil]; exact d6_
          · refine v_iinc (j := 1) (L' := [(2, _), (3, _), (1, _), (0, _)]) (v := nI (i + 1)) dX13_lay_72 rfl (nI_1 _) (Nat.le_of_ble_eq_true rfl) rfl ?_
            refine v_goto (tgt := 38) dX13_lay_75 (by decide) ?_
            refine v_sub (L' := [(3, _), (2, _), (1, _), (0, _)]) [1, 0, 2, 3] rfl ?_
            have e8 : (fwD np pl R hm p3 p4 (f + 1) c wy) i = [] := (by
              unfold fwD
              first
                | rw [if_neg (fun e9 => c_53 (congrArg nI e9))]
                | (split
                   · exact dS_rz (oc_zz c_69) (by omega)
                   · rfl))
            rw [e7, e8, List.nil_append] at hN hk hkx
            exact ihe (i + 1) O h fs (by omega) hN hk hkx hm9 hl hE f_occurrences f_deep MO MS frh

set_option maxHeartbeats 4000000 in
set_option maxRecDepth 100000 in
theorem m_lay (G : sv_G) (z b nc np pl : Nat) (R : Nat → Bool) (hm p3 p4 sz : Nat → Nat) (ly vo : Nat → Int32) (mp : Nat → mvT) (X Y : Nat → Nat → Int) (hb : sv_h) (fs0 : List Value) (hq0 : mfq_ b nc np pl fs0) (MY : myl_ G hb b nc np pl R hm p3 p4 sz ly vo mp X Y) (top : Nat) (htop : top < nc) (hXY : ∀ p, p < np → ∀ i, i < sz p → (-10000 ≤ X p i ∧ X p i ≤ 10000) ∧ (-10000 ≤ Y p i ∧ Y p i ≤ 10000)) (hR : ∀ p, p < np → (R p = true ↔ gm_mr (sz p) (fun i => iN (X p i)) (fun i => iN (Y p i)))) (SZ : ∃ fz, ab_J G hb (b + 248) 16 fz ∧ ∀ d, d < nc → fz d = lN (min 100000 (oc_n np pl R hm p3 p4 16 d))) (rk : Nat → Nat) (hr : ∀ i, i < pl → rk (p4 i) < rk (p3 i)) (hrn : ∀ c, c < nc → rk c < nc) (hN : oc_n np pl R hm p3 p4 16 top ≤ 100) (A44 : ∃ f, ab_I G hb (b + 244) 100 f) (A45 : ∃ f, ab_I G hb (b + 245) 100 f) (A46 : ∃ f, ab_I G hb (b + 246) 1616 f) (A47 : ∃ f, ab_I G hb (b + 247) 17 f) (hm9 : hb (b + 220) = some (.inr (11, fs0))) : CT G mX13_lay [.ref (b + 220), .int (nI top)] hb z (fun v9 h1 z1 => v9 = none ∧ z1 = z ∧ ∃ fs1, h1 (b + 220) = some (.inr (11, fs1)) ∧ fs1.length = 71 ∧ fsE [36, 41] fs0 fs1 ∧ fs1[36]? = some (.int (nI (dS np pl (rQ R hm) p3 p4 16 top []).length)) ∧ moc_ G h1 b (dS np pl (rQ R hm) p3 p4 16 top []) ∧ (∃ f, ab_I G h1 (b + 247) 17 f) ∧ ∀ a, a ≠ b + 220 → ¬ (b + 244 ≤ a ∧ a < b + 248) → h1 a = hb a) := by
  refine CT.of (by decide +kernel) rfl rfl (Nat.le_of_ble_eq_true rfl) ?_
  have hlen : fs0.length = 71 := hq0.1
  obtain ⟨_, _, _, _, _, _, _, _, _, _, _, yB, yC, yD, yE, yF⟩ := id MY
  obtain ⟨f44, v44⟩ := A44
  obtain ⟨f45, v45⟩ := A45
  obtain ⟨f46, v46⟩ := A46
  obtain ⟨f47, v47⟩ := A47
  have hD9 : (dS np pl (rQ R hm) p3 p4 16 top []).length = (dO np (rQ R hm) top []).length + (dR (fwD np pl R hm p3 p4 15 top []) 0 pl).length := (by rw [dS_fw, List.length_append])
  have hDN : (dS np pl (rQ R hm) p3 p4 16 top []).length ≤ 100 := Nat.le_trans (dS_len (R := R) (hm := hm) (fun c p q => rQ_iff.mp q) 16 top []) hN
  refine v_aload_n dX13_lay_0 rfl 0 rfl ?_
  refine v_iconst (v := 0) dX13_lay_1 (by decide) ?_
  refine v_putf 36 (fs' := _) (ci := 11) (C := RX13) (T := TX13) (N := 71) (ty := .int) rfl iwX13_lay_X13 tyX13 tyX13_ok nmX13 (Nat.le_of_ble_eq_true rfl) (by decide +kernel) rfl rfl dX13_lay_2 rfl rfl (by repeat (first | with_reducible assumption | (with_reducible refine sv_us.trans ?_; exact rfl) | with_reducible refine (sv_un (by omega)).trans ?_)) (by first | omega | (simp only [List.length_set]; omega)) rfl ?_
  refine v_aload_n dX13_lay_5 rfl 0 rfl ?_
  refine v_iconst (v := 0) dX13_lay_6 (by decide) ?_
  refine v_putf 41 (fs' := _) (ci := 11) (C := RX13) (T := TX13) (N := 71) (ty := .int) rfl iwX13_lay_X13 tyX13 tyX13_ok nmX13 (Nat.le_of_ble_eq_true rfl) (by decide +kernel) rfl rfl dX13_lay_7 rfl rfl (by repeat (first | with_reducible assumption | (with_reducible refine sv_us.trans ?_; exact rfl) | with_reducible refine (sv_un (by omega)).trans ?_)) (by first | omega | (simp only [List.length_set]; omega)) rfl ?_
  refine v_aload_n dX13_lay_10 rfl 0 rfl ?_
  refine v_iload_n dX13_lay_11 rfl 1 rfl ?_
  refine v_callVq (M' := mX13_take) (n := 1) (As := [_]) (ci := 11) (r := (RX13, TX13, 71)) gX13_lay_X13_take rfl (by decide +kernel) ⟨(Nat.le_of_ble_eq_true rfl), (Nat.le_of_ble_eq_true rfl)⟩ rfl rfl dX13_lay_12 rfl ⟨(Nat.le_of_ble_eq_true rfl), (Nat.le_of_ble_eq_true rfl)⟩ (Nat.le_of_ble_eq_true rfl) (by repeat (first | with_reducible assumption | (with_reducible refine sv_us.trans ?_; exact rfl) | with_reducible refine (sv_un (by omega)).trans ?_)) rfl (m_takeC G _ b nc np pl R hm p3 p4 sz ly vo mp X Y _ ((fs0.set 36 (.int 0)).set 41 (.int 0)) (hq0.to (S := [36, 41]) (by rw [List.length_set, List.length_set]; exact hq0.1) ((fsE.rf.st (by decide)).st (by decide)) (by decide)) (MY.kp (fun a p1 p2 => (sv_un (by omega)).trans (sv_un (by omega)))) [] ⟨f47, (sv_un (by omega)).trans ((sv_un (by omega)).trans v47), by decide, fun k hk => absurd hk (Nat.not_lt_zero k)⟩ (by decide) (sv_ls (by rw [List.length_set]; omega)) top (by omega) [] (by rw [List.length_nil]; omega) hXY hR ⟨f44, f45, f46, (sv_un (by omega)).trans ((sv_un (by omega)).trans v44), (sv_un (by omega)).trans ((sv_un (by omega)).trans v45), (sv_un (by omega)).trans ((sv_un (by omega)).trans v46), by decide, fun o ho => absurd ho (Nat.not_lt_zero o)⟩ ((List.getElem?_set_ne (by decide)).trans (sv_ls (by omega))) sv_us) (fun v9 h1 z1 hq9 => ?_)
  obtain ⟨rfl, rfl, fs1, u1, u2, u3, u4, u5, u6⟩ := hq9
  refine v_iconst (v := 0) dX13_lay_15 (by decide) ?_
  refine v_istore_n (L' := [(2, _), (0, _), (1, _)]) dX13_lay_16 rfl (Nat.le_of_ble_eq_true rfl) rfl ?_
  refine v_sub (L' := [(2, _), (1, _), (0, _)]) [0, 2, 1] rfl ?_
  have A1 : fsE [36, 41] fs0 fs1 := ((fsE.rf.st (by decide)).st (by decide)).tr (u3.up (by decide))
  have d3 : fs1[41]? = some (.int (nI ([] : List Nat).length)) := (u3 41 (by decide)).trans (sv_ls (by rw [List.length_set]; omega))
  have MS3 : mst_ G h1 b [] := ⟨f47, (u6 _ (by omega) (by omega)).trans ((sv_un (by omega)).trans ((sv_un (by omega)).trans v47)), by decide, fun k hk => absurd hk (Nat.not_lt_zero k)⟩
  have fr3 : ∀ a, a ≠ b + 220 → ¬ (b + 244 ≤ a ∧ a < b + 248) → h1 a = hb a := fun a p1 p2 => (u6 a p1 (by omega)).trans ((sv_un p1).trans (sv_un p1))
  have hfin : ∀ (h : sv_h) (fs : List Value), h (b + 220) = some (.inr (11, fs)) → fs.length = 71 → fsE [36, 41] fs0 fs → fs[36]? = some (.int (nI (dS np pl (rQ R hm) p3 p4 16 top []).length)) → fs[41]? = some (.int (nI (([] : List Nat)).length)) → moc_ G h b (dS np pl (rQ R hm) p3 p4 16 top []) → mst_ G h b (([] : List Nat)) → (∀ a, a ≠ b + 220 → ¬ (b + 244 ≤ a ∧ a < b + 248) → h a = hb a) → V G mX13_lay (sv_MQ G mX13_lay (fun v9 h1 z9 => v9 = none ∧ z9 = z1 ∧ ∃ fs1, h1 (b + 220) = some (.inr (11, fs1)) ∧ fs1.length = 71 ∧ fsE [36, 41] fs0 fs1 ∧ fs1[36]? = some (.int (nI (dS np pl (rQ R hm) p3 p4 16 top []).length)) ∧ moc_ G h1 b (dS np pl (rQ R hm) p3 p4 16 top []) ∧ (∃ f, ab_I G h1 (b + 247) 17 f) ∧ ∀ a, a ≠ b + 220 → ¬ (b + 244 ≤ a ∧ a < b + 248) → h1 a = hb a)) 17 [(2, .int (nI pl)), (1, .int (nI top)), (0, .ref (b + 220))] [] h z1 0 0 := (by
    intro h fs hm9 hl hE f_occurrences f_deep MO MS frh
    have hlen2 : fs.length = 71 := hl
    have hqf := hq0.to (S := [36, 41]) hl hE (by decide)
    have f_places := hqf.f_places
    refine v_aload_n dX13_lay_17 rfl 2 rfl ?_
    refine v_getf 41 (ci := 11) (C := RX13) (T := TX13) (N := 71) rfl iwX13_lay_X13 (Nat.le_of_ble_eq_true rfl) (by decide +kernel) dX13_lay_18 (by first | with_reducible assumption) (by repeat (first | with_reducible assumption | (with_reducible refine (sv_ls (by first | omega | (simp only [List.length_set]; omega))).trans ?_; exact rfl) | with_reducible refine (List.getElem?_set_ne (by decide)).trans ?_)) ?_
    refine v_if_gt (tgt := 32) dX13_lay_21 (by decide) (fun c_21 => ?_) (fun c_21 => ?_)
    · exact absurd c_21 (by decide)
    · refine v_iload_n dX13_lay_24 rfl 0 rfl ?_
      refine v_aload_n dX13_lay_25 rfl 2 rfl ?_
      refine v_getf 10 (ci := 11) (C := RX13) (T := TX13) (N := 71) rfl iwX13_lay_X13 (Nat.le_of_ble_eq_true rfl) (by decide +kernel) dX13_lay_26 (by first | with_reducible assumption) (by repeat (first | with_reducible assumption | (with_reducible refine (sv_ls (by first | omega | (simp only [List.length_set]; omega))).trans ?_; exact rfl) | with_reducible refine (List.getElem?_set_ne (by decide)).trans ?_)) ?_
      refine v_icmp_ge (tgt := 178) dX13_lay_29 (by decide) (fun c_29 => ?_) (fun c_29 => ?_)
      · exact v_ret rfl dX13_lay_178 (Nat.le_of_ble_eq_true rfl) (Nat.le_of_ble_eq_true rfl) ⟨rfl, rfl, fs, hm9, hl, hE, f_occurrences, MO, ⟨_, MS.choose_spec.1⟩, frh⟩
      · exact absurd (nI_le (Nat.le_refl _) (by omega)) c_29)
  by_cases hz9 : 0 < pl
  · refine t_ly17 G _ _ b nc np pl R hm p3 p4 sz ly vo mp X Y hb fs0 hq0 MY top htop [] (fun i hi => absurd hi (List.not_mem_nil)) 0 (Nat.zero_le _) (Or.inr hz9) _ h1 fs1 u1 u2 A1 u4 d3 u5 MS3 fr3 ?_
    refine l_lay G _ _ b nc np pl R hm p3 p4 sz ly vo mp X Y hb fs0 hq0 MY top htop hXY hR SZ rk hr 15 [] top rfl (by have := hrn top htop; omega) (by decide) (fun i hi => absurd hi (List.not_mem_nil)) pl 0 _ h1 fs1 (Nat.zero_add _) ?_ ?_ ?_ u1 u2 A1 u4 d3 u5 MS3 fr3
    · rw [List.nil_append, hD9] at *
      omega
    · intro h3 fs3 b1 b2 b3 b4 b5 b6 b7 b8
      refine t_ly120z G _ _ b nc np pl R hm p3 p4 sz ly vo mp X Y hb fs0 hq0 MY top htop top pl _ h3 fs3 b1 b2 b3 b4 b5 b6 b7 b8 ?_
      intro h4 fs4 d1_ d2_ d3_ d4_ d5_ d6_ d7_ d8_
      rw [List.nil_append, ← dS_fw] at d4_ d6_
      exact hfin h4 fs4 d1_ d2_ d3_ d4_ d5_ d6_ d7_ d8_
    · intro _ h4 fs4 d1_ d2_ d3_ d4_ d5_ d6_ d7_ d8_
      rw [List.nil_append, ← dS_fw] at d4_ d6_
      exact hfin h4 fs4 d1_ d2_ d3_ d4_ d5_ d6_ d7_ d8_
  · have e9 : pl = 0 := by omega
    have e8 : dO np (rQ R hm) top [] = dS np pl (rQ R hm) p3 p4 16 top [] := (by rw [dS_fw, show dR (fwD np pl R hm p3 p4 15 top []) 0 pl = [] from dR_z e9, List.append_nil])
    rw [List.nil_append, e8] at u4 u5
    have hh := hfin h1 fs1 u1 u2 A1 u4 d3 u5 MS3 fr3
    rw [show nI pl = (0 : Int32) from (congrArg nI e9).trans rfl] at hh
    exact hh

