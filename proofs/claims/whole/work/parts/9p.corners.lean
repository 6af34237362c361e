theorem iwX8_listCorners_X5 : ∀ w ∈ wsX50, w ∈ wsX8_listCorners := by decide +kernel
theorem iwX8_listCorners_X8 : ∀ w ∈ wsX80, w ∈ wsX8_listCorners := by decide +kernel
set_option maxRecDepth 20000 in
theorem ggX8_listCorners_X8_polygonOf : GoodIn wsX8_listCorners wsX8_polygonOf := goodIn_r _ [13, 14, 15, 16, 28, 29, 30, 31, 32, 33, 34, 35, 36, 37, 38, 39, 40, 41, 52, 53, 54, 55, 56, 57, 58, 59, 60, 61] (by decide +kernel) (by decide +kernel)
set_option maxRecDepth 20000 in
theorem gX8_listCorners_X8_polygonOf : GoodIn wsX8_listCorners (wsV RX8 143 RX8 yX8_polygonOf wsX8_polygonOf) := goodIn_app (goodIn_of _ (by decide +kernel)) ggX8_listCorners_X8_polygonOf
set_option maxRecDepth 20000 in
theorem ggX8_listCorners_X4_cornerOf : GoodIn wsX8_listCorners wsX4_cornerOf := goodIn_r _ [21, 22, 23, 24, 25, 20, 26, 27, 62, 63, 64, 65] (by decide +kernel) (by decide +kernel)
set_option maxRecDepth 20000 in
theorem gX8_listCorners_X4_cornerOf : GoodIn wsX8_listCorners (wsV RX8 182 RX4 yX4_cornerOf wsX4_cornerOf) := goodIn_app (goodIn_of _ (by decide +kernel)) ggX8_listCorners_X4_cornerOf
theorem dX8_listCorners_0 : decode cX8_listCorners 0 = .ok (.aload_n 0, 1) := by decide +kernel
theorem dX8_listCorners_1 : decode cX8_listCorners 1 = .ok (.iload_n 1, 1) := by decide +kernel
theorem dX8_listCorners_2 : decode cX8_listCorners 2 = .ok (.invokevirtual 143, 3) := by decide +kernel
theorem dX8_listCorners_5 : decode cX8_listCorners 5 = .ok (.astore_n 2, 1) := by decide +kernel
theorem dX8_listCorners_6 : decode cX8_listCorners 6 = .ok (.aload_n 0, 1) := by decide +kernel
theorem dX8_listCorners_7 : decode cX8_listCorners 7 = .ok (.getfield 39, 3) := by decide +kernel
theorem dX8_listCorners_10 : decode cX8_listCorners 10 = .ok (.iload_n 1, 1) := by decide +kernel
theorem dX8_listCorners_11 : decode cX8_listCorners 11 = .ok (.iconst 4, 1) := by decide +kernel
theorem dX8_listCorners_12 : decode cX8_listCorners 12 = .ok (.imul, 1) := by decide +kernel
theorem dX8_listCorners_13 : decode cX8_listCorners 13 = .ok (.iaload, 1) := by decide +kernel
theorem dX8_listCorners_14 : decode cX8_listCorners 14 = .ok (.istore_n 3, 1) := by decide +kernel
theorem dX8_listCorners_15 : decode cX8_listCorners 15 = .ok (.iconst 0, 1) := by decide +kernel
theorem dX8_listCorners_16 : decode cX8_listCorners 16 = .ok (.istore 4, 2) := by decide +kernel
theorem dX8_listCorners_18 : decode cX8_listCorners 18 = .ok (.iload 4, 2) := by decide +kernel
theorem dX8_listCorners_20 : decode cX8_listCorners 20 = .ok (.iconst 4, 1) := by decide +kernel
theorem dX8_listCorners_21 : decode cX8_listCorners 21 = .ok (.if_icmp .ge 101, 3) := by decide +kernel
theorem dX8_listCorners_24 : decode cX8_listCorners 24 = .ok (.iconst 0, 1) := by decide +kernel
theorem dX8_listCorners_25 : decode cX8_listCorners 25 = .ok (.istore 5, 2) := by decide +kernel
theorem dX8_listCorners_27 : decode cX8_listCorners 27 = .ok (.iload 5, 2) := by decide +kernel
theorem dX8_listCorners_29 : decode cX8_listCorners 29 = .ok (.aload_n 2, 1) := by decide +kernel
theorem dX8_listCorners_30 : decode cX8_listCorners 30 = .ok (.getfield 147, 3) := by decide +kernel
theorem dX8_listCorners_33 : decode cX8_listCorners 33 = .ok (.if_icmp .ge 69, 3) := by decide +kernel
theorem dX8_listCorners_36 : decode cX8_listCorners 36 = .ok (.aload_n 2, 1) := by decide +kernel
theorem dX8_listCorners_37 : decode cX8_listCorners 37 = .ok (.getfield 179, 3) := by decide +kernel
theorem dX8_listCorners_40 : decode cX8_listCorners 40 = .ok (.iload 5, 2) := by decide +kernel
theorem dX8_listCorners_42 : decode cX8_listCorners 42 = .ok (.iaload, 1) := by decide +kernel
theorem dX8_listCorners_43 : decode cX8_listCorners 43 = .ok (.istore 6, 2) := by decide +kernel
theorem dX8_listCorners_45 : decode cX8_listCorners 45 = .ok (.iload 6, 2) := by decide +kernel
theorem dX8_listCorners_47 : decode cX8_listCorners 47 = .ok (.iconst (-1), 1) := by decide +kernel
theorem dX8_listCorners_48 : decode cX8_listCorners 48 = .ok (.if_icmp .eq 48, 3) := by decide +kernel
theorem dX8_listCorners_51 : decode cX8_listCorners 51 = .ok (.aload_n 0, 1) := by decide +kernel
theorem dX8_listCorners_52 : decode cX8_listCorners 52 = .ok (.getfield 24, 3) := by decide +kernel
theorem dX8_listCorners_55 : decode cX8_listCorners 55 = .ok (.iload_n 1, 1) := by decide +kernel
theorem dX8_listCorners_56 : decode cX8_listCorners 56 = .ok (.aaload, 1) := by decide +kernel
theorem dX8_listCorners_57 : decode cX8_listCorners 57 = .ok (.iload 6, 2) := by decide +kernel
theorem dX8_listCorners_59 : decode cX8_listCorners 59 = .ok (.invokevirtual 182, 3) := by decide +kernel
theorem dX8_listCorners_62 : decode cX8_listCorners 62 = .ok (.iload 4, 2) := by decide +kernel
theorem dX8_listCorners_64 : decode cX8_listCorners 64 = .ok (.if_icmp .ne 32, 3) := by decide +kernel
theorem dX8_listCorners_67 : decode cX8_listCorners 67 = .ok (.aload_n 0, 1) := by decide +kernel
theorem dX8_listCorners_68 : decode cX8_listCorners 68 = .ok (.getfield 42, 3) := by decide +kernel
theorem dX8_listCorners_71 : decode cX8_listCorners 71 = .ok (.iload_n 3, 1) := by decide +kernel
theorem dX8_listCorners_72 : decode cX8_listCorners 72 = .ok (.aload_n 0, 1) := by decide +kernel
theorem dX8_listCorners_73 : decode cX8_listCorners 73 = .ok (.getfield 33, 3) := by decide +kernel
theorem dX8_listCorners_76 : decode cX8_listCorners 76 = .ok (.iload 5, 2) := by decide +kernel
theorem dX8_listCorners_78 : decode cX8_listCorners 78 = .ok (.iaload, 1) := by decide +kernel
theorem dX8_listCorners_79 : decode cX8_listCorners 79 = .ok (.iastore, 1) := by decide +kernel
theorem dX8_listCorners_80 : decode cX8_listCorners 80 = .ok (.aload_n 0, 1) := by decide +kernel
theorem dX8_listCorners_81 : decode cX8_listCorners 81 = .ok (.getfield 45, 3) := by decide +kernel
theorem dX8_listCorners_84 : decode cX8_listCorners 84 = .ok (.iload_n 3, 1) := by decide +kernel
theorem dX8_listCorners_85 : decode cX8_listCorners 85 = .ok (.aload_n 0, 1) := by decide +kernel
theorem dX8_listCorners_86 : decode cX8_listCorners 86 = .ok (.getfield 36, 3) := by decide +kernel
theorem dX8_listCorners_89 : decode cX8_listCorners 89 = .ok (.iload 5, 2) := by decide +kernel
theorem dX8_listCorners_91 : decode cX8_listCorners 91 = .ok (.iaload, 1) := by decide +kernel
theorem dX8_listCorners_92 : decode cX8_listCorners 92 = .ok (.iastore, 1) := by decide +kernel
theorem dX8_listCorners_93 : decode cX8_listCorners 93 = .ok (.iinc 3 1, 3) := by decide +kernel
theorem dX8_listCorners_96 : decode cX8_listCorners 96 = .ok (.iinc 5 1, 3) := by decide +kernel
theorem dX8_listCorners_99 : decode cX8_listCorners 99 = .ok (.goto (-72), 3) := by decide +kernel
theorem dX8_listCorners_102 : decode cX8_listCorners 102 = .ok (.aload_n 0, 1) := by decide +kernel
theorem dX8_listCorners_103 : decode cX8_listCorners 103 = .ok (.getfield 39, 3) := by decide +kernel
theorem dX8_listCorners_106 : decode cX8_listCorners 106 = .ok (.iload_n 1, 1) := by decide +kernel
theorem dX8_listCorners_107 : decode cX8_listCorners 107 = .ok (.iconst 4, 1) := by decide +kernel
theorem dX8_listCorners_108 : decode cX8_listCorners 108 = .ok (.imul, 1) := by decide +kernel
theorem dX8_listCorners_109 : decode cX8_listCorners 109 = .ok (.iload 4, 2) := by decide +kernel
theorem dX8_listCorners_111 : decode cX8_listCorners 111 = .ok (.iadd, 1) := by decide +kernel
theorem dX8_listCorners_112 : decode cX8_listCorners 112 = .ok (.iconst 1, 1) := by decide +kernel
theorem dX8_listCorners_113 : decode cX8_listCorners 113 = .ok (.iadd, 1) := by decide +kernel
theorem dX8_listCorners_114 : decode cX8_listCorners 114 = .ok (.iload_n 3, 1) := by decide +kernel
theorem dX8_listCorners_115 : decode cX8_listCorners 115 = .ok (.iastore, 1) := by decide +kernel
theorem dX8_listCorners_116 : decode cX8_listCorners 116 = .ok (.iinc 4 1, 3) := by decide +kernel
theorem dX8_listCorners_119 : decode cX8_listCorners 119 = .ok (.goto (-101), 3) := by decide +kernel
theorem dX8_listCorners_122 : decode cX8_listCorners 122 = .ok (.return_, 1) := by decide +kernel

abbrev mX8_listCorners : sv_M := (cX8_listCorners, 7, yX8_listCorners, wsX8_listCorners, none, { frames := 3, cells := 0, slots := 0, locals := 90 }, [])
/-- does an outer corner point to f -/
def cpt (M : mvT) (f : Nat) : Option Nat → Bool | none => false | some c => decide (mvK M c = f)
/-- the outer corners of an occurrence that point to f -/
def cornL (mp : Nat → mvT) (sz : Nat → Nat) (X Y : Nat → Nat → Int) (oc : Nat → Nat → Option Nat) (q : List Nat × Nat) (f : Nat) : List (Int × Int × Int) := slP (fun i => cpt (mvW mp q.1) f (oc q.2 i)) (fun i => ((cor mp X Y q i).1, (cor mp X Y q i).2, 0)) (sz q.2)
theorem mvK_lt (M : mvT) (c : Nat) : mvK M c < 4 := by
  unfold mvK
  split <;> exact Nat.mod_lt _ (by decide)
theorem oN_some {x : Option Nat} (h : ¬ oN x = -1) : ∃ c, x = some c := by
  cases x with
  | none => exact absurd rfl h
  | some c => exact ⟨c, rfl⟩
theorem it_.add2 {fa fr ft : Nat → Int32} {I : Nat} {l : List (Int × Int × Int)} (H : it_ false fa fr ft I l) (q : Int × Int × Int) : it_ false (upd fa (I + l.length) (iN q.1)) (upd fr (I + l.length) (iN q.2.1)) ft I (l ++ [q]) := by
  intro x hx
  rw [List.length_append] at hx
  have hx' : x < l.length + 1 := hx
  by_cases e : x = l.length
  · rw [e, gd_n]; exact ⟨if_pos rfl, if_pos rfl, fun w => absurd w (by decide)⟩
  · rw [gd_l _ _ _ (show x < l.length by omega)]
    obtain ⟨a1, a2, a3⟩ := H x (by omega)
    exact ⟨(if_neg (by omega)).trans a1, (if_neg (by omega)).trans a2, fun w => absurd w (by decide)⟩
set_option maxHeartbeats 4000000 in
set_option maxRecDepth 100000 in
theorem l_corn (G : sv_G) (Qr : Option Value → sv_h → Nat → Prop) (h1 : sv_h) (z b : Nat) (k : Int32) (nc np pl : Nat) (R : Nat → Bool) (hm pa sz : Nat → Nat) (ly vo ar : Nat → Int32) (X Y : Nat → Nat → Int) (fc : Nat → Nat → Nat) (oc : Nat → Nat → Option Nat) (mp : Nat → mvT) (S : List (List Nat × Nat)) (Z : sg_ G b k nc np pl R hm pa sz ly vo ar X Y fc oc mp h1 S) (hb : sv_h) (hfr : ∀ a, ¬ (b + 40 ≤ a ∧ a < b + 48) → hb a = h1 a) (i : Nat) (hi : i < S.length) (f : Nat) (hf : f < 4) (fcx fcy : Nat → Int32) (hcx : ab_I G hb (b + 42) 16 fcx) (hcy : ab_I G hb (b + 43) 16 fcy) (hcc : ∀ m, m < (sz (S.getD i ([], 0)).2) → fcx m = iN ((cor mp X Y (S.getD i ([], 0))) m).1 ∧ fcy m = iN ((cor mp X Y (S.getD i ([], 0))) m).2) (ft : Nat → Int32) (I0 : Nat) (hI : I0 + (slP (fun i9 => cpt (mvW mp (S.getD i ([], 0)).1) f (oc (S.getD i ([], 0)).2 i9)) (fun i9 => (((cor mp X Y (S.getD i ([], 0))) i9).1, ((cor mp X Y (S.getD i ([], 0))) i9).2, (0 : Int))) (sz (S.getD i ([], 0)).2)).length ≤ 1600) (fa0 fr0 : Nat → Int32) (hk : ∀ (h : sv_h) (fa fr9 : Nat → Int32), ab_I G h (b + 45) 1600 fa → ab_I G h (b + 46) 1600 fr9 → it_ false fa fr9 ft I0 (slP (fun i9 => cpt (mvW mp (S.getD i ([], 0)).1) f (oc (S.getD i ([], 0)).2 i9)) (fun i9 => (((cor mp X Y (S.getD i ([], 0))) i9).1, ((cor mp X Y (S.getD i ([], 0))) i9).2, (0 : Int))) (sz (S.getD i ([], 0)).2)) → (∀ a, a < I0 → fa a = fa0 a ∧ fr9 a = fr0 a) → (∀ a, a ≠ b + 45 → a ≠ b + 46 → h a = hb a) → V G mX8_listCorners (sv_MQ G mX8_listCorners Qr) 102 [(4, .int (nI f)), (3, .int (nI (I0 + (slP (fun i9 => cpt (mvW mp (S.getD i ([], 0)).1) f (oc (S.getD i ([], 0)).2 i9)) (fun i9 => (((cor mp X Y (S.getD i ([], 0))) i9).1, ((cor mp X Y (S.getD i ([], 0))) i9).2, (0 : Int))) (sz (S.getD i ([], 0)).2)).length))), (2, .ref (pa (S.getD i ([], 0)).2)), (1, .int (nI i)), (0, .ref (b + 35))] [] h z 0 0) : ∀ (c m : Nat) (h : sv_h) (fa fr9 : Nat → Int32), m + c = (sz (S.getD i ([], 0)).2) → ab_I G h (b + 45) 1600 fa → ab_I G h (b + 46) 1600 fr9 → it_ false fa fr9 ft I0 (slP (fun i9 => cpt (mvW mp (S.getD i ([], 0)).1) f (oc (S.getD i ([], 0)).2 i9)) (fun i9 => (((cor mp X Y (S.getD i ([], 0))) i9).1, ((cor mp X Y (S.getD i ([], 0))) i9).2, (0 : Int))) m) → (∀ a, a < I0 → fa a = fa0 a ∧ fr9 a = fr0 a) → (∀ a, a ≠ b + 45 → a ≠ b + 46 → h a = hb a) → V G mX8_listCorners (sv_MQ G mX8_listCorners Qr) 27 [(5, .int (nI m)), (4, .int (nI f)), (3, .int (nI (I0 + (slP (fun i9 => cpt (mvW mp (S.getD i ([], 0)).1) f (oc (S.getD i ([], 0)).2 i9)) (fun i9 => (((cor mp X Y (S.getD i ([], 0))) i9).1, ((cor mp X Y (S.getD i ([], 0))) i9).2, (0 : Int))) m).length))), (2, .ref (pa (S.getD i ([], 0)).2)), (1, .int (nI i)), (0, .ref (b + 35))] [] h z 0 0 := by
  intro c
  induction c with
  | zero =>
    intro m h fa fr9 hmc ha1 ha2 H hol hfb
    have fr : ∀ a, ¬ (b + 40 ≤ a ∧ a < b + 48) → h a = h1 a := fun a p => (hfb a (by omega) (by omega)).trans (hfr a p)
    obtain ⟨z0, z1, ⟨fs, z2, z3⟩, ⟨fb_, z4, z5⟩, ⟨fl, z6, z7⟩, z8, z9, ⟨fq, zA, zB⟩, zC, zD, zE, zF⟩ := id Z
    have w1 := (fr (b + 35) (by omega)).trans z1
    have w2 : ab_I G h (b + 37) 100 fs := (fr (b + 37) (by omega)).trans z2
    have w4 : ab_I G h (b + 38) 100 fb_ := (fr (b + 38) (by omega)).trans z4
    have w6 : ab_Q G h (b + 39) 3 100 fl := (fr (b + 39) (by omega)).trans z6
    have w9 := (fr (b + 1) (by omega)).trans z9
    have wA : ab_Q G h (b + 2) 4 64 fq := (fr (b + 2) (by omega)).trans zA
    obtain ⟨v1, v2, v3⟩ := zE i hi
    obtain ⟨v4, v5⟩ := zC _ v1
    obtain ⟨fx, fy, ff, fo, v6, v7, v8, v9, vA, vB, vC⟩ := zD _ v1 v2
    have u1 := (fr (b + 64 + i) (by omega)).trans (z8 i hi)
    have u2 := (fr (pa (S.getD i ([], 0)).2) (by omega)).trans v4
    have u3 : ab_I G h (pa (S.getD i ([], 0)).2 + 1) 16 fx := (fr _ (by omega)).trans v6
    have u4 : ab_I G h (pa (S.getD i ([], 0)).2 + 2) 16 fy := (fr _ (by omega)).trans v7
    have u5 : ab_I G h (pa (S.getD i ([], 0)).2 + 3) 16 ff := (fr _ (by omega)).trans v8
    have u6 : ab_I G h (pa (S.getD i ([], 0)).2 + 4) 16 fo := (fr _ (by omega)).trans v9
    have wcx : ab_I G h (b + 42) 16 fcx := (hfb _ (by omega) (by omega)).trans hcx
    have wcy : ab_I G h (b + 43) 16 fcy := (hfb _ (by omega) (by omega)).trans hcy
    refine v_iload dX8_listCorners_27 0 rfl ?_
    refine v_aload_n dX8_listCorners_29 rfl 3 rfl ?_
    refine v_getf 4 (ci := 3) (C := RX5) (T := TX5) (N := 10) rfl iwX8_listCorners_X5 (Nat.le_of_ble_eq_true rfl) (by decide +kernel) dX8_listCorners_30 (by repeat (first | with_reducible assumption | (with_reducible refine sv_us.trans ?_; exact rfl) | with_reducible refine (sv_un (by omega)).trans ?_)) (by exact rfl) ?_
    refine v_icmp_ge (tgt := 102) dX8_listCorners_33 (by decide) (fun c_33 => ?_) (fun c_33 => ?_)
    · refine v_sub (L' := [(4, _), (3, _), (2, _), (1, _), (0, _)]) [1, 2, 3, 4, 5] rfl ?_
      have e9 : m = (sz (S.getD i ([], 0)).2) := by omega
      rw [e9] at H ⊢
      exact hk h fa fr9 ha1 ha2 H hol hfb
    · exact absurd (nI_le (show (sz (S.getD i ([], 0)).2) ≤ m by omega) (by omega)) c_33
  | succ c ih =>
    intro m h fa fr9 hmc ha1 ha2 H hol hfb
    have fr : ∀ a, ¬ (b + 40 ≤ a ∧ a < b + 48) → h a = h1 a := fun a p => (hfb a (by omega) (by omega)).trans (hfr a p)
    obtain ⟨z0, z1, ⟨fs, z2, z3⟩, ⟨fb_, z4, z5⟩, ⟨fl, z6, z7⟩, z8, z9, ⟨fq, zA, zB⟩, zC, zD, zE, zF⟩ := id Z
    have w1 := (fr (b + 35) (by omega)).trans z1
    have w2 : ab_I G h (b + 37) 100 fs := (fr (b + 37) (by omega)).trans z2
    have w4 : ab_I G h (b + 38) 100 fb_ := (fr (b + 38) (by omega)).trans z4
    have w6 : ab_Q G h (b + 39) 3 100 fl := (fr (b + 39) (by omega)).trans z6
    have w9 := (fr (b + 1) (by omega)).trans z9
    have wA : ab_Q G h (b + 2) 4 64 fq := (fr (b + 2) (by omega)).trans zA
    obtain ⟨v1, v2, v3⟩ := zE i hi
    obtain ⟨v4, v5⟩ := zC _ v1
    obtain ⟨fx, fy, ff, fo, v6, v7, v8, v9, vA, vB, vC⟩ := zD _ v1 v2
    have u1 := (fr (b + 64 + i) (by omega)).trans (z8 i hi)
    have u2 := (fr (pa (S.getD i ([], 0)).2) (by omega)).trans v4
    have u3 : ab_I G h (pa (S.getD i ([], 0)).2 + 1) 16 fx := (fr _ (by omega)).trans v6
    have u4 : ab_I G h (pa (S.getD i ([], 0)).2 + 2) 16 fy := (fr _ (by omega)).trans v7
    have u5 : ab_I G h (pa (S.getD i ([], 0)).2 + 3) 16 ff := (fr _ (by omega)).trans v8
    have u6 : ab_I G h (pa (S.getD i ([], 0)).2 + 4) 16 fo := (fr _ (by omega)).trans v9
    have wcx : ab_I G h (b + 42) 16 fcx := (hfb _ (by omega) (by omega)).trans hcx
    have wcy : ab_I G h (b + 43) 16 fcy := (hfb _ (by omega) (by omega)).trans hcy
    refine v_iload dX8_listCorners_27 0 rfl ?_
    refine v_aload_n dX8_listCorners_29 rfl 3 rfl ?_
    refine v_getf 4 (ci := 3) (C := RX5) (T := TX5) (N := 10) rfl iwX8_listCorners_X5 (Nat.le_of_ble_eq_true rfl) (by decide +kernel) dX8_listCorners_30 (by repeat (first | with_reducible assumption | (with_reducible refine sv_us.trans ?_; exact rfl) | with_reducible refine (sv_un (by omega)).trans ?_)) (by exact rfl) ?_
    refine v_icmp_ge (tgt := 102) dX8_listCorners_33 (by decide) (fun c_33 => ?_) (fun c_33 => ?_)
    · exact absurd c_33 (nI_ge (show m < (sz (S.getD i ([], 0)).2) by omega) (by omega))
    · refine v_aload_n dX8_listCorners_36 rfl 3 rfl ?_
      refine v_getf 9 (ci := 3) (C := RX5) (T := TX5) (N := 10) rfl iwX8_listCorners_X5 (Nat.le_of_ble_eq_true rfl) (by decide +kernel) dX8_listCorners_37 (by repeat (first | with_reducible assumption | (with_reducible refine sv_us.trans ?_; exact rfl) | with_reducible refine (sv_un (by omega)).trans ?_)) (by exact rfl) ?_
      refine v_iload dX8_listCorners_40 0 rfl ?_
      refine v_ialdS (v := oN (oc (S.getD i ([], 0)).2 m)) dX8_listCorners_42 (by repeat (first | with_reducible assumption | (with_reducible refine sv_us.trans ?_; exact rfl) | with_reducible refine (sv_un (by omega)).trans ?_)) (vp_in_nI (by omega) (by omega)) (by rw [nI_clamp (by omega)]; exact (vA m (by omega)).2.2.2.2.1) ?_
      refine v_istore (L' := [(6, _), (5, _), (4, _), (3, _), (2, _), (1, _), (0, _)]) dX8_listCorners_43 (Nat.le_of_ble_eq_true rfl) rfl ?_
      refine v_iload dX8_listCorners_45 0 rfl ?_
      refine v_iconst (v := (-1)) dX8_listCorners_47 (by decide) ?_
      refine v_icmp_eq (tgt := 96) dX8_listCorners_48 (by decide) (fun c_48 => ?_) (fun c_48 => ?_)
      · refine v_iinc (j := 1) (L' := [(5, _), (6, _), (4, _), (3, _), (2, _), (1, _), (0, _)]) (v := nI (m + 1)) dX8_listCorners_96 rfl (nI_1 _) (Nat.le_of_ble_eq_true rfl) rfl ?_
        refine v_goto (tgt := 27) dX8_listCorners_99 (by decide) ?_
        refine v_sub (L' := [(5, _), (4, _), (3, _), (2, _), (1, _), (0, _)]) [0, 2, 3, 4, 5, 6] rfl ?_
        first
          | (have c9 := hP
             have ecl : (nI (I0 + (slP (fun i9 => cpt (mvW mp (S.getD i ([], 0)).1) f (oc (S.getD i ([], 0)).2 i9)) (fun i9 => (((cor mp X Y (S.getD i ([], 0))) i9).1, ((cor mp X Y (S.getD i ([], 0))) i9).2, (0 : Int))) m).length)).toNatClampNeg = I0 + (slP (fun i9 => cpt (mvW mp (S.getD i ([], 0)).1) f (oc (S.getD i ([], 0)).2 i9)) (fun i9 => (((cor mp X Y (S.getD i ([], 0))) i9).1, ((cor mp X Y (S.getD i ([], 0))) i9).2, (0 : Int))) m).length := nI_clamp (by omega)
             rw [ecl]
             have l9 : I0 + (slP (fun i9 => cpt (mvW mp (S.getD i ([], 0)).1) f (oc (S.getD i ([], 0)).2 i9)) (fun i9 => (((cor mp X Y (S.getD i ([], 0))) i9).1, ((cor mp X Y (S.getD i ([], 0))) i9).2, (0 : Int))) m).length + 1 = I0 + (slP (fun i9 => cpt (mvW mp (S.getD i ([], 0)).1) f (oc (S.getD i ([], 0)).2 i9)) (fun i9 => (((cor mp X Y (S.getD i ([], 0))) i9).1, ((cor mp X Y (S.getD i ([], 0))) i9).2, (0 : Int))) (m + 1)).length := (by rw [slP_p hP, List.length_append]; rfl)
             rw [l9]
             refine ih (m + 1) _ _ _ (by omega) ((sv_un (by omega)).trans (sv_us)) sv_us ?_ (fun a q => ?_) (fun a q1 q2 => (sv_un q2).trans ((sv_un q1).trans (hfb a q1 q2)))
             · rw [slP_p hP]; exact H.add2 ((fun i9 => (((cor mp X Y (S.getD i ([], 0))) i9).1, ((cor mp X Y (S.getD i ([], 0))) i9).2, (0 : Int))) m)
             · obtain ⟨g1, g2⟩ := hol a q
               exact ⟨(if_neg (by omega)).trans g1, (if_neg (by omega)).trans g2⟩)
          | (have hP : ¬ (fun i9 => cpt (mvW mp (S.getD i ([], 0)).1) f (oc (S.getD i ([], 0)).2 i9)) m = true := fun q => (by
               have q : cpt (mvW mp (S.getD i ([], 0)).1) f (oc (S.getD i ([], 0)).2 m) = true := q
               first
                 | (rw [ho9] at q; exact c_64 (congrArg nI (of_decide_eq_true q)))
                 | (cases hx : oc (S.getD i ([], 0)).2 m with
                    | none => rw [hx] at q; exact absurd (show false = true from q) (by decide)
                    | some c9 =>
                      have h9 := (vA m (by omega)).2.2.2.2.2 c9 hx
                      rw [hx] at c_48
                      have c8 : nI c9 = -1 := c_48
                      exact absurd (nI_pos' (n := c9) (by omega)) (by rw [c8]; decide)))
             have l9 : (slP (fun i9 => cpt (mvW mp (S.getD i ([], 0)).1) f (oc (S.getD i ([], 0)).2 i9)) (fun i9 => (((cor mp X Y (S.getD i ([], 0))) i9).1, ((cor mp X Y (S.getD i ([], 0))) i9).2, (0 : Int))) (m + 1)) = (slP (fun i9 => cpt (mvW mp (S.getD i ([], 0)).1) f (oc (S.getD i ([], 0)).2 i9)) (fun i9 => (((cor mp X Y (S.getD i ([], 0))) i9).1, ((cor mp X Y (S.getD i ([], 0))) i9).2, (0 : Int))) m) := slP_n hP
             rw [← l9]
             exact ih (m + 1) _ _ _ (by omega) ha1 ha2 (by rw [l9]; exact H) hol hfb)
      · obtain ⟨o9, ho9⟩ := oN_some c_48
        have ho4 := (vA m (by omega)).2.2.2.2.2 o9 ho9
        rw [ho9]
        rw [show oN (some o9) = nI o9 from rfl]
        refine v_aload_n dX8_listCorners_51 rfl 6 rfl ?_
        refine v_getf 5 (ci := 6) (C := RX8) (T := TX8) (N := 14) rfl iwX8_listCorners_X8 (Nat.le_of_ble_eq_true rfl) (by decide +kernel) dX8_listCorners_52 (by repeat (first | with_reducible assumption | (with_reducible refine sv_us.trans ?_; exact rfl) | with_reducible refine (sv_un (by omega)).trans ?_)) (by exact rfl) ?_
        refine v_iload_n dX8_listCorners_55 rfl 5 rfl ?_
        refine v_aaldS (t := 3) (q := b + 64 + i) dX8_listCorners_56 (fun _ => rfl) (by repeat (first | with_reducible assumption | (with_reducible refine sv_us.trans ?_; exact rfl) | with_reducible refine (sv_un (by omega)).trans ?_)) (vp_in_nI (by omega) (by omega)) (by rw [nI_clamp (by omega)]; exact z7 i (by omega)) ?_
        refine v_iload dX8_listCorners_57 0 rfl ?_
        refine v_callVq (M' := mX4_cornerOf) (n := 1) (As := [_]) (ci := 2) (r := (RX4, TX4, 4)) gX8_listCorners_X4_cornerOf rfl (by decide +kernel) ⟨(Nat.le_of_ble_eq_true rfl), (Nat.le_of_ble_eq_true rfl)⟩ rfl rfl dX8_listCorners_59 rfl ⟨(Nat.le_of_ble_eq_true rfl), (Nat.le_of_ble_eq_true rfl)⟩ (Nat.le_of_ble_eq_true rfl) (by repeat (first | with_reducible assumption | (with_reducible refine sv_us.trans ?_; exact rfl) | with_reducible refine (sv_un (by omega)).trans ?_)) rfl (c_cornerOf G _ _ _ (mvW mp (S.getD i ([], 0)).1) (mvW_q mp _) u1 o9 ho4) (fun v h1 z1 hq => v_pq hq ?_)
        refine v_iload dX8_listCorners_62 2 rfl ?_
        refine v_icmp_ne (tgt := 96) dX8_listCorners_64 (by decide) (fun c_64 => ?_) (fun c_64 => ?_)
        · refine v_iinc (j := 1) (L' := [(5, _), (6, _), (4, _), (3, _), (2, _), (1, _), (0, _)]) (v := nI (m + 1)) dX8_listCorners_96 rfl (nI_1 _) (Nat.le_of_ble_eq_true rfl) rfl ?_
          refine v_goto (tgt := 27) dX8_listCorners_99 (by decide) ?_
          refine v_sub (L' := [(5, _), (4, _), (3, _), (2, _), (1, _), (0, _)]) [0, 2, 3, 4, 5, 6] rfl ?_
          first
            | (have c9 := hP
               have ecl : (nI (I0 + (slP (fun i9 => cpt (mvW mp (S.getD i ([], 0)).1) f (oc (S.getD i ([], 0)).2 i9)) (fun i9 => (((cor mp X Y (S.getD i ([], 0))) i9).1, ((cor mp X Y (S.getD i ([], 0))) i9).2, (0 : Int))) m).length)).toNatClampNeg = I0 + (slP (fun i9 => cpt (mvW mp (S.getD i ([], 0)).1) f (oc (S.getD i ([], 0)).2 i9)) (fun i9 => (((cor mp X Y (S.getD i ([], 0))) i9).1, ((cor mp X Y (S.getD i ([], 0))) i9).2, (0 : Int))) m).length := nI_clamp (by omega)
               rw [ecl]
               have l9 : I0 + (slP (fun i9 => cpt (mvW mp (S.getD i ([], 0)).1) f (oc (S.getD i ([], 0)).2 i9)) (fun i9 => (((cor mp X Y (S.getD i ([], 0))) i9).1, ((cor mp X Y (S.getD i ([], 0))) i9).2, (0 : Int))) m).length + 1 = I0 + (slP (fun i9 => cpt (mvW mp (S.getD i ([], 0)).1) f (oc (S.getD i ([], 0)).2 i9)) (fun i9 => (((cor mp X Y (S.getD i ([], 0))) i9).1, ((cor mp X Y (S.getD i ([], 0))) i9).2, (0 : Int))) (m + 1)).length := (by rw [slP_p hP, List.length_append]; rfl)
               rw [l9]
               refine ih (m + 1) _ _ _ (by omega) ((sv_un (by omega)).trans (sv_us)) sv_us ?_ (fun a q => ?_) (fun a q1 q2 => (sv_un q2).trans ((sv_un q1).trans (hfb a q1 q2)))
               · rw [slP_p hP]; exact H.add2 ((fun i9 => (((cor mp X Y (S.getD i ([], 0))) i9).1, ((cor mp X Y (S.getD i ([], 0))) i9).2, (0 : Int))) m)
               · obtain ⟨g1, g2⟩ := hol a q
                 exact ⟨(if_neg (by omega)).trans g1, (if_neg (by omega)).trans g2⟩)
            | (have hP : ¬ (fun i9 => cpt (mvW mp (S.getD i ([], 0)).1) f (oc (S.getD i ([], 0)).2 i9)) m = true := fun q => (by
                 have q : cpt (mvW mp (S.getD i ([], 0)).1) f (oc (S.getD i ([], 0)).2 m) = true := q
                 first
                   | (rw [ho9] at q; exact c_64 (congrArg nI (of_decide_eq_true q)))
                   | (cases hx : oc (S.getD i ([], 0)).2 m with
                      | none => rw [hx] at q; exact absurd (show false = true from q) (by decide)
                      | some c9 =>
                        have h9 := (vA m (by omega)).2.2.2.2.2 c9 hx
                        rw [hx] at c_48
                        have c8 : nI c9 = -1 := c_48
                        exact absurd (nI_pos' (n := c9) (by omega)) (by rw [c8]; decide)))
               have l9 : (slP (fun i9 => cpt (mvW mp (S.getD i ([], 0)).1) f (oc (S.getD i ([], 0)).2 i9)) (fun i9 => (((cor mp X Y (S.getD i ([], 0))) i9).1, ((cor mp X Y (S.getD i ([], 0))) i9).2, (0 : Int))) (m + 1)) = (slP (fun i9 => cpt (mvW mp (S.getD i ([], 0)).1) f (oc (S.getD i ([], 0)).2 i9)) (fun i9 => (((cor mp X Y (S.getD i ([], 0))) i9).1, ((cor mp X Y (S.getD i ([], 0))) i9).2, (0 : Int))) m) := slP_n hP
               rw [← l9]
               exact ih (m + 1) _ _ _ (by omega) ha1 ha2 (by rw [l9]; exact H) hol hfb)
        · have hkl := mvK_lt (mvW mp (S.getD i ([], 0)).1) o9
          have hP : (fun i9 => cpt (mvW mp (S.getD i ([], 0)).1) f (oc (S.getD i ([], 0)).2 i9)) m = true := by
            show cpt _ f (oc (S.getD i ([], 0)).2 m) = true
            rw [ho9]; exact decide_eq_true ((nI_eq (by omega) (by omega)).mp c_64)
          have hI2 : I0 + (slP (fun i9 => cpt (mvW mp (S.getD i ([], 0)).1) f (oc (S.getD i ([], 0)).2 i9)) (fun i9 => (((cor mp X Y (S.getD i ([], 0))) i9).1, ((cor mp X Y (S.getD i ([], 0))) i9).2, (0 : Int))) m).length < 1600 := by
            have := slP_le (P := (fun i9 => cpt (mvW mp (S.getD i ([], 0)).1) f (oc (S.getD i ([], 0)).2 i9))) (it := (fun i9 => (((cor mp X Y (S.getD i ([], 0))) i9).1, ((cor mp X Y (S.getD i ([], 0))) i9).2, (0 : Int)))) (show m + 1 ≤ (sz (S.getD i ([], 0)).2) by omega)
            rw [slP_p hP, List.length_append, List.length_singleton] at this
            omega
          refine v_aload_n dX8_listCorners_67 rfl 6 rfl ?_
          refine v_getf 11 (ci := 6) (C := RX8) (T := TX8) (N := 14) rfl iwX8_listCorners_X8 (Nat.le_of_ble_eq_true rfl) (by decide +kernel) dX8_listCorners_68 (by repeat (first | with_reducible assumption | (with_reducible refine sv_us.trans ?_; exact rfl) | with_reducible refine (sv_un (by omega)).trans ?_)) (by exact rfl) ?_
          refine v_iload_n dX8_listCorners_71 rfl 3 rfl ?_
          refine v_aload_n dX8_listCorners_72 rfl 6 rfl ?_
          refine v_getf 8 (ci := 6) (C := RX8) (T := TX8) (N := 14) rfl iwX8_listCorners_X8 (Nat.le_of_ble_eq_true rfl) (by decide +kernel) dX8_listCorners_73 (by repeat (first | with_reducible assumption | (with_reducible refine sv_us.trans ?_; exact rfl) | with_reducible refine (sv_un (by omega)).trans ?_)) (by exact rfl) ?_
          refine v_iload dX8_listCorners_76 1 rfl ?_
          refine v_ialdS (v := iN ((cor mp X Y (S.getD i ([], 0))) m).1) dX8_listCorners_78 (by repeat (first | with_reducible assumption | (with_reducible refine sv_us.trans ?_; exact rfl) | with_reducible refine (sv_un (by omega)).trans ?_)) (vp_in_nI (by omega) (by omega)) (by rw [nI_clamp (by omega)]; exact (hcc m (by omega)).1) ?_
          refine v_iast dX8_listCorners_79 (by repeat (first | with_reducible assumption | (with_reducible refine sv_us.trans ?_; exact rfl) | with_reducible refine (sv_un (by omega)).trans ?_)) (vp_in_nI (by omega) (by omega)) ?_
          refine v_aload_n dX8_listCorners_80 rfl 6 rfl ?_
          refine v_getf 12 (ci := 6) (C := RX8) (T := TX8) (N := 14) rfl iwX8_listCorners_X8 (Nat.le_of_ble_eq_true rfl) (by decide +kernel) dX8_listCorners_81 (by repeat (first | with_reducible assumption | (with_reducible refine sv_us.trans ?_; exact rfl) | with_reducible refine (sv_un (by omega)).trans ?_)) (by exact rfl) ?_
          refine v_iload_n dX8_listCorners_84 rfl 3 rfl ?_
          refine v_aload_n dX8_listCorners_85 rfl 6 rfl ?_
          refine v_getf 9 (ci := 6) (C := RX8) (T := TX8) (N := 14) rfl iwX8_listCorners_X8 (Nat.le_of_ble_eq_true rfl) (by decide +kernel) dX8_listCorners_86 (by repeat (first | with_reducible assumption | (with_reducible refine sv_us.trans ?_; exact rfl) | with_reducible refine (sv_un (by omega)).trans ?_)) (by exact rfl) ?_
          refine v_iload dX8_listCorners_89 1 rfl ?_
          refine v_ialdS (v := iN ((cor mp X Y (S.getD i ([], 0))) m).2) dX8_listCorners_91 (by repeat (first | with_reducible assumption | (with_reducible refine sv_us.trans ?_; exact rfl) | with_reducible refine (sv_un (by omega)).trans ?_)) (vp_in_nI (by omega) (by omega)) (by rw [nI_clamp (by omega)]; exact (hcc m (by omega)).2) ?_
          refine v_iast dX8_listCorners_92 (by repeat (first | with_reducible assumption | (with_reducible refine sv_us.trans ?_; exact rfl) | with_reducible refine (sv_un (by omega)).trans ?_)) (vp_in_nI (by omega) (by omega)) ?_
          refine v_iinc (j := 3) (L' := [(3, _), (6, _), (5, _), (4, _), (2, _), (1, _), (0, _)]) (v := nI (I0 + (slP (fun i9 => cpt (mvW mp (S.getD i ([], 0)).1) f (oc (S.getD i ([], 0)).2 i9)) (fun i9 => (((cor mp X Y (S.getD i ([], 0))) i9).1, ((cor mp X Y (S.getD i ([], 0))) i9).2, (0 : Int))) m).length + 1)) dX8_listCorners_93 rfl (nI_1 _) (Nat.le_of_ble_eq_true rfl) rfl ?_
          refine v_iinc (j := 2) (L' := [(5, _), (3, _), (6, _), (4, _), (2, _), (1, _), (0, _)]) (v := nI (m + 1)) dX8_listCorners_96 rfl (nI_1 _) (Nat.le_of_ble_eq_true rfl) rfl ?_
          refine v_goto (tgt := 27) dX8_listCorners_99 (by decide) ?_
          refine v_sub (L' := [(5, _), (4, _), (3, _), (2, _), (1, _), (0, _)]) [0, 3, 1, 4, 5, 6] rfl ?_
          first
            | (have c9 := hP
               have ecl : (nI (I0 + (slP (fun i9 => cpt (mvW mp (S.getD i ([], 0)).1) f (oc (S.getD i ([], 0)).2 i9)) (fun i9 => (((cor mp X Y (S.getD i ([], 0))) i9).1, ((cor mp X Y (S.getD i ([], 0))) i9).2, (0 : Int))) m).length)).toNatClampNeg = I0 + (slP (fun i9 => cpt (mvW mp (S.getD i ([], 0)).1) f (oc (S.getD i ([], 0)).2 i9)) (fun i9 => (((cor mp X Y (S.getD i ([], 0))) i9).1, ((cor mp X Y (S.getD i ([], 0))) i9).2, (0 : Int))) m).length := nI_clamp (by omega)
               rw [ecl]
               have l9 : I0 + (slP (fun i9 => cpt (mvW mp (S.getD i ([], 0)).1) f (oc (S.getD i ([], 0)).2 i9)) (fun i9 => (((cor mp X Y (S.getD i ([], 0))) i9).1, ((cor mp X Y (S.getD i ([], 0))) i9).2, (0 : Int))) m).length + 1 = I0 + (slP (fun i9 => cpt (mvW mp (S.getD i ([], 0)).1) f (oc (S.getD i ([], 0)).2 i9)) (fun i9 => (((cor mp X Y (S.getD i ([], 0))) i9).1, ((cor mp X Y (S.getD i ([], 0))) i9).2, (0 : Int))) (m + 1)).length := (by rw [slP_p hP, List.length_append]; rfl)
               rw [l9]
               refine ih (m + 1) _ _ _ (by omega) ((sv_un (by omega)).trans (sv_us)) sv_us ?_ (fun a q => ?_) (fun a q1 q2 => (sv_un q2).trans ((sv_un q1).trans (hfb a q1 q2)))
               · rw [slP_p hP]; exact H.add2 ((fun i9 => (((cor mp X Y (S.getD i ([], 0))) i9).1, ((cor mp X Y (S.getD i ([], 0))) i9).2, (0 : Int))) m)
               · obtain ⟨g1, g2⟩ := hol a q
                 exact ⟨(if_neg (by omega)).trans g1, (if_neg (by omega)).trans g2⟩)
            | (have hP : ¬ (fun i9 => cpt (mvW mp (S.getD i ([], 0)).1) f (oc (S.getD i ([], 0)).2 i9)) m = true := fun q => (by
                 have q : cpt (mvW mp (S.getD i ([], 0)).1) f (oc (S.getD i ([], 0)).2 m) = true := q
                 first
                   | (rw [ho9] at q; exact c_64 (congrArg nI (of_decide_eq_true q)))
                   | (cases hx : oc (S.getD i ([], 0)).2 m with
                      | none => rw [hx] at q; exact absurd (show false = true from q) (by decide)
                      | some c9 =>
                        have h9 := (vA m (by omega)).2.2.2.2.2 c9 hx
                        rw [hx] at c_48
                        have c8 : nI c9 = -1 := c_48
                        exact absurd (nI_pos' (n := c9) (by omega)) (by rw [c8]; decide)))
               have l9 : (slP (fun i9 => cpt (mvW mp (S.getD i ([], 0)).1) f (oc (S.getD i ([], 0)).2 i9)) (fun i9 => (((cor mp X Y (S.getD i ([], 0))) i9).1, ((cor mp X Y (S.getD i ([], 0))) i9).2, (0 : Int))) (m + 1)) = (slP (fun i9 => cpt (mvW mp (S.getD i ([], 0)).1) f (oc (S.getD i ([], 0)).2 i9)) (fun i9 => (((cor mp X Y (S.getD i ([], 0))) i9).1, ((cor mp X Y (S.getD i ([], 0))) i9).2, (0 : Int))) m) := slP_n hP
               rw [← l9]
               exact ih (m + 1) _ _ _ (by omega) ha1 ha2 (by rw [l9]; exact H) hol hfb)

set_option maxHeartbeats 4000000 in
set_option maxRecDepth 100000 in
theorem l_corns (G : sv_G) (h1 : sv_h) (z b : Nat) (k : Int32) (nc np pl : Nat) (R : Nat → Bool) (hm pa sz : Nat → Nat) (ly vo ar : Nat → Int32) (X Y : Nat → Nat → Int) (fc : Nat → Nat → Nat) (oc : Nat → Nat → Option Nat) (mp : Nat → mvT) (S : List (List Nat × Nat)) (Z : sg_ G b k nc np pl R hm pa sz ly vo ar X Y fc oc mp h1 S) (hb : sv_h) (hfr : ∀ a, ¬ (b + 40 ≤ a ∧ a < b + 48) → hb a = h1 a) (i : Nat) (hi : i < S.length) (fcx fcy : Nat → Int32) (hcx : ab_I G hb (b + 42) 16 fcx) (hcy : ab_I G hb (b + 43) 16 fcy) (hcc : ∀ m, m < (sz (S.getD i ([], 0)).2) → fcx m = iN ((cor mp X Y (S.getD i ([], 0))) m).1 ∧ fcy m = iN ((cor mp X Y (S.getD i ([], 0))) m).2) (hT : bs (cornL mp sz X Y oc) S i + tt (cornL mp sz X Y oc) (S.getD i ([], 0)) 4 ≤ 1600) (fs0 fa0 fr0 ft0 : Nat → Int32) : ∀ (e f : Nat) (h : sv_h), f + e = 4 → sF_ G false b (cornL mp sz X Y oc) S i f fs0 fa0 fr0 ft0 hb h → V G mX8_listCorners (sv_MQ G mX8_listCorners (fun v h2 z2 => v = none ∧ z2 = z ∧ sF_ G false b (cornL mp sz X Y oc) S i 4 fs0 fa0 fr0 ft0 hb h2)) 18 [(4, .int (nI f)), (3, .int (nI (st_ (cornL mp sz X Y oc) S i f))), (2, .ref (pa (S.getD i ([], 0)).2)), (1, .int (nI i)), (0, .ref (b + 35))] [] h z 0 0 := by
  intro e
  induction e with
  | zero =>
    intro f h hfe H
    obtain ⟨fs9, fa, fr9, ft, ha0, ha1, ha2, ha3, hst, hso, hit, hol, hfb⟩ := id H
    have fr : ∀ a, ¬ (b + 40 ≤ a ∧ a < b + 48) → h a = h1 a := fun a p => (hfb a (by omega) (by omega) (by omega) (by omega)).trans (hfr a p)
    obtain ⟨z0, z1, ⟨fs, z2, z3⟩, ⟨fb_, z4, z5⟩, ⟨fl, z6, z7⟩, z8, z9, ⟨fq, zA, zB⟩, zC, zD, zE, zF⟩ := id Z
    have w1 := (fr (b + 35) (by omega)).trans z1
    have w2 : ab_I G h (b + 37) 100 fs := (fr (b + 37) (by omega)).trans z2
    have w4 : ab_I G h (b + 38) 100 fb_ := (fr (b + 38) (by omega)).trans z4
    have w6 : ab_Q G h (b + 39) 3 100 fl := (fr (b + 39) (by omega)).trans z6
    have w9 := (fr (b + 1) (by omega)).trans z9
    have wA : ab_Q G h (b + 2) 4 64 fq := (fr (b + 2) (by omega)).trans zA
    obtain ⟨v1, v2, v3⟩ := zE i hi
    obtain ⟨v4, v5⟩ := zC _ v1
    obtain ⟨fx, fy, ff, fo, v6, v7, v8, v9, vA, vB, vC⟩ := zD _ v1 v2
    have u1 := (fr (b + 64 + i) (by omega)).trans (z8 i hi)
    have u2 := (fr (pa (S.getD i ([], 0)).2) (by omega)).trans v4
    have u3 : ab_I G h (pa (S.getD i ([], 0)).2 + 1) 16 fx := (fr _ (by omega)).trans v6
    have u4 : ab_I G h (pa (S.getD i ([], 0)).2 + 2) 16 fy := (fr _ (by omega)).trans v7
    have u5 : ab_I G h (pa (S.getD i ([], 0)).2 + 3) 16 ff := (fr _ (by omega)).trans v8
    have u6 : ab_I G h (pa (S.getD i ([], 0)).2 + 4) 16 fo := (fr _ (by omega)).trans v9
    refine v_iload dX8_listCorners_18 0 rfl ?_
    refine v_iconst (v := 4) dX8_listCorners_20 (by decide) ?_
    refine v_icmp_ge (tgt := 122) dX8_listCorners_21 (by decide) (fun c_21 => ?_) (fun c_21 => ?_)
    · exact v_ret rfl dX8_listCorners_122 (Nat.le_of_ble_eq_true rfl) (Nat.le_of_ble_eq_true rfl) (by
                have e9 : f = 4 := by omega
                subst e9
                exact ⟨rfl, rfl, H⟩)
    · exact absurd (nI_le (show 4 ≤ f by omega) (by omega)) c_21
  | succ e ih =>
    intro f h hfe H
    obtain ⟨fs9, fa, fr9, ft, ha0, ha1, ha2, ha3, hst, hso, hit, hol, hfb⟩ := id H
    have fr : ∀ a, ¬ (b + 40 ≤ a ∧ a < b + 48) → h a = h1 a := fun a p => (hfb a (by omega) (by omega) (by omega) (by omega)).trans (hfr a p)
    obtain ⟨z0, z1, ⟨fs, z2, z3⟩, ⟨fb_, z4, z5⟩, ⟨fl, z6, z7⟩, z8, z9, ⟨fq, zA, zB⟩, zC, zD, zE, zF⟩ := id Z
    have w1 := (fr (b + 35) (by omega)).trans z1
    have w2 : ab_I G h (b + 37) 100 fs := (fr (b + 37) (by omega)).trans z2
    have w4 : ab_I G h (b + 38) 100 fb_ := (fr (b + 38) (by omega)).trans z4
    have w6 : ab_Q G h (b + 39) 3 100 fl := (fr (b + 39) (by omega)).trans z6
    have w9 := (fr (b + 1) (by omega)).trans z9
    have wA : ab_Q G h (b + 2) 4 64 fq := (fr (b + 2) (by omega)).trans zA
    obtain ⟨v1, v2, v3⟩ := zE i hi
    obtain ⟨v4, v5⟩ := zC _ v1
    obtain ⟨fx, fy, ff, fo, v6, v7, v8, v9, vA, vB, vC⟩ := zD _ v1 v2
    have u1 := (fr (b + 64 + i) (by omega)).trans (z8 i hi)
    have u2 := (fr (pa (S.getD i ([], 0)).2) (by omega)).trans v4
    have u3 : ab_I G h (pa (S.getD i ([], 0)).2 + 1) 16 fx := (fr _ (by omega)).trans v6
    have u4 : ab_I G h (pa (S.getD i ([], 0)).2 + 2) 16 fy := (fr _ (by omega)).trans v7
    have u5 : ab_I G h (pa (S.getD i ([], 0)).2 + 3) 16 ff := (fr _ (by omega)).trans v8
    have u6 : ab_I G h (pa (S.getD i ([], 0)).2 + 4) 16 fo := (fr _ (by omega)).trans v9
    refine v_iload dX8_listCorners_18 0 rfl ?_
    refine v_iconst (v := 4) dX8_listCorners_20 (by decide) ?_
    refine v_icmp_ge (tgt := 122) dX8_listCorners_21 (by decide) (fun c_21 => ?_) (fun c_21 => ?_)
    · exact absurd c_21 (nI_ge (a := f) (b := 4) (by omega) (by decide))
    · refine v_iconst (v := 0) dX8_listCorners_24 (by decide) ?_
      refine v_istore (L' := [(5, _), (4, _), (3, _), (2, _), (1, _), (0, _)]) dX8_listCorners_25 (Nat.le_of_ble_eq_true rfl) rfl ?_
      refine v_sub (L' := [(5, _), (4, _), (3, _), (2, _), (1, _), (0, _)]) [0, 1, 2, 3, 4, 5] rfl ?_
      have hI : st_ (cornL mp sz X Y oc) S i f + (slP (fun i9 => cpt (mvW mp (S.getD i ([], 0)).1) f (oc (S.getD i ([], 0)).2 i9)) (fun i9 => (((cor mp X Y (S.getD i ([], 0))) i9).1, ((cor mp X Y (S.getD i ([], 0))) i9).2, (0 : Int))) (sz (S.getD i ([], 0)).2)).length ≤ 1600 := by
        have := st_le (T := (cornL mp sz X Y oc)) (S := S) (i := i) (show f + 1 ≤ 4 by omega)
        rw [st_s] at this
        have h9 : st_ (cornL mp sz X Y oc) S i 4 ≤ 1600 := hT
        have e8 : (cornL mp sz X Y oc) (S.getD i ([], 0)) f = (slP (fun i9 => cpt (mvW mp (S.getD i ([], 0)).1) f (oc (S.getD i ([], 0)).2 i9)) (fun i9 => (((cor mp X Y (S.getD i ([], 0))) i9).1, ((cor mp X Y (S.getD i ([], 0))) i9).2, (0 : Int))) (sz (S.getD i ([], 0)).2)) := rfl
        rw [← e8]
        omega
      refine l_corn G _ _ _ b k nc np pl R hm pa sz ly vo ar X Y fc oc mp S Z h (fun a p => (hfb a (by omega) (by omega) (by omega) (by omega)).trans (hfr a p)) i hi f (by omega) fcx fcy ((hfb _ (by omega) (by omega) (by omega) (by omega)).trans hcx) ((hfb _ (by omega) (by omega) (by omega) (by omega)).trans hcy) hcc ft (st_ (cornL mp sz X Y oc) S i f) hI fa fr9 (fun h2 fa2 fr2 b1 b2 b4 b5 b6 => ?_) (sz (S.getD i ([], 0)).2) 0 h fa fr9 (by omega) ha1 ha2 (fun x hx => absurd hx (Nat.not_lt_zero x)) (fun a _ => ⟨rfl, rfl⟩) (fun _ _ _ => rfl)
      have w44 : ab_I G h2 (b + 44) 401 fs9 := (b6 _ (by omega) (by omega)).trans ha0
      have w47 : ab_I G h2 (b + 47) 1600 ft := (b6 _ (by omega) (by omega)).trans ha3
      have w35 := (b6 (b + 35) (by omega) (by omega)).trans w1
      refine v_aload_n dX8_listCorners_102 rfl 4 rfl ?_
      refine v_getf 10 (ci := 6) (C := RX8) (T := TX8) (N := 14) rfl iwX8_listCorners_X8 (Nat.le_of_ble_eq_true rfl) (by decide +kernel) dX8_listCorners_103 (by first | with_reducible assumption) rfl ?_
      refine v_iload_n dX8_listCorners_106 rfl 3 rfl ?_
      refine v_iconst (v := 4) dX8_listCorners_107 (by decide) ?_
      refine v_imul dX8_listCorners_108 ?_
      refine v_iload dX8_listCorners_109 0 rfl ?_
      refine v_iadd dX8_listCorners_111 ?_
      rw [sv_4 i f]
      refine v_iconst (v := 1) dX8_listCorners_112 (by decide) ?_
      refine v_iadd dX8_listCorners_113 ?_
      rw [nI_1]
      refine v_iload_n dX8_listCorners_114 rfl 1 rfl ?_
      refine v_iast dX8_listCorners_115 (by first | with_reducible assumption) (vp_in_nI (by omega) (by omega)) ?_
      refine v_iinc (j := 0) (L' := [(4, _), (3, _), (2, _), (1, _), (0, _)]) (v := nI (f + 1)) dX8_listCorners_116 rfl (nI_1 _) (Nat.le_of_ble_eq_true rfl) rfl ?_
      refine v_goto (tgt := 18) dX8_listCorners_119 (by decide) ?_
      refine v_sub (L' := [(4, _), (3, _), (2, _), (1, _), (0, _)]) [0, 1, 2, 3, 4] rfl ?_
      have ecl : (nI (4 * i + f + 1)).toNatClampNeg = 4 * i + f + 1 := nI_clamp (by omega)
      rw [ecl]
      have ese : st_ (cornL mp sz X Y oc) S i (f + 1) = st_ (cornL mp sz X Y oc) S i f + (slP (fun i9 => cpt (mvW mp (S.getD i ([], 0)).1) f (oc (S.getD i ([], 0)).2 i9)) (fun i9 => (((cor mp X Y (S.getD i ([], 0))) i9).1, ((cor mp X Y (S.getD i ([], 0))) i9).2, (0 : Int))) (sz (S.getD i ([], 0)).2)).length := st_s
      rw [← ese]
      refine ih (f + 1) _ (by omega) ⟨_, fa2, fr2, ft, sv_us, (sv_un (by omega)).trans b1, (sv_un (by omega)).trans b2, (sv_un (by omega)).trans w47, fun g hg => ?_, fun a q => (if_neg (by omega)).trans (hso a q), fun g hg => ?_, fun a q => ?_, fun a q1 q2 q3 q4 => (sv_un q1).trans ((b6 a q2 q3).trans (hfb a q1 q2 q3 q4))⟩
      · by_cases e9 : g = f + 1
        · rw [e9]; exact if_pos (by omega)
        · exact (if_neg (by omega)).trans (hst g (by omega))
      · by_cases e9 : g = f
        · rw [e9]; exact b4
        · have h8 := st_le (T := (cornL mp sz X Y oc)) (S := S) (i := i) (show g + 1 ≤ f by omega)
          rw [st_s] at h8
          exact (hit g (by omega)).old h8 (fun a9 q9 => ⟨(b5 a9 q9).1, (b5 a9 q9).2, rfl⟩)
      · obtain ⟨g1, g2, g3⟩ := hol a q
        have h8 := st_le (T := (cornL mp sz X Y oc)) (S := S) (i := i) (show 0 ≤ f by omega)
        have h7 : st_ (cornL mp sz X Y oc) S i 0 = bs (cornL mp sz X Y oc) S i := Nat.add_zero _
        obtain ⟨k1, k2⟩ := b5 a (by omega)
        exact ⟨k1.trans g1, k2.trans g2, g3⟩

set_option maxHeartbeats 4000000 in
set_option maxRecDepth 100000 in
theorem c_listCorners (G : sv_G) (h1 : sv_h) (z b : Nat) (k : Int32) (nc np pl : Nat) (R : Nat → Bool) (hm pa sz : Nat → Nat) (ly vo ar : Nat → Int32) (X Y : Nat → Nat → Int) (fc : Nat → Nat → Nat) (oc : Nat → Nat → Option Nat) (mp : Nat → mvT) (S : List (List Nat × Nat)) (Z : sg_ G b k nc np pl R hm pa sz ly vo ar X Y fc oc mp h1 S) (hb : sv_h) (hfr : ∀ a, ¬ (b + 40 ≤ a ∧ a < b + 48) → hb a = h1 a) (i : Nat) (hi : i < S.length) (fcx fcy : Nat → Int32) (hcx : ab_I G hb (b + 42) 16 fcx) (hcy : ab_I G hb (b + 43) 16 fcy) (hcc : ∀ m, m < (sz (S.getD i ([], 0)).2) → fcx m = iN ((cor mp X Y (S.getD i ([], 0))) m).1 ∧ fcy m = iN ((cor mp X Y (S.getD i ([], 0))) m).2) (hT : bs (cornL mp sz X Y oc) S i + tt (cornL mp sz X Y oc) (S.getD i ([], 0)) 4 ≤ 1600) (fs0 fa0 fr0 ft0 : Nat → Int32) (a44 : ab_I G hb (b + 44) 401 fs0) (a45 : ab_I G hb (b + 45) 1600 fa0) (a46 : ab_I G hb (b + 46) 1600 fr0) (a47 : ab_I G hb (b + 47) 1600 ft0) (hs0 : fs0 (4 * i) = nI (st_ (cornL mp sz X Y oc) S i 0)) : CT G mX8_listCorners [.ref (b + 35), .int (nI i)] hb z (fun v h2 z2 => v = none ∧ z2 = z ∧ sF_ G false b (cornL mp sz X Y oc) S i 4 fs0 fa0 fr0 ft0 hb h2) := by
  refine CT.of (by decide +kernel) rfl rfl (Nat.le_of_ble_eq_true rfl) ?_
  obtain ⟨z0, z1, ⟨fs, z2, z3⟩, ⟨fb_, z4, z5⟩, ⟨fl, z6, z7⟩, z8, z9, ⟨fq, zA, zB⟩, zC, zD, zE, zF⟩ := id Z
  have w1 := (hfr (b + 35) (by omega)).trans z1
  have w2 : ab_I G hb (b + 37) 100 fs := (hfr (b + 37) (by omega)).trans z2
  have w4 : ab_I G hb (b + 38) 100 fb_ := (hfr (b + 38) (by omega)).trans z4
  have w6 : ab_Q G hb (b + 39) 3 100 fl := (hfr (b + 39) (by omega)).trans z6
  have w9 := (hfr (b + 1) (by omega)).trans z9
  have wA : ab_Q G hb (b + 2) 4 64 fq := (hfr (b + 2) (by omega)).trans zA
  refine v_aload_n dX8_listCorners_0 rfl 0 rfl ?_
  refine v_iload_n dX8_listCorners_1 rfl 1 rfl ?_
  refine v_callVq (M' := mX8_polygonOf) (n := 1) (As := [_]) (ci := 6) (r := (RX8, TX8, 14)) gX8_listCorners_X8_polygonOf rfl (by decide +kernel) ⟨(Nat.le_of_ble_eq_true rfl), (Nat.le_of_ble_eq_true rfl)⟩ rfl rfl dX8_listCorners_2 rfl ⟨(Nat.le_of_ble_eq_true rfl), (Nat.le_of_ble_eq_true rfl)⟩ (Nat.le_of_ble_eq_true rfl) (by first | with_reducible assumption) rfl (c_polygonOf G h1 _ b k nc np pl R hm pa sz ly vo ar X Y fc oc mp S Z hb hfr i hi) (fun v h1 z1 hq => v_pq hq ?_)
  refine v_astore_n (L' := [(2, _), (0, _), (1, _)]) dX8_listCorners_5 rfl (Nat.le_of_ble_eq_true rfl) rfl ?_
  refine v_aload_n dX8_listCorners_6 rfl 1 rfl ?_
  refine v_getf 10 (ci := 6) (C := RX8) (T := TX8) (N := 14) rfl iwX8_listCorners_X8 (Nat.le_of_ble_eq_true rfl) (by decide +kernel) dX8_listCorners_7 (by first | with_reducible assumption) rfl ?_
  refine v_iload_n dX8_listCorners_10 rfl 2 rfl ?_
  refine v_iconst (v := 4) dX8_listCorners_11 (by decide) ?_
  refine v_imul dX8_listCorners_12 ?_
  rw [sv_40]
  refine v_ialdS (v := nI (st_ (cornL mp sz X Y oc) S i 0)) dX8_listCorners_13 (by first | with_reducible assumption) (vp_in_nI (by omega) (by omega)) (by rw [nI_clamp (by omega)]; exact hs0) ?_
  refine v_istore_n (L' := [(3, _), (2, _), (0, _), (1, _)]) dX8_listCorners_14 rfl (Nat.le_of_ble_eq_true rfl) rfl ?_
  refine v_iconst (v := 0) dX8_listCorners_15 (by decide) ?_
  refine v_istore (L' := [(4, _), (3, _), (2, _), (0, _), (1, _)]) dX8_listCorners_16 (Nat.le_of_ble_eq_true rfl) rfl ?_
  refine v_sub (L' := [(4, _), (3, _), (2, _), (1, _), (0, _)]) [0, 1, 2, 4, 3] rfl ?_
  exact l_corns G _ _ b k nc np pl R hm pa sz ly vo ar X Y fc oc mp S Z hb hfr i hi fcx fcy hcx hcy hcc hT fs0 fa0 fr0 ft0 4 0 hb (by omega) ⟨fs0, fa0, fr0, ft0, a44, a45, a46, a47, fun g hg => (by rw [show g = 0 by omega]; exact hs0), fun _ _ => rfl, fun g hg => absurd hg (Nat.not_lt_zero g), fun _ _ => ⟨rfl, rfl, rfl⟩, fun _ _ _ _ _ => rfl⟩

