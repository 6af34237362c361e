theorem iwX8_gather_X7 : ∀ w ∈ wsX70, w ∈ wsX8_gather := by decide +kernel
theorem iwX8_gather_X8 : ∀ w ∈ wsX80, w ∈ wsX8_gather := by decide +kernel
set_option maxRecDepth 20000 in
theorem ggX8_gather_X8_descend : GoodIn wsX8_gather wsX8_descend := goodIn_r _ [8, 9, 10, 11, 12, 13, 14, 15, 2, 16, 17, 18, 19, 20, 21, 22, 23, 24, 25, 26, 27, 28, 29, 30, 31, 32, 33, 34, 7, 35, 1, 36, 37, 38, 39, 40, 41, 42, 43, 44, 45, 46, 47, 48, 49, 50, 51, 52, 53, 54, 55, 56, 57, 58, 59, 4, 5, 6, 112, 113, 114, 115, 116, 117, 118, 119, 120, 121, 122, 123, 124, 125, 134, 135, 136, 137, 138, 139, 140, 141, 142, 143, 144, 145, 146, 147, 148, 149, 150, 151, 152, 153, 126, 127, 128, 129, 130, 131, 132, 133, 154, 155, 156, 157] (by decide +kernel) (by decide +kernel)
set_option maxRecDepth 20000 in
theorem gX8_gather_X8_descend : GoodIn wsX8_gather (wsV RX8 60 RX8 yX8_descend wsX8_descend) := goodIn_app (goodIn_of _ (by decide +kernel)) ggX8_gather_X8_descend
set_option maxRecDepth 20000 in
theorem ggX8_gather_X8_measure : GoodIn wsX8_gather wsX8_measure := goodIn_r _ [63, 38, 64, 65, 66, 67, 68, 69, 70, 71, 72, 73, 74, 75, 76, 77, 78, 79, 7, 80, 9, 11, 36, 81, 53, 54, 42, 55, 44, 45, 46, 82, 57, 58, 59, 47, 112, 113, 114, 115, 116, 117, 118, 119, 120, 121, 122, 123, 124, 125, 144, 145, 146, 147, 148, 149, 150, 151, 152, 153, 134, 135, 136, 137, 138, 139, 140, 141, 142, 143, 154, 155, 156, 157] (by decide +kernel) (by decide +kernel)
set_option maxRecDepth 20000 in
theorem gX8_gather_X8_measure : GoodIn wsX8_gather (wsV RX8 64 RX8 yX8_measure wsX8_measure) := goodIn_app (goodIn_of _ (by decide +kernel)) ggX8_gather_X8_measure
set_option maxRecDepth 20000 in
theorem ggX8_gather_X8_listCorners : GoodIn wsX8_gather wsX8_listCorners := goodIn_r _ [86, 87, 64, 88, 38, 89, 67, 90, 68, 77, 78, 79, 7, 80, 9, 11, 36, 91, 92, 93, 42, 94, 44, 95, 96, 97, 98, 45, 112, 113, 114, 115, 116, 117, 118, 119, 120, 121, 122, 123, 124, 125, 144, 145, 146, 147, 148, 149, 150, 151, 152, 153, 134, 135, 136, 137, 138, 139, 140, 141, 142, 143, 154, 155, 156, 157] (by decide +kernel) (by decide +kernel)
set_option maxRecDepth 20000 in
theorem gX8_gather_X8_listCorners : GoodIn wsX8_gather (wsV RX8 79 RX8 yX8_listCorners wsX8_listCorners) := goodIn_app (goodIn_of _ (by decide +kernel)) ggX8_gather_X8_listCorners
set_option maxRecDepth 20000 in
theorem ggX8_gather_X8_listSides : GoodIn wsX8_gather wsX8_listSides := goodIn_r _ [102, 87, 67, 68, 64, 38, 103, 89, 90, 70, 71, 72, 73, 104, 74, 75, 76, 77, 78, 79, 7, 80, 9, 11, 36, 105, 96, 97, 42, 98, 44, 45, 106, 107, 108, 109, 110, 111, 112, 113, 114, 115, 116, 117, 118, 119, 120, 121, 122, 123, 124, 125, 144, 145, 146, 147, 148, 149, 150, 151, 152, 153, 134, 135, 136, 137, 138, 139, 140, 141, 142, 143, 154, 155, 156, 157] (by decide +kernel) (by decide +kernel)
set_option maxRecDepth 20000 in
theorem gX8_gather_X8_listSides : GoodIn wsX8_gather (wsV RX8 82 RX8 yX8_listSides wsX8_listSides) := goodIn_app (goodIn_of _ (by decide +kernel)) ggX8_gather_X8_listSides
theorem dX8_gather_0 : decode cX8_gather 0 = .ok (.aload_n 0, 1) := by decide +kernel
theorem dX8_gather_1 : decode cX8_gather 1 = .ok (.iconst 0, 1) := by decide +kernel
theorem dX8_gather_2 : decode cX8_gather 2 = .ok (.putfield 56, 3) := by decide +kernel
theorem dX8_gather_5 : decode cX8_gather 5 = .ok (.aload_n 0, 1) := by decide +kernel
theorem dX8_gather_6 : decode cX8_gather 6 = .ok (.iload_n 1, 1) := by decide +kernel
theorem dX8_gather_7 : decode cX8_gather 7 = .ok (.iconst 0, 1) := by decide +kernel
theorem dX8_gather_8 : decode cX8_gather 8 = .ok (.iconst (-1), 1) := by decide +kernel
theorem dX8_gather_9 : decode cX8_gather 9 = .ok (.aload_n 2, 1) := by decide +kernel
theorem dX8_gather_10 : decode cX8_gather 10 = .ok (.invokevirtual 60, 3) := by decide +kernel
theorem dX8_gather_13 : decode cX8_gather 13 = .ok (.iconst 0, 1) := by decide +kernel
theorem dX8_gather_14 : decode cX8_gather 14 = .ok (.istore_n 3, 1) := by decide +kernel
theorem dX8_gather_15 : decode cX8_gather 15 = .ok (.iload_n 3, 1) := by decide +kernel
theorem dX8_gather_16 : decode cX8_gather 16 = .ok (.aload_n 0, 1) := by decide +kernel
theorem dX8_gather_17 : decode cX8_gather 17 = .ok (.getfield 56, 3) := by decide +kernel
theorem dX8_gather_20 : decode cX8_gather 20 = .ok (.if_icmp .ge 37, 3) := by decide +kernel
theorem dX8_gather_23 : decode cX8_gather 23 = .ok (.aload_n 0, 1) := by decide +kernel
theorem dX8_gather_24 : decode cX8_gather 24 = .ok (.iload_n 3, 1) := by decide +kernel
theorem dX8_gather_25 : decode cX8_gather 25 = .ok (.invokevirtual 64, 3) := by decide +kernel
theorem dX8_gather_28 : decode cX8_gather 28 = .ok (.aload_n 2, 1) := by decide +kernel
theorem dX8_gather_29 : decode cX8_gather 29 = .ok (.getfield 68, 3) := by decide +kernel
theorem dX8_gather_32 : decode cX8_gather 32 = .ok (.getstatic 74, 3) := by decide +kernel
theorem dX8_gather_35 : decode cX8_gather 35 = .ok (.if_acmp .ne 11, 3) := by decide +kernel
theorem dX8_gather_38 : decode cX8_gather 38 = .ok (.aload_n 0, 1) := by decide +kernel
theorem dX8_gather_39 : decode cX8_gather 39 = .ok (.iload_n 3, 1) := by decide +kernel
theorem dX8_gather_40 : decode cX8_gather 40 = .ok (.invokevirtual 79, 3) := by decide +kernel
theorem dX8_gather_43 : decode cX8_gather 43 = .ok (.goto 8, 3) := by decide +kernel
theorem dX8_gather_46 : decode cX8_gather 46 = .ok (.aload_n 0, 1) := by decide +kernel
theorem dX8_gather_47 : decode cX8_gather 47 = .ok (.iload_n 3, 1) := by decide +kernel
theorem dX8_gather_48 : decode cX8_gather 48 = .ok (.invokevirtual 82, 3) := by decide +kernel
theorem dX8_gather_51 : decode cX8_gather 51 = .ok (.iinc 3 1, 3) := by decide +kernel
theorem dX8_gather_54 : decode cX8_gather 54 = .ok (.goto (-39), 3) := by decide +kernel
theorem dX8_gather_57 : decode cX8_gather 57 = .ok (.return_, 1) := by decide +kernel

abbrev mX8_gather : sv_M := (cX8_gather, 4, yX8_gather, wsX8_gather, none, { frames := 25, cells := 0, slots := 0, locals := 600 }, [])
theorem sg_.kept {G : sv_G} {b : Nat} {k : Int32} {nc np pl : Nat} {R : Nat → Bool} {hm pa sz : Nat → Nat} {ly vo ar : Nat → Int32} {X Y : Nat → Nat → Int} {fc : Nat → Nat → Nat} {oc : Nat → Nat → Option Nat} {mp : Nat → mvT} {h1 h2 : sv_h} {S : List (List Nat × Nat)} (Z : sg_ G b k nc np pl R hm pa sz ly vo ar X Y fc oc mp h1 S) (fr : ∀ a, ¬ (b + 40 ≤ a ∧ a < b + 48) → h2 a = h1 a) : sg_ G b k nc np pl R hm pa sz ly vo ar X Y fc oc mp h2 S := by
  obtain ⟨z0, z1, ⟨fs, z2, z3⟩, ⟨fb_, z4, z5⟩, ⟨fl, z6, z7⟩, z8, z9, ⟨fq, zA, zB⟩, zC, zD, zE, zF⟩ := Z
  refine ⟨z0, (fr _ (by omega)).trans z1, ⟨fs, (fr _ (by omega)).trans z2, z3⟩, ⟨fb_, (fr _ (by omega)).trans z4, z5⟩, ⟨fl, (fr _ (by omega)).trans z6, z7⟩, fun i hi => (fr _ (by omega)).trans (z8 i hi), (fr _ (by omega)).trans z9, ⟨fq, (fr _ (by omega)).trans zA, zB⟩, fun p hp => ⟨(fr _ (by have := (zC p hp).2; omega)).trans (zC p hp).1, (zC p hp).2⟩, fun p hp hr => ?_, zE, zF⟩
  obtain ⟨fx, fy, ff, fo, v6, v7, v8, v9, vA⟩ := zD p hp hr
  have := (zC p hp).2
  exact ⟨fx, fy, ff, fo, (fr _ (by omega)).trans v6, (fr _ (by omega)).trans v7, (fr _ (by omega)).trans v8, (fr _ (by omega)).trans v9, vA⟩
/-- the scene with boxes and items of the first n occurrences -/
def sk_ (G : sv_G) (w3 : Bool) (b : Nat) (sz : Nat → Nat) (X Y : Nat → Nat → Int) (mp : Nat → mvT) (T : List Nat × Nat → Nat → List (Int × Int × Int)) (S : List (List Nat × Nat)) (n : Nat) (h1 h : sv_h) : Prop := (∃ fb fcx fcy : Nat → Int32, ab_I G h (b + 40) 400 fb ∧ ab_I G h (b + 42) 16 fcx ∧ ab_I G h (b + 43) 16 fcy ∧ ∀ i, i < n → ∀ j, j < 4 → fb (4 * i + j) = iN (bxk (cor mp X Y (S.getD i ([], 0))) (sz (S.getD i ([], 0)).2 - 1) j)) ∧ (∃ fs fa fr ft : Nat → Int32, ab_I G h (b + 44) 401 fs ∧ ab_I G h (b + 45) 1600 fa ∧ ab_I G h (b + 46) 1600 fr ∧ ab_I G h (b + 47) 1600 ft ∧ fs 0 = 0 ∧ fs (4 * n) = nI (bs T S n) ∧ ∀ i, i < n → (∀ g, g ≤ 4 → fs (4 * i + g) = nI (st_ T S i g)) ∧ ∀ g, g < 4 → it_ w3 fa fr ft (st_ T S i g) (T (S.getD i ([], 0)) g)) ∧ (∃ f, ab_I G h (b + 41) 4 f) ∧ ∀ a, ¬ (b + 40 ≤ a ∧ a < b + 48) → h a = h1 a
theorem bs_le {T : List Nat × Nat → Nat → List (Int × Int × Int)} {S : List (List Nat × Nat)} {N : Nat} (h : ∀ i, i < N → tt T (S.getD i ([], 0)) 4 ≤ 16) : ∀ i, i ≤ N → bs T S i ≤ 16 * i := by
  intro i
  induction i with
  | zero => intro _; exact Nat.le_refl 0
  | succ i ih =>
    intro hi
    have a := ih (by omega)
    have b := h i (by omega)
    show bs T S i + tt T _ 4 ≤ _
    omega
theorem bs_mono {T : List Nat × Nat → Nat → List (Int × Int × Int)} {S : List (List Nat × Nat)} {i j : Nat} (h : i ≤ j) : bs T S i ≤ bs T S j := by
  obtain ⟨k, rfl⟩ := Nat.exists_eq_add_of_le h
  induction k with
  | zero => exact Nat.le_refl _
  | succ k ih =>
    have := ih (Nat.le_add_right i k)
    show _ ≤ bs T S (i + k) + _
    omega
theorem slP_sum {P : Nat → Nat → Bool} {it : Nat → Nat → Int × Int × Int} (h : ∀ i f g, P f i = true → P g i = true → f = g) : ∀ n, (slP (P 0) (it 0) n).length + (slP (P 1) (it 1) n).length + (slP (P 2) (it 2) n).length + (slP (P 3) (it 3) n).length ≤ n := by
  have L : ∀ f n, (slP (P f) (it f) (n + 1)).length = (slP (P f) (it f) n).length + (if P f n = true then 1 else 0) := by
    intro f n
    by_cases e : P f n = true
    · rw [slP_p e, List.length_append, if_pos e]; rfl
    · rw [slP_n e, if_neg e]; rfl
  intro n
  induction n with
  | zero => exact Nat.le_refl 0
  | succ n ih =>
    rw [L, L, L, L]
    have d : ∀ f g, f ≠ g → ¬ (P f n = true ∧ P g n = true) := fun f g hne q => hne (h n f g q.1 q.2)
    have d01 := d 0 1 (by decide); have d02 := d 0 2 (by decide); have d03 := d 0 3 (by decide)
    have d12 := d 1 2 (by decide); have d13 := d 1 3 (by decide); have d23 := d 2 3 (by decide)
    by_cases e0 : P 0 n = true
    · rw [if_pos e0, if_neg (fun e => d01 ⟨e0, e⟩), if_neg (fun e => d02 ⟨e0, e⟩), if_neg (fun e => d03 ⟨e0, e⟩)]; omega
    · rw [if_neg e0]
      by_cases e1 : P 1 n = true
      · rw [if_pos e1, if_neg (fun e => d12 ⟨e1, e⟩), if_neg (fun e => d13 ⟨e1, e⟩)]; omega
      · rw [if_neg e1]
        by_cases e2 : P 2 n = true
        · rw [if_pos e2, if_neg (fun e => d23 ⟨e2, e⟩)]; omega
        · rw [if_neg e2]
          split <;> omega
theorem tt_side {mp : Nat → mvT} {sz : Nat → Nat} {X Y : Nat → Nat → Int} {fc : Nat → Nat → Nat} (q : List Nat × Nat) : tt (sideL mp sz X Y fc) q 4 ≤ sz q.2 := by
  have := slP_sum (P := fun f i => decide (mvF (mvW mp q.1) (fc q.2 i) = f)) (it := fun f => sideT f (cor mp X Y q) (sz q.2)) (fun i f g a b => (of_decide_eq_true a).symm.trans (of_decide_eq_true b)) (sz q.2)
  show 0 + _ + _ + _ + _ ≤ _
  rw [Nat.zero_add]
  exact this
theorem tt_corn {mp : Nat → mvT} {sz : Nat → Nat} {X Y : Nat → Nat → Int} {oc : Nat → Nat → Option Nat} (q : List Nat × Nat) : tt (cornL mp sz X Y oc) q 4 ≤ sz q.2 := by
  have := slP_sum (P := fun f i => cpt (mvW mp q.1) f (oc q.2 i)) (it := fun _ i => ((cor mp X Y q i).1, (cor mp X Y q i).2, (0 : Int))) (fun i f g a b => (by
    revert a b
    show cpt _ f (oc q.2 i) = true → cpt _ g (oc q.2 i) = true → f = g
    cases oc q.2 i with
    | none => intro a; exact absurd (show false = true from a) (by decide)
    | some c => intro a b; exact (of_decide_eq_true a).symm.trans (of_decide_eq_true b))) (sz q.2)
  show 0 + _ + _ + _ + _ ≤ _
  rw [Nat.zero_add]
  exact this
set_option maxHeartbeats 4000000 in
set_option maxRecDepth 100000 in
theorem l_gaths (G : sv_G) (hki : sv_ki G) (Qr : Option Value → sv_h → Nat → Prop) (h1 : sv_h) (z b : Nat) (k : Int32) (nc np pl : Nat) (R : Nat → Bool) (hm pa sz : Nat → Nat) (ly vo ar : Nat → Int32) (X Y : Nat → Nat → Int) (fc : Nat → Nat → Nat) (oc : Nat → Nat → Option Nat) (mp : Nat → mvT) (S : List (List Nat × Nat)) (Z : sg_ G b k nc np pl R hm pa sz ly vo ar X Y fc oc mp h1 S) (q : Nat) (hqa : q < b + 35 ∨ b + 164 ≤ q) (n0 : Int64) (kd : Nat) (hkd : kd < 11) (l1 l2 x3 x4 x5 x6 : Int32) (hru : h1 q = some (.inr (5, [.long n0, .ref (G.2.2.2.2.1 kd), .int l1, .int l2, .int x3, .int x4, .int x5, .int x6]))) (hcase : kd ≠ 8) (cl : Int32) (hk : ∀ h, sk_ G true b sz X Y mp (sideL mp sz X Y fc) S S.length h1 h → Qr none h z) : ∀ (e i : Nat) (h : sv_h), i + e = S.length → sk_ G true b sz X Y mp (sideL mp sz X Y fc) S i h1 h → V G mX8_gather (sv_MQ G mX8_gather Qr) 15 [(3, .int (nI i)), (0, .ref (b + 35)), (1, .int cl), (2, .ref q)] [] h z 0 0 := by
  intro e
  induction e with
  | zero =>
    intro i h hie H
    obtain ⟨⟨fb, fcx, fcy, k1, k2, k3, k4⟩, ⟨fs9, fa, fr9, ft, k5, k6, k7, k8, k9, kA, kB⟩, ⟨fsp, kC⟩, fr⟩ := id H
    obtain ⟨z0, z1, ⟨fs, z2, z3⟩, ⟨fb_, z4, z5⟩, ⟨fl, z6, z7⟩, z8, z9, ⟨fq, zA, zB⟩, zC, zD, zE, zF⟩ := id Z
    have w1 := (fr (b + 35) (by omega)).trans z1
    have w2 : ab_I G h (b + 37) 100 fs := (fr (b + 37) (by omega)).trans z2
    have w4 : ab_I G h (b + 38) 100 fb_ := (fr (b + 38) (by omega)).trans z4
    have w6 : ab_Q G h (b + 39) 3 100 fl := (fr (b + 39) (by omega)).trans z6
    have w9 := (fr (b + 1) (by omega)).trans z9
    have wA : ab_Q G h (b + 2) 4 64 fq := (fr (b + 2) (by omega)).trans zA
    have rq := (fr q (by omega)).trans hru
    refine v_iload_n dX8_gather_15 rfl 0 rfl ?_
    refine v_aload_n dX8_gather_16 rfl 1 rfl ?_
    refine v_getf 2 (ci := 6) (C := RX8) (T := TX8) (N := 14) rfl iwX8_gather_X8 (Nat.le_of_ble_eq_true rfl) (by decide +kernel) dX8_gather_17 (by first | with_reducible assumption) rfl ?_
    refine v_icmp_ge (tgt := 57) dX8_gather_20 (by decide) (fun c_20 => ?_) (fun c_20 => ?_)
    · exact v_ret rfl dX8_gather_57 (Nat.le_of_ble_eq_true rfl) (Nat.le_of_ble_eq_true rfl) (by
                have e9 : i = S.length := by omega
                rw [e9] at H
                exact hk h H)
    · exact absurd (nI_le (show S.length ≤ i by omega) (by omega)) c_20
  | succ e ih =>
    intro i h hie H
    obtain ⟨⟨fb, fcx, fcy, k1, k2, k3, k4⟩, ⟨fs9, fa, fr9, ft, k5, k6, k7, k8, k9, kA, kB⟩, ⟨fsp, kC⟩, fr⟩ := id H
    obtain ⟨z0, z1, ⟨fs, z2, z3⟩, ⟨fb_, z4, z5⟩, ⟨fl, z6, z7⟩, z8, z9, ⟨fq, zA, zB⟩, zC, zD, zE, zF⟩ := id Z
    have w1 := (fr (b + 35) (by omega)).trans z1
    have w2 : ab_I G h (b + 37) 100 fs := (fr (b + 37) (by omega)).trans z2
    have w4 : ab_I G h (b + 38) 100 fb_ := (fr (b + 38) (by omega)).trans z4
    have w6 : ab_Q G h (b + 39) 3 100 fl := (fr (b + 39) (by omega)).trans z6
    have w9 := (fr (b + 1) (by omega)).trans z9
    have wA : ab_Q G h (b + 2) 4 64 fq := (fr (b + 2) (by omega)).trans zA
    have rq := (fr q (by omega)).trans hru
    have hi : i < S.length := by omega
    obtain ⟨v1, v2, v3⟩ := zE i hi
    obtain ⟨v4, v5⟩ := zC _ v1
    obtain ⟨fx, fy, ff, fo, v6, v7, v8, v9, vA, vB, vC⟩ := zD _ v1 v2
    have u1 := (fr (b + 64 + i) (by omega)).trans (z8 i hi)
    have u2 := (fr (pa (S.getD i ([], 0)).2) (by omega)).trans v4
    have u3 : ab_I G h (pa (S.getD i ([], 0)).2 + 1) 16 fx := (fr _ (by omega)).trans v6
    have u4 : ab_I G h (pa (S.getD i ([], 0)).2 + 2) 16 fy := (fr _ (by omega)).trans v7
    have u5 : ab_I G h (pa (S.getD i ([], 0)).2 + 3) 16 ff := (fr _ (by omega)).trans v8
    have u6 : ab_I G h (pa (S.getD i ([], 0)).2 + 4) 16 fo := (fr _ (by omega)).trans v9
    refine v_iload_n dX8_gather_15 rfl 0 rfl ?_
    refine v_aload_n dX8_gather_16 rfl 1 rfl ?_
    refine v_getf 2 (ci := 6) (C := RX8) (T := TX8) (N := 14) rfl iwX8_gather_X8 (Nat.le_of_ble_eq_true rfl) (by decide +kernel) dX8_gather_17 (by repeat (first | with_reducible assumption | (with_reducible refine (q6 _ (by omega) (by omega) (by omega)).trans ?_))) (by exact rfl) ?_
    refine v_icmp_ge (tgt := 57) dX8_gather_20 (by decide) (fun c_20 => ?_) (fun c_20 => ?_)
    · exact absurd c_20 (nI_ge (show i < S.length by omega) (by omega))
    · refine v_aload_n dX8_gather_23 rfl 1 rfl ?_
      refine v_iload_n dX8_gather_24 rfl 0 rfl ?_
      refine v_callVq (M' := mX8_measure) (n := 1) (As := [_]) (ci := 6) (r := (RX8, TX8, 14)) gX8_gather_X8_measure rfl (by decide +kernel) ⟨(Nat.le_of_ble_eq_true rfl), (Nat.le_of_ble_eq_true rfl)⟩ rfl rfl dX8_gather_25 rfl ⟨(Nat.le_of_ble_eq_true rfl), (Nat.le_of_ble_eq_true rfl)⟩ (Nat.le_of_ble_eq_true rfl) (by repeat (first | with_reducible assumption | (with_reducible refine (q6 _ (by omega) (by omega) (by omega)).trans ?_))) rfl (c_measure G _ _ b k nc np pl R hm pa sz ly vo ar X Y fc oc mp S Z h fb fcx fcy k1 k2 k3 fr i hi) (fun v h2 z2 hq9 => ?_)
      obtain ⟨rfl, rfl, ⟨fb1, fcx1, fcy1, q1, q2, q3, q4, q5, q7⟩, q6⟩ := hq9
      have fr2 : ∀ a, ¬ (b + 40 ≤ a ∧ a < b + 48) → h2 a = h1 a := fun a p => (q6 a (by omega) (by omega) (by omega)).trans (fr a p)
      have hT9 : bs (sideL mp sz X Y fc) S i + tt (sideL mp sz X Y fc) (S.getD i ([], 0)) 4 ≤ 1600 := by
        have a1 := bs_le (T := (sideL mp sz X Y fc)) (S := S) (N := S.length) (fun i9 h9 => Nat.le_trans (tt_side _) (by obtain ⟨g1, g2, _⟩ := zE i9 h9; obtain ⟨_, _, _, _, _, _, _, _, _, _, g3⟩ := zD _ g1 g2; exact g3)) i (by omega)
        have a2 : tt (sideL mp sz X Y fc) (S.getD i ([], 0)) 4 ≤ 16 := Nat.le_trans (tt_side _) vC
        omega
      refine v_aload_n dX8_gather_28 rfl 3 rfl ?_
      refine v_getf 1 (ci := 5) (C := RX7) (T := TX7) (N := 8) rfl iwX8_gather_X7 (Nat.le_of_ble_eq_true rfl) (by decide +kernel) dX8_gather_29 (by repeat (first | with_reducible assumption | (with_reducible refine (q6 _ (by omega) (by omega) (by omega)).trans ?_))) (by exact rfl) ?_
      refine v_getk (i := 8) (nm := "CORNER") (by decide +kernel) (by decide +kernel) dX8_gather_32 ?_
      refine v_acmp_ne (rx := some (G.2.2.2.2.1 kd)) (ry := some (G.2.2.2.2.1 8)) (tgt := 46) dX8_gather_35 (by decide) (fun c_35 => ?_) (fun c_35 => ?_)
      · refine v_aload_n dX8_gather_46 rfl 1 rfl ?_
        refine v_iload_n dX8_gather_47 rfl 0 rfl ?_
        refine v_callVq (M' := mX8_listSides) (n := 1) (As := [_]) (ci := 6) (r := (RX8, TX8, 14)) gX8_gather_X8_listSides rfl (by decide +kernel) ⟨(Nat.le_of_ble_eq_true rfl), (Nat.le_of_ble_eq_true rfl)⟩ rfl rfl dX8_gather_48 rfl ⟨(Nat.le_of_ble_eq_true rfl), (Nat.le_of_ble_eq_true rfl)⟩ (Nat.le_of_ble_eq_true rfl) (by repeat (first | with_reducible assumption | (with_reducible refine (q6 _ (by omega) (by omega) (by omega)).trans ?_))) rfl (c_listSides G _ _ b k nc np pl R hm pa sz ly vo ar X Y fc oc mp S Z h2 fr2 i hi fcx1 fcy1 q2 q3 q7 hT9 fs9 fa fr9 ft ((q6 _ (by omega) (by omega) (by omega)).trans k5) ((q6 _ (by omega) (by omega) (by omega)).trans k6) ((q6 _ (by omega) (by omega) (by omega)).trans k7) ((q6 _ (by omega) (by omega) (by omega)).trans k8) kA) (fun v h3 z3 hq9 => ?_)
        obtain ⟨rfl, rfl, gs, ga_, gr_, gt_, g1, g2, g3, g4, g5, g6, g7, g8, g9⟩ := hq9
        refine v_iinc (j := 0) (L' := [(3, _), (0, _), (1, _), (2, _)]) (v := nI (i + 1)) dX8_gather_51 rfl (nI_1 _) (Nat.le_of_ble_eq_true rfl) rfl ?_
        refine v_goto (tgt := 15) dX8_gather_54 (by decide) ?_
        refine v_sub (L' := [(3, _), (0, _), (1, _), (2, _)]) [0, 1, 2, 3] rfl ?_
        refine ih (i + 1) _ (by omega) ⟨⟨fb1, fcx1, fcy1, (g9 _ (by omega) (by omega) (by omega) (by omega)).trans q1, (g9 _ (by omega) (by omega) (by omega) (by omega)).trans q2, (g9 _ (by omega) (by omega) (by omega) (by omega)).trans q3, fun i9 h9 j hj => ?_⟩, ⟨gs, ga_, gr_, gt_, g1, g2, g3, g4, ?_, ?_, fun i9 h9 => ?_⟩, ⟨fsp, (g9 _ (by omega) (by omega) (by omega) (by omega)).trans ((q6 _ (by omega) (by omega) (by omega)).trans kC)⟩, fun a p => (g9 a (by omega) (by omega) (by omega) (by omega)).trans (fr2 a p)⟩
        · by_cases e9 : i9 = i
          · rw [e9]; exact q4 j hj
          · exact (q5 _ (by omega)).trans (k4 i9 (by omega) j hj)
        · by_cases e9 : i = 0
          · have := g5 0 (by omega)
            rw [e9] at this
            exact this.trans nI_0
          · exact (g6 0 (by omega)).trans k9
        · have := g5 4 (by omega)
          rw [show 4 * (i + 1) = 4 * i + 4 by omega, this]
          rfl
        · by_cases e9 : i9 = i
          · rw [e9]; exact ⟨g5, g7⟩
          · obtain ⟨m1, m2⟩ := kB i9 (by omega)
            refine ⟨fun g hg => ?_, fun g hg => ?_⟩
            · by_cases e8 : 4 * i9 + g < 4 * i
              · exact (g6 _ e8).trans (m1 g hg)
              · have e7 : g = 4 ∧ i9 + 1 = i := by omega
                have := g5 0 (by omega)
                rw [show 4 * i9 + g = 4 * i + 0 by omega, this]
                refine congrArg nI ?_
                rw [e7.1, ← e7.2]
                rfl
            · refine (m2 g hg).old (J := bs (sideL mp sz X Y fc) S i) ?_ g8
              have a1 := st_le (T := (sideL mp sz X Y fc)) (S := S) (i := i9) (show g + 1 ≤ 4 by omega)
              rw [st_s] at a1
              have a2 : st_ (sideL mp sz X Y fc) S i9 4 = bs (sideL mp sz X Y fc) S (i9 + 1) := rfl
              have a3 := bs_mono (T := (sideL mp sz X Y fc)) (S := S) (show i9 + 1 ≤ i by omega)
              omega
      · exact absurd (hki kd 8 hkd (by decide) (Option.some.inj c_35)) hcase

set_option maxHeartbeats 4000000 in
set_option maxRecDepth 100000 in
theorem l_gathc (G : sv_G) (hki : sv_ki G) (Qr : Option Value → sv_h → Nat → Prop) (h1 : sv_h) (z b : Nat) (k : Int32) (nc np pl : Nat) (R : Nat → Bool) (hm pa sz : Nat → Nat) (ly vo ar : Nat → Int32) (X Y : Nat → Nat → Int) (fc : Nat → Nat → Nat) (oc : Nat → Nat → Option Nat) (mp : Nat → mvT) (S : List (List Nat × Nat)) (Z : sg_ G b k nc np pl R hm pa sz ly vo ar X Y fc oc mp h1 S) (q : Nat) (hqa : q < b + 35 ∨ b + 164 ≤ q) (n0 : Int64) (kd : Nat) (hkd : kd < 11) (l1 l2 x3 x4 x5 x6 : Int32) (hru : h1 q = some (.inr (5, [.long n0, .ref (G.2.2.2.2.1 kd), .int l1, .int l2, .int x3, .int x4, .int x5, .int x6]))) (hcase : kd = 8) (cl : Int32) (hk : ∀ h, sk_ G false b sz X Y mp (cornL mp sz X Y oc) S S.length h1 h → Qr none h z) : ∀ (e i : Nat) (h : sv_h), i + e = S.length → sk_ G false b sz X Y mp (cornL mp sz X Y oc) S i h1 h → V G mX8_gather (sv_MQ G mX8_gather Qr) 15 [(3, .int (nI i)), (0, .ref (b + 35)), (1, .int cl), (2, .ref q)] [] h z 0 0 := by
  intro e
  induction e with
  | zero =>
    intro i h hie H
    obtain ⟨⟨fb, fcx, fcy, k1, k2, k3, k4⟩, ⟨fs9, fa, fr9, ft, k5, k6, k7, k8, k9, kA, kB⟩, ⟨fsp, kC⟩, fr⟩ := id H
    obtain ⟨z0, z1, ⟨fs, z2, z3⟩, ⟨fb_, z4, z5⟩, ⟨fl, z6, z7⟩, z8, z9, ⟨fq, zA, zB⟩, zC, zD, zE, zF⟩ := id Z
    have w1 := (fr (b + 35) (by omega)).trans z1
    have w2 : ab_I G h (b + 37) 100 fs := (fr (b + 37) (by omega)).trans z2
    have w4 : ab_I G h (b + 38) 100 fb_ := (fr (b + 38) (by omega)).trans z4
    have w6 : ab_Q G h (b + 39) 3 100 fl := (fr (b + 39) (by omega)).trans z6
    have w9 := (fr (b + 1) (by omega)).trans z9
    have wA : ab_Q G h (b + 2) 4 64 fq := (fr (b + 2) (by omega)).trans zA
    have rq := (fr q (by omega)).trans hru
    refine v_iload_n dX8_gather_15 rfl 0 rfl ?_
    refine v_aload_n dX8_gather_16 rfl 1 rfl ?_
    refine v_getf 2 (ci := 6) (C := RX8) (T := TX8) (N := 14) rfl iwX8_gather_X8 (Nat.le_of_ble_eq_true rfl) (by decide +kernel) dX8_gather_17 (by first | with_reducible assumption) rfl ?_
    refine v_icmp_ge (tgt := 57) dX8_gather_20 (by decide) (fun c_20 => ?_) (fun c_20 => ?_)
    · exact v_ret rfl dX8_gather_57 (Nat.le_of_ble_eq_true rfl) (Nat.le_of_ble_eq_true rfl) (by
                have e9 : i = S.length := by omega
                rw [e9] at H
                exact hk h H)
    · exact absurd (nI_le (show S.length ≤ i by omega) (by omega)) c_20
  | succ e ih =>
    intro i h hie H
    obtain ⟨⟨fb, fcx, fcy, k1, k2, k3, k4⟩, ⟨fs9, fa, fr9, ft, k5, k6, k7, k8, k9, kA, kB⟩, ⟨fsp, kC⟩, fr⟩ := id H
    obtain ⟨z0, z1, ⟨fs, z2, z3⟩, ⟨fb_, z4, z5⟩, ⟨fl, z6, z7⟩, z8, z9, ⟨fq, zA, zB⟩, zC, zD, zE, zF⟩ := id Z
    have w1 := (fr (b + 35) (by omega)).trans z1
    have w2 : ab_I G h (b + 37) 100 fs := (fr (b + 37) (by omega)).trans z2
    have w4 : ab_I G h (b + 38) 100 fb_ := (fr (b + 38) (by omega)).trans z4
    have w6 : ab_Q G h (b + 39) 3 100 fl := (fr (b + 39) (by omega)).trans z6
    have w9 := (fr (b + 1) (by omega)).trans z9
    have wA : ab_Q G h (b + 2) 4 64 fq := (fr (b + 2) (by omega)).trans zA
    have rq := (fr q (by omega)).trans hru
    have hi : i < S.length := by omega
    obtain ⟨v1, v2, v3⟩ := zE i hi
    obtain ⟨v4, v5⟩ := zC _ v1
    obtain ⟨fx, fy, ff, fo, v6, v7, v8, v9, vA, vB, vC⟩ := zD _ v1 v2
    have u1 := (fr (b + 64 + i) (by omega)).trans (z8 i hi)
    have u2 := (fr (pa (S.getD i ([], 0)).2) (by omega)).trans v4
    have u3 : ab_I G h (pa (S.getD i ([], 0)).2 + 1) 16 fx := (fr _ (by omega)).trans v6
    have u4 : ab_I G h (pa (S.getD i ([], 0)).2 + 2) 16 fy := (fr _ (by omega)).trans v7
    have u5 : ab_I G h (pa (S.getD i ([], 0)).2 + 3) 16 ff := (fr _ (by omega)).trans v8
    have u6 : ab_I G h (pa (S.getD i ([], 0)).2 + 4) 16 fo := (fr _ (by omega)).trans v9
    refine v_iload_n dX8_gather_15 rfl 0 rfl ?_
    refine v_aload_n dX8_gather_16 rfl 1 rfl ?_
    refine v_getf 2 (ci := 6) (C := RX8) (T := TX8) (N := 14) rfl iwX8_gather_X8 (Nat.le_of_ble_eq_true rfl) (by decide +kernel) dX8_gather_17 (by repeat (first | with_reducible assumption | (with_reducible refine (q6 _ (by omega) (by omega) (by omega)).trans ?_))) (by exact rfl) ?_
    refine v_icmp_ge (tgt := 57) dX8_gather_20 (by decide) (fun c_20 => ?_) (fun c_20 => ?_)
    · exact absurd c_20 (nI_ge (show i < S.length by omega) (by omega))
    · refine v_aload_n dX8_gather_23 rfl 1 rfl ?_
      refine v_iload_n dX8_gather_24 rfl 0 rfl ?_
      refine v_callVq (M' := mX8_measure) (n := 1) (As := [_]) (ci := 6) (r := (RX8, TX8, 14)) gX8_gather_X8_measure rfl (by decide +kernel) ⟨(Nat.le_of_ble_eq_true rfl), (Nat.le_of_ble_eq_true rfl)⟩ rfl rfl dX8_gather_25 rfl ⟨(Nat.le_of_ble_eq_true rfl), (Nat.le_of_ble_eq_true rfl)⟩ (Nat.le_of_ble_eq_true rfl) (by repeat (first | with_reducible assumption | (with_reducible refine (q6 _ (by omega) (by omega) (by omega)).trans ?_))) rfl (c_measure G _ _ b k nc np pl R hm pa sz ly vo ar X Y fc oc mp S Z h fb fcx fcy k1 k2 k3 fr i hi) (fun v h2 z2 hq9 => ?_)
      obtain ⟨rfl, rfl, ⟨fb1, fcx1, fcy1, q1, q2, q3, q4, q5, q7⟩, q6⟩ := hq9
      have fr2 : ∀ a, ¬ (b + 40 ≤ a ∧ a < b + 48) → h2 a = h1 a := fun a p => (q6 a (by omega) (by omega) (by omega)).trans (fr a p)
      have hT9 : bs (cornL mp sz X Y oc) S i + tt (cornL mp sz X Y oc) (S.getD i ([], 0)) 4 ≤ 1600 := by
        have a1 := bs_le (T := (cornL mp sz X Y oc)) (S := S) (N := S.length) (fun i9 h9 => Nat.le_trans (tt_corn _) (by obtain ⟨g1, g2, _⟩ := zE i9 h9; obtain ⟨_, _, _, _, _, _, _, _, _, _, g3⟩ := zD _ g1 g2; exact g3)) i (by omega)
        have a2 : tt (cornL mp sz X Y oc) (S.getD i ([], 0)) 4 ≤ 16 := Nat.le_trans (tt_corn _) vC
        omega
      refine v_aload_n dX8_gather_28 rfl 3 rfl ?_
      refine v_getf 1 (ci := 5) (C := RX7) (T := TX7) (N := 8) rfl iwX8_gather_X7 (Nat.le_of_ble_eq_true rfl) (by decide +kernel) dX8_gather_29 (by repeat (first | with_reducible assumption | (with_reducible refine (q6 _ (by omega) (by omega) (by omega)).trans ?_))) (by exact rfl) ?_
      refine v_getk (i := 8) (nm := "CORNER") (by decide +kernel) (by decide +kernel) dX8_gather_32 ?_
      refine v_acmp_ne (rx := some (G.2.2.2.2.1 kd)) (ry := some (G.2.2.2.2.1 8)) (tgt := 46) dX8_gather_35 (by decide) (fun c_35 => ?_) (fun c_35 => ?_)
      · exact absurd (by rw [hcase]) c_35
      · refine v_aload_n dX8_gather_38 rfl 1 rfl ?_
        refine v_iload_n dX8_gather_39 rfl 0 rfl ?_
        refine v_callVq (M' := mX8_listCorners) (n := 1) (As := [_]) (ci := 6) (r := (RX8, TX8, 14)) gX8_gather_X8_listCorners rfl (by decide +kernel) ⟨(Nat.le_of_ble_eq_true rfl), (Nat.le_of_ble_eq_true rfl)⟩ rfl rfl dX8_gather_40 rfl ⟨(Nat.le_of_ble_eq_true rfl), (Nat.le_of_ble_eq_true rfl)⟩ (Nat.le_of_ble_eq_true rfl) (by repeat (first | with_reducible assumption | (with_reducible refine (q6 _ (by omega) (by omega) (by omega)).trans ?_))) rfl (c_listCorners G _ _ b k nc np pl R hm pa sz ly vo ar X Y fc oc mp S Z h2 fr2 i hi fcx1 fcy1 q2 q3 q7 hT9 fs9 fa fr9 ft ((q6 _ (by omega) (by omega) (by omega)).trans k5) ((q6 _ (by omega) (by omega) (by omega)).trans k6) ((q6 _ (by omega) (by omega) (by omega)).trans k7) ((q6 _ (by omega) (by omega) (by omega)).trans k8) kA) (fun v h3 z3 hq9 => ?_)
        obtain ⟨rfl, rfl, gs, ga_, gr_, gt_, g1, g2, g3, g4, g5, g6, g7, g8, g9⟩ := hq9
        refine v_goto (tgt := 51) dX8_gather_43 (by decide) ?_
        refine v_iinc (j := 0) (L' := [(3, _), (0, _), (1, _), (2, _)]) (v := nI (i + 1)) dX8_gather_51 rfl (nI_1 _) (Nat.le_of_ble_eq_true rfl) rfl ?_
        refine v_goto (tgt := 15) dX8_gather_54 (by decide) ?_
        refine v_sub (L' := [(3, _), (0, _), (1, _), (2, _)]) [0, 1, 2, 3] rfl ?_
        refine ih (i + 1) _ (by omega) ⟨⟨fb1, fcx1, fcy1, (g9 _ (by omega) (by omega) (by omega) (by omega)).trans q1, (g9 _ (by omega) (by omega) (by omega) (by omega)).trans q2, (g9 _ (by omega) (by omega) (by omega) (by omega)).trans q3, fun i9 h9 j hj => ?_⟩, ⟨gs, ga_, gr_, gt_, g1, g2, g3, g4, ?_, ?_, fun i9 h9 => ?_⟩, ⟨fsp, (g9 _ (by omega) (by omega) (by omega) (by omega)).trans ((q6 _ (by omega) (by omega) (by omega)).trans kC)⟩, fun a p => (g9 a (by omega) (by omega) (by omega) (by omega)).trans (fr2 a p)⟩
        · by_cases e9 : i9 = i
          · rw [e9]; exact q4 j hj
          · exact (q5 _ (by omega)).trans (k4 i9 (by omega) j hj)
        · by_cases e9 : i = 0
          · have := g5 0 (by omega)
            rw [e9] at this
            exact this.trans nI_0
          · exact (g6 0 (by omega)).trans k9
        · have := g5 4 (by omega)
          rw [show 4 * (i + 1) = 4 * i + 4 by omega, this]
          rfl
        · by_cases e9 : i9 = i
          · rw [e9]; exact ⟨g5, g7⟩
          · obtain ⟨m1, m2⟩ := kB i9 (by omega)
            refine ⟨fun g hg => ?_, fun g hg => ?_⟩
            · by_cases e8 : 4 * i9 + g < 4 * i
              · exact (g6 _ e8).trans (m1 g hg)
              · have e7 : g = 4 ∧ i9 + 1 = i := by omega
                have := g5 0 (by omega)
                rw [show 4 * i9 + g = 4 * i + 0 by omega, this]
                refine congrArg nI ?_
                rw [e7.1, ← e7.2]
                rfl
            · refine (m2 g hg).old (J := bs (cornL mp sz X Y oc) S i) ?_ g8
              have a1 := st_le (T := (cornL mp sz X Y oc)) (S := S) (i := i9) (show g + 1 ≤ 4 by omega)
              rw [st_s] at a1
              have a2 : st_ (cornL mp sz X Y oc) S i9 4 = bs (cornL mp sz X Y oc) S (i9 + 1) := rfl
              have a3 := bs_mono (T := (cornL mp sz X Y oc)) (S := S) (show i9 + 1 ≤ i by omega)
              omega

