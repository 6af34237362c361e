theorem iwX8_init_X4 : ∀ w ∈ wsX40, w ∈ wsX8_init := by decide +kernel
theorem iwX8_init_X8 : ∀ w ∈ wsX80, w ∈ wsX8_init := by decide +kernel
theorem iwX1_init_X1 : ∀ w ∈ wsX10, w ∈ wsX1_init := by decide +kernel
theorem iwX1_init_X4 : ∀ w ∈ wsX40, w ∈ wsX1_init := by decide +kernel
theorem iwX1_init_X8 : ∀ w ∈ wsX80, w ∈ wsX1_init := by decide +kernel
set_option maxRecDepth 20000 in
theorem ggX1_init_X8_init : GoodIn wsX1_init wsX8_init := goodIn_r _ [17, 18, 2, 3, 19, 20, 6, 21, 22, 23, 24, 25, 26, 27, 28, 29, 30, 31, 32, 13, 14, 33, 34, 35, 42, 43, 44, 45, 46, 47, 48, 49, 50, 51, 52, 53, 54, 55, 56, 57, 58, 59] (by decide +kernel) (by decide +kernel)
set_option maxRecDepth 20000 in
theorem ggX1_init_X4_init : GoodIn wsX1_init wsX4_init := goodIn_r _ [34, 35, 2, 3] (by decide +kernel) (by decide +kernel)
theorem dX1_init_0 : decode cX1_init 0 = .ok (.aload_n 0, 1) := by decide +kernel
theorem dX1_init_1 : decode cX1_init 1 = .ok (.invokespecial 3, 3) := by decide +kernel
theorem dX1_init_4 : decode cX1_init 4 = .ok (.aload_n 0, 1) := by decide +kernel
theorem dX1_init_5 : decode cX1_init 5 = .ok (.bipush 16, 2) := by decide +kernel
theorem dX1_init_7 : decode cX1_init 7 = .ok (.anewarray 9, 3) := by decide +kernel
theorem dX1_init_10 : decode cX1_init 10 = .ok (.putfield 11, 3) := by decide +kernel
theorem dX1_init_13 : decode cX1_init 13 = .ok (.aload_n 0, 1) := by decide +kernel
theorem dX1_init_14 : decode cX1_init 14 = .ok (.bipush 17, 2) := by decide +kernel
theorem dX1_init_16 : decode cX1_init 16 = .ok (.newarray .int, 2) := by decide +kernel
theorem dX1_init_18 : decode cX1_init 18 = .ok (.putfield 17, 3) := by decide +kernel
theorem dX1_init_21 : decode cX1_init 21 = .ok (.aload_n 0, 1) := by decide +kernel
theorem dX1_init_22 : decode cX1_init 22 = .ok (.aload_n 1, 1) := by decide +kernel
theorem dX1_init_23 : decode cX1_init 23 = .ok (.putfield 21, 3) := by decide +kernel
theorem dX1_init_26 : decode cX1_init 26 = .ok (.aload_n 0, 1) := by decide +kernel
theorem dX1_init_27 : decode cX1_init 27 = .ok (.new 25, 3) := by decide +kernel
theorem dX1_init_30 : decode cX1_init 30 = .ok (.dup, 1) := by decide +kernel
theorem dX1_init_31 : decode cX1_init 31 = .ok (.aload_n 1, 1) := by decide +kernel
theorem dX1_init_32 : decode cX1_init 32 = .ok (.invokespecial 27, 3) := by decide +kernel
theorem dX1_init_35 : decode cX1_init 35 = .ok (.putfield 30, 3) := by decide +kernel
theorem dX1_init_38 : decode cX1_init 38 = .ok (.iconst 0, 1) := by decide +kernel
theorem dX1_init_39 : decode cX1_init 39 = .ok (.istore_n 2, 1) := by decide +kernel
theorem dX1_init_40 : decode cX1_init 40 = .ok (.iload_n 2, 1) := by decide +kernel
theorem dX1_init_41 : decode cX1_init 41 = .ok (.aload_n 0, 1) := by decide +kernel
theorem dX1_init_42 : decode cX1_init 42 = .ok (.getfield 11, 3) := by decide +kernel
theorem dX1_init_45 : decode cX1_init 45 = .ok (.arraylength, 1) := by decide +kernel
theorem dX1_init_46 : decode cX1_init 46 = .ok (.if_icmp .ge 22, 3) := by decide +kernel
theorem dX1_init_49 : decode cX1_init 49 = .ok (.aload_n 0, 1) := by decide +kernel
theorem dX1_init_50 : decode cX1_init 50 = .ok (.getfield 11, 3) := by decide +kernel
theorem dX1_init_53 : decode cX1_init 53 = .ok (.iload_n 2, 1) := by decide +kernel
theorem dX1_init_54 : decode cX1_init 54 = .ok (.new 9, 3) := by decide +kernel
theorem dX1_init_57 : decode cX1_init 57 = .ok (.dup, 1) := by decide +kernel
theorem dX1_init_58 : decode cX1_init 58 = .ok (.invokespecial 34, 3) := by decide +kernel
theorem dX1_init_61 : decode cX1_init 61 = .ok (.aastore, 1) := by decide +kernel
theorem dX1_init_62 : decode cX1_init 62 = .ok (.iinc 2 1, 3) := by decide +kernel
theorem dX1_init_65 : decode cX1_init 65 = .ok (.goto (-25), 3) := by decide +kernel
theorem dX1_init_68 : decode cX1_init 68 = .ok (.return_, 1) := by decide +kernel
set_option maxRecDepth 20000 in
theorem ggX8_init_X4_init : GoodIn wsX8_init wsX4_init := goodIn_r _ [22, 23, 2, 3] (by decide +kernel) (by decide +kernel)
theorem dX8_init_0 : decode cX8_init 0 = .ok (.aload_n 0, 1) := by decide +kernel
theorem dX8_init_1 : decode cX8_init 1 = .ok (.invokespecial 3, 3) := by decide +kernel
theorem dX8_init_4 : decode cX8_init 4 = .ok (.aload_n 0, 1) := by decide +kernel
theorem dX8_init_5 : decode cX8_init 5 = .ok (.bipush 16, 2) := by decide +kernel
theorem dX8_init_7 : decode cX8_init 7 = .ok (.anewarray 9, 3) := by decide +kernel
theorem dX8_init_10 : decode cX8_init 10 = .ok (.putfield 11, 3) := by decide +kernel
theorem dX8_init_13 : decode cX8_init 13 = .ok (.aload_n 0, 1) := by decide +kernel
theorem dX8_init_14 : decode cX8_init 14 = .ok (.bipush 100, 2) := by decide +kernel
theorem dX8_init_16 : decode cX8_init 16 = .ok (.newarray .int, 2) := by decide +kernel
theorem dX8_init_18 : decode cX8_init 18 = .ok (.putfield 17, 3) := by decide +kernel
theorem dX8_init_21 : decode cX8_init 21 = .ok (.aload_n 0, 1) := by decide +kernel
theorem dX8_init_22 : decode cX8_init 22 = .ok (.bipush 100, 2) := by decide +kernel
theorem dX8_init_24 : decode cX8_init 24 = .ok (.newarray .int, 2) := by decide +kernel
theorem dX8_init_26 : decode cX8_init 26 = .ok (.putfield 21, 3) := by decide +kernel
theorem dX8_init_29 : decode cX8_init 29 = .ok (.aload_n 0, 1) := by decide +kernel
theorem dX8_init_30 : decode cX8_init 30 = .ok (.bipush 100, 2) := by decide +kernel
theorem dX8_init_32 : decode cX8_init 32 = .ok (.anewarray 9, 3) := by decide +kernel
theorem dX8_init_35 : decode cX8_init 35 = .ok (.putfield 24, 3) := by decide +kernel
theorem dX8_init_38 : decode cX8_init 38 = .ok (.aload_n 0, 1) := by decide +kernel
theorem dX8_init_39 : decode cX8_init 39 = .ok (.sipush 400, 3) := by decide +kernel
theorem dX8_init_42 : decode cX8_init 42 = .ok (.newarray .int, 2) := by decide +kernel
theorem dX8_init_44 : decode cX8_init 44 = .ok (.putfield 27, 3) := by decide +kernel
theorem dX8_init_47 : decode cX8_init 47 = .ok (.aload_n 0, 1) := by decide +kernel
theorem dX8_init_48 : decode cX8_init 48 = .ok (.iconst 4, 1) := by decide +kernel
theorem dX8_init_49 : decode cX8_init 49 = .ok (.newarray .int, 2) := by decide +kernel
theorem dX8_init_51 : decode cX8_init 51 = .ok (.putfield 30, 3) := by decide +kernel
theorem dX8_init_54 : decode cX8_init 54 = .ok (.aload_n 0, 1) := by decide +kernel
theorem dX8_init_55 : decode cX8_init 55 = .ok (.bipush 16, 2) := by decide +kernel
theorem dX8_init_57 : decode cX8_init 57 = .ok (.newarray .int, 2) := by decide +kernel
theorem dX8_init_59 : decode cX8_init 59 = .ok (.putfield 33, 3) := by decide +kernel
theorem dX8_init_62 : decode cX8_init 62 = .ok (.aload_n 0, 1) := by decide +kernel
theorem dX8_init_63 : decode cX8_init 63 = .ok (.bipush 16, 2) := by decide +kernel
theorem dX8_init_65 : decode cX8_init 65 = .ok (.newarray .int, 2) := by decide +kernel
theorem dX8_init_67 : decode cX8_init 67 = .ok (.putfield 36, 3) := by decide +kernel
theorem dX8_init_70 : decode cX8_init 70 = .ok (.aload_n 0, 1) := by decide +kernel
theorem dX8_init_71 : decode cX8_init 71 = .ok (.sipush 401, 3) := by decide +kernel
theorem dX8_init_74 : decode cX8_init 74 = .ok (.newarray .int, 2) := by decide +kernel
theorem dX8_init_76 : decode cX8_init 76 = .ok (.putfield 39, 3) := by decide +kernel
theorem dX8_init_79 : decode cX8_init 79 = .ok (.aload_n 0, 1) := by decide +kernel
theorem dX8_init_80 : decode cX8_init 80 = .ok (.sipush 1600, 3) := by decide +kernel
theorem dX8_init_83 : decode cX8_init 83 = .ok (.newarray .int, 2) := by decide +kernel
theorem dX8_init_85 : decode cX8_init 85 = .ok (.putfield 42, 3) := by decide +kernel
theorem dX8_init_88 : decode cX8_init 88 = .ok (.aload_n 0, 1) := by decide +kernel
theorem dX8_init_89 : decode cX8_init 89 = .ok (.sipush 1600, 3) := by decide +kernel
theorem dX8_init_92 : decode cX8_init 92 = .ok (.newarray .int, 2) := by decide +kernel
theorem dX8_init_94 : decode cX8_init 94 = .ok (.putfield 45, 3) := by decide +kernel
theorem dX8_init_97 : decode cX8_init 97 = .ok (.aload_n 0, 1) := by decide +kernel
theorem dX8_init_98 : decode cX8_init 98 = .ok (.sipush 1600, 3) := by decide +kernel
theorem dX8_init_101 : decode cX8_init 101 = .ok (.newarray .int, 2) := by decide +kernel
theorem dX8_init_103 : decode cX8_init 103 = .ok (.putfield 48, 3) := by decide +kernel
theorem dX8_init_106 : decode cX8_init 106 = .ok (.aload_n 0, 1) := by decide +kernel
theorem dX8_init_107 : decode cX8_init 107 = .ok (.aload_n 1, 1) := by decide +kernel
theorem dX8_init_108 : decode cX8_init 108 = .ok (.putfield 51, 3) := by decide +kernel
theorem dX8_init_111 : decode cX8_init 111 = .ok (.iconst 0, 1) := by decide +kernel
theorem dX8_init_112 : decode cX8_init 112 = .ok (.istore_n 2, 1) := by decide +kernel
theorem dX8_init_113 : decode cX8_init 113 = .ok (.iload_n 2, 1) := by decide +kernel
theorem dX8_init_114 : decode cX8_init 114 = .ok (.aload_n 0, 1) := by decide +kernel
theorem dX8_init_115 : decode cX8_init 115 = .ok (.getfield 11, 3) := by decide +kernel
theorem dX8_init_118 : decode cX8_init 118 = .ok (.arraylength, 1) := by decide +kernel
theorem dX8_init_119 : decode cX8_init 119 = .ok (.if_icmp .ge 22, 3) := by decide +kernel
theorem dX8_init_122 : decode cX8_init 122 = .ok (.aload_n 0, 1) := by decide +kernel
theorem dX8_init_123 : decode cX8_init 123 = .ok (.getfield 11, 3) := by decide +kernel
theorem dX8_init_126 : decode cX8_init 126 = .ok (.iload_n 2, 1) := by decide +kernel
theorem dX8_init_127 : decode cX8_init 127 = .ok (.new 9, 3) := by decide +kernel
theorem dX8_init_130 : decode cX8_init 130 = .ok (.dup, 1) := by decide +kernel
theorem dX8_init_131 : decode cX8_init 131 = .ok (.invokespecial 55, 3) := by decide +kernel
theorem dX8_init_134 : decode cX8_init 134 = .ok (.aastore, 1) := by decide +kernel
theorem dX8_init_135 : decode cX8_init 135 = .ok (.iinc 2 1, 3) := by decide +kernel
theorem dX8_init_138 : decode cX8_init 138 = .ok (.goto (-25), 3) := by decide +kernel
theorem dX8_init_141 : decode cX8_init 141 = .ok (.iconst 0, 1) := by decide +kernel
theorem dX8_init_142 : decode cX8_init 142 = .ok (.istore_n 2, 1) := by decide +kernel
theorem dX8_init_143 : decode cX8_init 143 = .ok (.iload_n 2, 1) := by decide +kernel
theorem dX8_init_144 : decode cX8_init 144 = .ok (.aload_n 0, 1) := by decide +kernel
theorem dX8_init_145 : decode cX8_init 145 = .ok (.getfield 24, 3) := by decide +kernel
theorem dX8_init_148 : decode cX8_init 148 = .ok (.arraylength, 1) := by decide +kernel
theorem dX8_init_149 : decode cX8_init 149 = .ok (.if_icmp .ge 22, 3) := by decide +kernel
theorem dX8_init_152 : decode cX8_init 152 = .ok (.aload_n 0, 1) := by decide +kernel
theorem dX8_init_153 : decode cX8_init 153 = .ok (.getfield 24, 3) := by decide +kernel
theorem dX8_init_156 : decode cX8_init 156 = .ok (.iload_n 2, 1) := by decide +kernel
theorem dX8_init_157 : decode cX8_init 157 = .ok (.new 9, 3) := by decide +kernel
theorem dX8_init_160 : decode cX8_init 160 = .ok (.dup, 1) := by decide +kernel
theorem dX8_init_161 : decode cX8_init 161 = .ok (.invokespecial 55, 3) := by decide +kernel
theorem dX8_init_164 : decode cX8_init 164 = .ok (.aastore, 1) := by decide +kernel
theorem dX8_init_165 : decode cX8_init 165 = .ok (.iinc 2 1, 3) := by decide +kernel
theorem dX8_init_168 : decode cX8_init 168 = .ok (.goto (-25), 3) := by decide +kernel
theorem dX8_init_171 : decode cX8_init 171 = .ok (.return_, 1) := by decide +kernel

abbrev mX8_init : sv_M := (cX8_init, 3, yX8_init, wsX8_init, none, { frames := 2, cells := 128, slots := 6417, locals := 40 }, [])
set_option maxHeartbeats 4000000 in
set_option maxRecDepth 100000 in
theorem l_Scene_init1 (G : sv_G) (P : sv_P) (h : sv_h) (z0 r A : Nat) (ly p3 p4 p5 p6 p7 p8 p9 p10 p11 p12 p13 : Nat) (hr0 : r < z0) (hA0 : A < z0) (hrA : r ≠ A) (hk : ∀ (hi : sv_h) (f : Nat → Option Nat), hi r = some (.inr (6, [.ref ly, .ref A, .int 0, .ref p3, .ref p4, .ref p5, .ref p6, .ref p7, .ref p8, .ref p9, .ref p10, .ref p11, .ref p12, .ref p13])) → hi A = some (.inl (G.2.2.1 3, 16, .inr (.inr (.inr (.inr f))))) → (∀ j, j < 16 → f j = some (z0 + j) ∧ hi (z0 + j) = some (.inr (2, [.int 0, .int 0, .int 0, .int 0]))) → (∀ a, a < z0 → a ≠ A → hi a = h a) → V G mX8_init P 141 [(2, .int (nI 16)), (0, .ref r), (1, .ref ly)] [] hi (z0 + 16) (12 + 16) (5953 + 64)) : ∀ (cn i : Nat) (hi : sv_h) (f : Nat → Option Nat), i + cn = 16 → hi r = some (.inr (6, [.ref ly, .ref A, .int 0, .ref p3, .ref p4, .ref p5, .ref p6, .ref p7, .ref p8, .ref p9, .ref p10, .ref p11, .ref p12, .ref p13])) → hi A = some (.inl (G.2.2.1 3, 16, .inr (.inr (.inr (.inr f))))) → (∀ j, j < i → f j = some (z0 + j) ∧ hi (z0 + j) = some (.inr (2, [.int 0, .int 0, .int 0, .int 0]))) → (∀ a, a < z0 → a ≠ A → hi a = h a) → V G mX8_init P 113 [(2, .int (nI i)), (0, .ref r), (1, .ref ly)] [] hi (z0 + i) (12 + i) (5953 + 4 * i) := by
  intro cn
  induction cn with
  | zero =>
    intro i hi f hik hr hA hf hfr
    refine v_iload_n dX8_init_113 rfl 0 rfl ?_
    refine v_aload_n dX8_init_114 rfl 1 rfl ?_
    refine v_getf 1 (ci := 6) (C := RX8) (T := TX8) (N := 14) rfl iwX8_init_X8 (Nat.le_of_ble_eq_true rfl) (by decide +kernel) dX8_init_115 (by repeat (first | (with_reducible refine sv_us.trans ?_; exact rfl) | with_reducible assumption | with_reducible refine (sv_un (by omega)).trans ?_)) rfl ?_
    refine v_alen (t := 3) dX8_init_118 (fun _ => rfl) (by repeat (first | (with_reducible refine sv_us.trans ?_; exact rfl) | with_reducible assumption | with_reducible refine (sv_un (by omega)).trans ?_)) rfl ?_
    refine v_icmp_ge (tgt := 141) dX8_init_119 (by decide) (fun c_119 => ?_) (fun c_119 => ?_)
    · obtain rfl : i = 16 := by omega
      exact hk hi f hr hA hf hfr
    · exact absurd (show nI 16 ≤ nI i from nI_le (by omega) (by omega)) c_119
  | succ cn ih =>
    intro i hi f hik hr hA hf hfr
    refine v_iload_n dX8_init_113 rfl 0 rfl ?_
    refine v_aload_n dX8_init_114 rfl 1 rfl ?_
    refine v_getf 1 (ci := 6) (C := RX8) (T := TX8) (N := 14) rfl iwX8_init_X8 (Nat.le_of_ble_eq_true rfl) (by decide +kernel) dX8_init_115 (by repeat (first | (with_reducible refine sv_us.trans ?_; exact rfl) | with_reducible assumption | with_reducible refine (sv_un (by omega)).trans ?_)) rfl ?_
    refine v_alen (t := 3) dX8_init_118 (fun _ => rfl) (by repeat (first | (with_reducible refine sv_us.trans ?_; exact rfl) | with_reducible assumption | with_reducible refine (sv_un (by omega)).trans ?_)) rfl ?_
    refine v_icmp_ge (tgt := 141) dX8_init_119 (by decide) (fun c_119 => ?_) (fun c_119 => ?_)
    · exact absurd c_119 (nI_ge (a := i) (b := 16) (by omega) (by omega))
    · refine v_aload_n dX8_init_122 rfl 1 rfl ?_
      refine v_getf 1 (ci := 6) (C := RX8) (T := TX8) (N := 14) rfl iwX8_init_X8 (Nat.le_of_ble_eq_true rfl) (by decide +kernel) dX8_init_123 (by repeat (first | (with_reducible refine sv_us.trans ?_; exact rfl) | with_reducible assumption | with_reducible refine (sv_un (by omega)).trans ?_)) rfl ?_
      refine v_iload_n dX8_init_126 rfl 0 rfl ?_
      refine v_new (ci := 2) (C := RX4) (T := TX4) (N := 4) (fs := [.int 0, .int 0, .int 0, .int 0]) rfl iwX8_init_X4 tyX4 tyX4_ok (by decide +kernel) (by decide +kernel) (by decide +kernel) dX8_init_127 (by decide +kernel) (by show 12 + i + 1 ≤ 128; omega) (by show 5953 + 4 * i + 4 ≤ 6417; omega) ?_
      refine v_dup dX8_init_130 rfl ?_
      refine v_callIN (M' := mX4_init) (n := 0) (As := []) ggX8_init_X4_init (by decide +kernel) (by decide +kernel) (by decide +kernel) rfl rfl (by decide +kernel) ⟨(Nat.le_of_ble_eq_true rfl), (Nat.le_of_ble_eq_true rfl)⟩ dX8_init_131 rfl ⟨by show 12 + i + 1 + 0 ≤ 128; omega, by show 5953 + 4 * i + 4 + 0 ≤ 6417; omega⟩ (Nat.le_of_ble_eq_true rfl) rfl (c_Move_init G _ _ _) (fun v h1 z1 hq => ?_)
      obtain ⟨rfl, rfl, rfl⟩ := hq
      refine v_aast (t := 3) (r := (RX4, TX4, 4)) (ci := 2) dX8_init_134 (fun _ => rfl) rfl (by repeat (first | (with_reducible refine sv_us.trans ?_; exact rfl) | with_reducible assumption | with_reducible refine (sv_un (by omega)).trans ?_)) sv_us (vp_in_nI (by omega) (by omega)) ?_
      refine v_iinc (j := 0) (L' := [(2, _), (0, _), (1, _)]) (v := nI (i + 1)) dX8_init_135 rfl (nI_1 i) (Nat.le_of_ble_eq_true rfl) rfl ?_
      refine v_goto (tgt := 113) dX8_init_138 (by decide) ?_
      refine v_sub (L' := [(2, _), (0, _), (1, _)]) [0, 1, 2] rfl ?_
      refine v_widen (ce' := 12 + (i + 1)) (sl' := 5953 + 4 * (i + 1)) (by show 12 + i + 1 + 0 ≤ _; omega) (by show 5953 + 4 * i + 4 + 0 ≤ _; omega) ?_
      have ecl : (nI i).toNatClampNeg = i := nI_clamp (by omega)
      refine ih (i + 1) _ _ (by omega) (by repeat (first | (with_reducible refine sv_us.trans ?_; exact rfl) | with_reducible assumption | with_reducible refine (sv_un (by omega)).trans ?_)) sv_us (fun j hj => ?_) (fun a q1 q2 => ?_)
      · rcases Nat.lt_or_ge j i with hj2 | hj2
        · obtain ⟨e1, e2⟩ := hf j hj2
          exact ⟨by rw [ecl, sv_un (by omega)]; exact e1, by repeat (first | exact e2 | refine (sv_un (by omega)).trans ?_)⟩
        · obtain rfl : j = i := by omega
          exact ⟨by rw [ecl, sv_us], by repeat (first | exact sv_us | refine (sv_un (by omega)).trans ?_)⟩
      · repeat (first | exact hfr a q1 q2 | refine (sv_un (by omega)).trans ?_)

set_option maxHeartbeats 4000000 in
set_option maxRecDepth 100000 in
theorem l_Scene_init2 (G : sv_G) (P : sv_P) (h : sv_h) (z0 r A : Nat) (ly p1 p3 p4 p6 p7 p8 p9 p10 p11 p12 p13 : Nat) (hr0 : r < z0) (hA0 : A < z0) (hrA : r ≠ A) (hk : ∀ (hi : sv_h) (f : Nat → Option Nat), hi r = some (.inr (6, [.ref ly, .ref p1, .int 0, .ref p3, .ref p4, .ref A, .ref p6, .ref p7, .ref p8, .ref p9, .ref p10, .ref p11, .ref p12, .ref p13])) → hi A = some (.inl (G.2.2.1 3, 100, .inr (.inr (.inr (.inr f))))) → (∀ j, j < 100 → f j = some (z0 + j) ∧ hi (z0 + j) = some (.inr (2, [.int 0, .int 0, .int 0, .int 0]))) → (∀ a, a < z0 → a ≠ A → hi a = h a) → V G mX8_init P 171 [(2, .int (nI 100)), (0, .ref r), (1, .ref ly)] [] hi (z0 + 100) (28 + 100) (6017 + 400)) : ∀ (cn i : Nat) (hi : sv_h) (f : Nat → Option Nat), i + cn = 100 → hi r = some (.inr (6, [.ref ly, .ref p1, .int 0, .ref p3, .ref p4, .ref A, .ref p6, .ref p7, .ref p8, .ref p9, .ref p10, .ref p11, .ref p12, .ref p13])) → hi A = some (.inl (G.2.2.1 3, 100, .inr (.inr (.inr (.inr f))))) → (∀ j, j < i → f j = some (z0 + j) ∧ hi (z0 + j) = some (.inr (2, [.int 0, .int 0, .int 0, .int 0]))) → (∀ a, a < z0 → a ≠ A → hi a = h a) → V G mX8_init P 143 [(2, .int (nI i)), (0, .ref r), (1, .ref ly)] [] hi (z0 + i) (28 + i) (6017 + 4 * i) := by
  intro cn
  induction cn with
  | zero =>
    intro i hi f hik hr hA hf hfr
    refine v_iload_n dX8_init_143 rfl 0 rfl ?_
    refine v_aload_n dX8_init_144 rfl 1 rfl ?_
    refine v_getf 5 (ci := 6) (C := RX8) (T := TX8) (N := 14) rfl iwX8_init_X8 (Nat.le_of_ble_eq_true rfl) (by decide +kernel) dX8_init_145 (by repeat (first | (with_reducible refine sv_us.trans ?_; exact rfl) | with_reducible assumption | with_reducible refine (sv_un (by omega)).trans ?_)) rfl ?_
    refine v_alen (t := 3) dX8_init_148 (fun _ => rfl) (by repeat (first | (with_reducible refine sv_us.trans ?_; exact rfl) | with_reducible assumption | with_reducible refine (sv_un (by omega)).trans ?_)) rfl ?_
    refine v_icmp_ge (tgt := 171) dX8_init_149 (by decide) (fun c_149 => ?_) (fun c_149 => ?_)
    · obtain rfl : i = 100 := by omega
      exact hk hi f hr hA hf hfr
    · exact absurd (show nI 100 ≤ nI i from nI_le (by omega) (by omega)) c_149
  | succ cn ih =>
    intro i hi f hik hr hA hf hfr
    refine v_iload_n dX8_init_143 rfl 0 rfl ?_
    refine v_aload_n dX8_init_144 rfl 1 rfl ?_
    refine v_getf 5 (ci := 6) (C := RX8) (T := TX8) (N := 14) rfl iwX8_init_X8 (Nat.le_of_ble_eq_true rfl) (by decide +kernel) dX8_init_145 (by repeat (first | (with_reducible refine sv_us.trans ?_; exact rfl) | with_reducible assumption | with_reducible refine (sv_un (by omega)).trans ?_)) rfl ?_
    refine v_alen (t := 3) dX8_init_148 (fun _ => rfl) (by repeat (first | (with_reducible refine sv_us.trans ?_; exact rfl) | with_reducible assumption | with_reducible refine (sv_un (by omega)).trans ?_)) rfl ?_
    refine v_icmp_ge (tgt := 171) dX8_init_149 (by decide) (fun c_149 => ?_) (fun c_149 => ?_)
    · exact absurd c_149 (nI_ge (a := i) (b := 100) (by omega) (by omega))
    · refine v_aload_n dX8_init_152 rfl 1 rfl ?_
      refine v_getf 5 (ci := 6) (C := RX8) (T := TX8) (N := 14) rfl iwX8_init_X8 (Nat.le_of_ble_eq_true rfl) (by decide +kernel) dX8_init_153 (by repeat (first | (with_reducible refine sv_us.trans ?_; exact rfl) | with_reducible assumption | with_reducible refine (sv_un (by omega)).trans ?_)) rfl ?_
      refine v_iload_n dX8_init_156 rfl 0 rfl ?_
      refine v_new (ci := 2) (C := RX4) (T := TX4) (N := 4) (fs := [.int 0, .int 0, .int 0, .int 0]) rfl iwX8_init_X4 tyX4 tyX4_ok (by decide +kernel) (by decide +kernel) (by decide +kernel) dX8_init_157 (by decide +kernel) (by show 28 + i + 1 ≤ 128; omega) (by show 6017 + 4 * i + 4 ≤ 6417; omega) ?_
      refine v_dup dX8_init_160 rfl ?_
      refine v_callIN (M' := mX4_init) (n := 0) (As := []) ggX8_init_X4_init (by decide +kernel) (by decide +kernel) (by decide +kernel) rfl rfl (by decide +kernel) ⟨(Nat.le_of_ble_eq_true rfl), (Nat.le_of_ble_eq_true rfl)⟩ dX8_init_161 rfl ⟨by show 28 + i + 1 + 0 ≤ 128; omega, by show 6017 + 4 * i + 4 + 0 ≤ 6417; omega⟩ (Nat.le_of_ble_eq_true rfl) rfl (c_Move_init G _ _ _) (fun v h1 z1 hq => ?_)
      obtain ⟨rfl, rfl, rfl⟩ := hq
      refine v_aast (t := 3) (r := (RX4, TX4, 4)) (ci := 2) dX8_init_164 (fun _ => rfl) rfl (by repeat (first | (with_reducible refine sv_us.trans ?_; exact rfl) | with_reducible assumption | with_reducible refine (sv_un (by omega)).trans ?_)) sv_us (vp_in_nI (by omega) (by omega)) ?_
      refine v_iinc (j := 0) (L' := [(2, _), (0, _), (1, _)]) (v := nI (i + 1)) dX8_init_165 rfl (nI_1 i) (Nat.le_of_ble_eq_true rfl) rfl ?_
      refine v_goto (tgt := 143) dX8_init_168 (by decide) ?_
      refine v_sub (L' := [(2, _), (0, _), (1, _)]) [0, 1, 2] rfl ?_
      refine v_widen (ce' := 28 + (i + 1)) (sl' := 6017 + 4 * (i + 1)) (by show 28 + i + 1 + 0 ≤ _; omega) (by show 6017 + 4 * i + 4 + 0 ≤ _; omega) ?_
      have ecl : (nI i).toNatClampNeg = i := nI_clamp (by omega)
      refine ih (i + 1) _ _ (by omega) (by repeat (first | (with_reducible refine sv_us.trans ?_; exact rfl) | with_reducible assumption | with_reducible refine (sv_un (by omega)).trans ?_)) sv_us (fun j hj => ?_) (fun a q1 q2 => ?_)
      · rcases Nat.lt_or_ge j i with hj2 | hj2
        · obtain ⟨e1, e2⟩ := hf j hj2
          exact ⟨by rw [ecl, sv_un (by omega)]; exact e1, by repeat (first | exact e2 | refine (sv_un (by omega)).trans ?_)⟩
        · obtain rfl : j = i := by omega
          exact ⟨by rw [ecl, sv_us], by repeat (first | exact sv_us | refine (sv_un (by omega)).trans ?_)⟩
      · repeat (first | exact hfr a q1 q2 | refine (sv_un (by omega)).trans ?_)

set_option maxHeartbeats 4000000 in
set_option maxRecDepth 100000 in
theorem c_Scene_init (G : sv_G) (h : sv_h) (z r ly : Nat) (hz : r < z) (ht : h r = some (.inr (6, [.null, .null, .int 0, .null, .null, .null, .null, .null, .null, .null, .null, .null, .null, .null]))) : CT G mX8_init [.ref r, .ref ly] h z (fun v h1 z1 => v = none ∧ z1 = z + 128 ∧ h1 r = some (.inr (6, [.ref ly, .ref z, .int 0, .ref (z + 1), .ref (z + 2), .ref (z + 3), .ref (z + 4), .ref (z + 5), .ref (z + 6), .ref (z + 7), .ref (z + 8), .ref (z + 9), .ref (z + 10), .ref (z + 11)])) ∧ (h1 (z + 1) = some (.inl (G.2.2.1 0, 100, .inl (fun _ => 0))) ∧ h1 (z + 2) = some (.inl (G.2.2.1 0, 100, .inl (fun _ => 0))) ∧ h1 (z + 4) = some (.inl (G.2.2.1 0, 400, .inl (fun _ => 0))) ∧ h1 (z + 5) = some (.inl (G.2.2.1 0, 4, .inl (fun _ => 0))) ∧ h1 (z + 6) = some (.inl (G.2.2.1 0, 16, .inl (fun _ => 0))) ∧ h1 (z + 7) = some (.inl (G.2.2.1 0, 16, .inl (fun _ => 0))) ∧ h1 (z + 8) = some (.inl (G.2.2.1 0, 401, .inl (fun _ => 0))) ∧ h1 (z + 9) = some (.inl (G.2.2.1 0, 1600, .inl (fun _ => 0))) ∧ h1 (z + 10) = some (.inl (G.2.2.1 0, 1600, .inl (fun _ => 0))) ∧ h1 (z + 11) = some (.inl (G.2.2.1 0, 1600, .inl (fun _ => 0)))) ∧ (∃ f : Nat → Option Nat, h1 z = some (.inl (G.2.2.1 3, 16, .inr (.inr (.inr (.inr f))))) ∧ ∀ j, j < 16 → f j = some (z + 12 + j) ∧ h1 (z + 12 + j) = some (.inr (2, [.int 0, .int 0, .int 0, .int 0]))) ∧ (∃ f : Nat → Option Nat, h1 (z + 3) = some (.inl (G.2.2.1 3, 100, .inr (.inr (.inr (.inr f))))) ∧ ∀ j, j < 100 → f j = some (z + 28 + j) ∧ h1 (z + 28 + j) = some (.inr (2, [.int 0, .int 0, .int 0, .int 0]))) ∧ ∀ a, a < z → a ≠ r → h1 a = h a) := by
  refine CT.of (by decide +kernel) rfl rfl (Nat.le_of_ble_eq_true rfl) ?_
  refine v_aload_n dX8_init_0 rfl 0 rfl ?_
  refine v_objI (by decide +kernel) (by decide +kernel) (by decide +kernel) dX8_init_1 (Nat.le_of_ble_eq_true rfl) (Nat.le_of_ble_eq_true rfl) ?_
  refine v_aload_n dX8_init_4 rfl 0 rfl ?_
  refine v_bipush (v := 16) dX8_init_5 (by decide) ?_
  refine v_newQ (E := RX4) (t := 3) (N := 16) (by decide +kernel) dX8_init_7 (fun _ => rfl) (fun _ K => K.2.2.2.1) (by decide) (by decide) (by decide) (Nat.le_of_ble_eq_true rfl) (Nat.le_of_ble_eq_true rfl) ?_
  refine v_putF 1 (fs' := [_, _, _, _, _, _, _, _, _, _, _, _, _, _]) (ci := 6) (C := RX8) (T := TX8) (N := 14) (ty := (.array (.object "RuleDeck$Move"))) rfl iwX8_init_X8 tyX8 tyX8_ok nmX8 (Nat.le_of_ble_eq_true rfl) (by decide +kernel) rfl rfl rfl rfl dX8_init_10 rfl rfl (by repeat (first | (with_reducible refine sv_us.trans ?_; exact rfl) | with_reducible assumption | with_reducible refine (sv_un (by omega)).trans ?_)) (Nat.le_of_ble_eq_true rfl) rfl ?_
  refine v_aload_n dX8_init_13 rfl 0 rfl ?_
  refine v_bipush (v := 100) dX8_init_14 (by decide) ?_
  refine v_newI (N := 100) (by decide +kernel) dX8_init_16 (by decide) (by decide) (by decide) (Nat.le_of_ble_eq_true rfl) (Nat.le_of_ble_eq_true rfl) ?_
  refine v_putF 3 (fs' := [_, _, _, _, _, _, _, _, _, _, _, _, _, _]) (ci := 6) (C := RX8) (T := TX8) (N := 14) (ty := (.array .int)) rfl iwX8_init_X8 tyX8 tyX8_ok nmX8 (Nat.le_of_ble_eq_true rfl) (by decide +kernel) rfl rfl rfl rfl dX8_init_18 rfl rfl (by repeat (first | (with_reducible refine sv_us.trans ?_; exact rfl) | with_reducible assumption | with_reducible refine (sv_un (by omega)).trans ?_)) (Nat.le_of_ble_eq_true rfl) rfl ?_
  refine v_aload_n dX8_init_21 rfl 0 rfl ?_
  refine v_bipush (v := 100) dX8_init_22 (by decide) ?_
  refine v_newI (N := 100) (by decide +kernel) dX8_init_24 (by decide) (by decide) (by decide) (Nat.le_of_ble_eq_true rfl) (Nat.le_of_ble_eq_true rfl) ?_
  refine v_putF 4 (fs' := [_, _, _, _, _, _, _, _, _, _, _, _, _, _]) (ci := 6) (C := RX8) (T := TX8) (N := 14) (ty := (.array .int)) rfl iwX8_init_X8 tyX8 tyX8_ok nmX8 (Nat.le_of_ble_eq_true rfl) (by decide +kernel) rfl rfl rfl rfl dX8_init_26 rfl rfl (by repeat (first | (with_reducible refine sv_us.trans ?_; exact rfl) | with_reducible assumption | with_reducible refine (sv_un (by omega)).trans ?_)) (Nat.le_of_ble_eq_true rfl) rfl ?_
  refine v_aload_n dX8_init_29 rfl 0 rfl ?_
  refine v_bipush (v := 100) dX8_init_30 (by decide) ?_
  refine v_newQ (E := RX4) (t := 3) (N := 100) (by decide +kernel) dX8_init_32 (fun _ => rfl) (fun _ K => K.2.2.2.1) (by decide) (by decide) (by decide) (Nat.le_of_ble_eq_true rfl) (Nat.le_of_ble_eq_true rfl) ?_
  refine v_putF 5 (fs' := [_, _, _, _, _, _, _, _, _, _, _, _, _, _]) (ci := 6) (C := RX8) (T := TX8) (N := 14) (ty := (.array (.object "RuleDeck$Move"))) rfl iwX8_init_X8 tyX8 tyX8_ok nmX8 (Nat.le_of_ble_eq_true rfl) (by decide +kernel) rfl rfl rfl rfl dX8_init_35 rfl rfl (by repeat (first | (with_reducible refine sv_us.trans ?_; exact rfl) | with_reducible assumption | with_reducible refine (sv_un (by omega)).trans ?_)) (Nat.le_of_ble_eq_true rfl) rfl ?_
  refine v_aload_n dX8_init_38 rfl 0 rfl ?_
  refine v_sipush (v := 400) dX8_init_39 (by decide) ?_
  refine v_newI (N := 400) (by decide +kernel) dX8_init_42 (by decide) (by decide) (by decide) (Nat.le_of_ble_eq_true rfl) (Nat.le_of_ble_eq_true rfl) ?_
  refine v_putF 6 (fs' := [_, _, _, _, _, _, _, _, _, _, _, _, _, _]) (ci := 6) (C := RX8) (T := TX8) (N := 14) (ty := (.array .int)) rfl iwX8_init_X8 tyX8 tyX8_ok nmX8 (Nat.le_of_ble_eq_true rfl) (by decide +kernel) rfl rfl rfl rfl dX8_init_44 rfl rfl (by repeat (first | (with_reducible refine sv_us.trans ?_; exact rfl) | with_reducible assumption | with_reducible refine (sv_un (by omega)).trans ?_)) (Nat.le_of_ble_eq_true rfl) rfl ?_
  refine v_aload_n dX8_init_47 rfl 0 rfl ?_
  refine v_iconst (v := 4) dX8_init_48 (by decide) ?_
  refine v_newI (N := 4) (by decide +kernel) dX8_init_49 (by decide) (by decide) (by decide) (Nat.le_of_ble_eq_true rfl) (Nat.le_of_ble_eq_true rfl) ?_
  refine v_putF 7 (fs' := [_, _, _, _, _, _, _, _, _, _, _, _, _, _]) (ci := 6) (C := RX8) (T := TX8) (N := 14) (ty := (.array .int)) rfl iwX8_init_X8 tyX8 tyX8_ok nmX8 (Nat.le_of_ble_eq_true rfl) (by decide +kernel) rfl rfl rfl rfl dX8_init_51 rfl rfl (by repeat (first | (with_reducible refine sv_us.trans ?_; exact rfl) | with_reducible assumption | with_reducible refine (sv_un (by omega)).trans ?_)) (Nat.le_of_ble_eq_true rfl) rfl ?_
  refine v_aload_n dX8_init_54 rfl 0 rfl ?_
  refine v_bipush (v := 16) dX8_init_55 (by decide) ?_
  refine v_newI (N := 16) (by decide +kernel) dX8_init_57 (by decide) (by decide) (by decide) (Nat.le_of_ble_eq_true rfl) (Nat.le_of_ble_eq_true rfl) ?_
  refine v_putF 8 (fs' := [_, _, _, _, _, _, _, _, _, _, _, _, _, _]) (ci := 6) (C := RX8) (T := TX8) (N := 14) (ty := (.array .int)) rfl iwX8_init_X8 tyX8 tyX8_ok nmX8 (Nat.le_of_ble_eq_true rfl) (by decide +kernel) rfl rfl rfl rfl dX8_init_59 rfl rfl (by repeat (first | (with_reducible refine sv_us.trans ?_; exact rfl) | with_reducible assumption | with_reducible refine (sv_un (by omega)).trans ?_)) (Nat.le_of_ble_eq_true rfl) rfl ?_
  refine v_aload_n dX8_init_62 rfl 0 rfl ?_
  refine v_bipush (v := 16) dX8_init_63 (by decide) ?_
  refine v_newI (N := 16) (by decide +kernel) dX8_init_65 (by decide) (by decide) (by decide) (Nat.le_of_ble_eq_true rfl) (Nat.le_of_ble_eq_true rfl) ?_
  refine v_putF 9 (fs' := [_, _, _, _, _, _, _, _, _, _, _, _, _, _]) (ci := 6) (C := RX8) (T := TX8) (N := 14) (ty := (.array .int)) rfl iwX8_init_X8 tyX8 tyX8_ok nmX8 (Nat.le_of_ble_eq_true rfl) (by decide +kernel) rfl rfl rfl rfl dX8_init_67 rfl rfl (by repeat (first | (with_reducible refine sv_us.trans ?_; exact rfl) | with_reducible assumption | with_reducible refine (sv_un (by omega)).trans ?_)) (Nat.le_of_ble_eq_true rfl) rfl ?_
  refine v_aload_n dX8_init_70 rfl 0 rfl ?_
  refine v_sipush (v := 401) dX8_init_71 (by decide) ?_
  refine v_newI (N := 401) (by decide +kernel) dX8_init_74 (by decide) (by decide) (by decide) (Nat.le_of_ble_eq_true rfl) (Nat.le_of_ble_eq_true rfl) ?_
  refine v_putF 10 (fs' := [_, _, _, _, _, _, _, _, _, _, _, _, _, _]) (ci := 6) (C := RX8) (T := TX8) (N := 14) (ty := (.array .int)) rfl iwX8_init_X8 tyX8 tyX8_ok nmX8 (Nat.le_of_ble_eq_true rfl) (by decide +kernel) rfl rfl rfl rfl dX8_init_76 rfl rfl (by repeat (first | (with_reducible refine sv_us.trans ?_; exact rfl) | with_reducible assumption | with_reducible refine (sv_un (by omega)).trans ?_)) (Nat.le_of_ble_eq_true rfl) rfl ?_
  refine v_aload_n dX8_init_79 rfl 0 rfl ?_
  refine v_sipush (v := 1600) dX8_init_80 (by decide) ?_
  refine v_newI (N := 1600) (by decide +kernel) dX8_init_83 (by decide) (by decide) (by decide) (Nat.le_of_ble_eq_true rfl) (Nat.le_of_ble_eq_true rfl) ?_
  refine v_putF 11 (fs' := [_, _, _, _, _, _, _, _, _, _, _, _, _, _]) (ci := 6) (C := RX8) (T := TX8) (N := 14) (ty := (.array .int)) rfl iwX8_init_X8 tyX8 tyX8_ok nmX8 (Nat.le_of_ble_eq_true rfl) (by decide +kernel) rfl rfl rfl rfl dX8_init_85 rfl rfl (by repeat (first | (with_reducible refine sv_us.trans ?_; exact rfl) | with_reducible assumption | with_reducible refine (sv_un (by omega)).trans ?_)) (Nat.le_of_ble_eq_true rfl) rfl ?_
  refine v_aload_n dX8_init_88 rfl 0 rfl ?_
  refine v_sipush (v := 1600) dX8_init_89 (by decide) ?_
  refine v_newI (N := 1600) (by decide +kernel) dX8_init_92 (by decide) (by decide) (by decide) (Nat.le_of_ble_eq_true rfl) (Nat.le_of_ble_eq_true rfl) ?_
  refine v_putF 12 (fs' := [_, _, _, _, _, _, _, _, _, _, _, _, _, _]) (ci := 6) (C := RX8) (T := TX8) (N := 14) (ty := (.array .int)) rfl iwX8_init_X8 tyX8 tyX8_ok nmX8 (Nat.le_of_ble_eq_true rfl) (by decide +kernel) rfl rfl rfl rfl dX8_init_94 rfl rfl (by repeat (first | (with_reducible refine sv_us.trans ?_; exact rfl) | with_reducible assumption | with_reducible refine (sv_un (by omega)).trans ?_)) (Nat.le_of_ble_eq_true rfl) rfl ?_
  refine v_aload_n dX8_init_97 rfl 0 rfl ?_
  refine v_sipush (v := 1600) dX8_init_98 (by decide) ?_
  refine v_newI (N := 1600) (by decide +kernel) dX8_init_101 (by decide) (by decide) (by decide) (Nat.le_of_ble_eq_true rfl) (Nat.le_of_ble_eq_true rfl) ?_
  refine v_putF 13 (fs' := [_, _, _, _, _, _, _, _, _, _, _, _, _, _]) (ci := 6) (C := RX8) (T := TX8) (N := 14) (ty := (.array .int)) rfl iwX8_init_X8 tyX8 tyX8_ok nmX8 (Nat.le_of_ble_eq_true rfl) (by decide +kernel) rfl rfl rfl rfl dX8_init_103 rfl rfl (by repeat (first | (with_reducible refine sv_us.trans ?_; exact rfl) | with_reducible assumption | with_reducible refine (sv_un (by omega)).trans ?_)) (Nat.le_of_ble_eq_true rfl) rfl ?_
  refine v_aload_n dX8_init_106 rfl 0 rfl ?_
  refine v_aload_n dX8_init_107 rfl 1 rfl ?_
  refine v_putF 0 (fs' := [_, _, _, _, _, _, _, _, _, _, _, _, _, _]) (ci := 6) (C := RX8) (T := TX8) (N := 14) (ty := (.object "RuleDeck$Layout")) rfl iwX8_init_X8 tyX8 tyX8_ok nmX8 (Nat.le_of_ble_eq_true rfl) (by decide +kernel) rfl rfl rfl rfl dX8_init_108 rfl rfl (by repeat (first | (with_reducible refine sv_us.trans ?_; exact rfl) | with_reducible assumption | with_reducible refine (sv_un (by omega)).trans ?_)) (Nat.le_of_ble_eq_true rfl) rfl ?_
  refine v_iconst (v := 0) dX8_init_111 (by decide) ?_
  refine v_istore_n (L' := [(2, _), (0, _), (1, _)]) dX8_init_112 rfl (Nat.le_of_ble_eq_true rfl) rfl ?_
  refine v_sub (L' := [(2, _), (0, _), (1, _)]) [0, 1, 2] rfl ?_
  refine l_Scene_init1 G _ _ (z + 12) r z ly (z + 1) (z + 2) (z + 3) (z + 4) (z + 5) (z + 6) (z + 7) (z + 8) (z + 9) (z + 10) (z + 11) (by omega) (by omega) (by omega) ?_ 16 0 _ (fun _ => none) rfl (by repeat (first | (with_reducible refine sv_us.trans ?_; exact rfl) | with_reducible assumption | with_reducible refine (sv_un (by omega)).trans ?_)) (by repeat (first | (with_reducible refine sv_us.trans ?_; exact rfl) | with_reducible assumption | with_reducible refine (sv_un (by omega)).trans ?_)) (fun j hj => absurd hj (Nat.not_lt_zero j)) (fun a q1 q2 => rfl)
  intro hi f hr hA hf hfr
  refine v_iconst (v := 0) dX8_init_141 (by decide) ?_
  refine v_istore_n (L' := [(2, _), (0, _), (1, _)]) dX8_init_142 rfl (Nat.le_of_ble_eq_true rfl) rfl ?_
  refine l_Scene_init2 G _ hi (z + 28) r (z + 3) ly z (z + 1) (z + 2) (z + 4) (z + 5) (z + 6) (z + 7) (z + 8) (z + 9) (z + 10) (z + 11) (by omega) (by omega) (by omega) ?_ 100 0 hi (fun _ => none) rfl hr (by repeat (first | (with_reducible refine sv_us.trans ?_; exact rfl) | with_reducible assumption | with_reducible refine (sv_un (by omega)).trans ?_ | with_reducible refine (hfr _ (by omega) (by omega)).trans ?_)) (fun j hj => absurd hj (Nat.not_lt_zero j)) (fun a q1 q2 => rfl)
  intro hi2 f2 hr2 hA2 hf2 hfr2
  refine v_ret rfl dX8_init_171 (Nat.le_of_ble_eq_true rfl) (Nat.le_of_ble_eq_true rfl) ⟨rfl, rfl, hr2, ⟨(by first | (refine (hfr2 _ (by omega) (by omega)).trans ((hfr _ (by omega) (by omega)).trans ?_); repeat (first | (with_reducible refine sv_us.trans ?_; exact rfl) | with_reducible assumption | with_reducible refine (sv_un (by omega)).trans ?_))), (by first | (refine (hfr2 _ (by omega) (by omega)).trans ((hfr _ (by omega) (by omega)).trans ?_); repeat (first | (with_reducible refine sv_us.trans ?_; exact rfl) | with_reducible assumption | with_reducible refine (sv_un (by omega)).trans ?_))), (by first | (refine (hfr2 _ (by omega) (by omega)).trans ((hfr _ (by omega) (by omega)).trans ?_); repeat (first | (with_reducible refine sv_us.trans ?_; exact rfl) | with_reducible assumption | with_reducible refine (sv_un (by omega)).trans ?_))), (by first | (refine (hfr2 _ (by omega) (by omega)).trans ((hfr _ (by omega) (by omega)).trans ?_); repeat (first | (with_reducible refine sv_us.trans ?_; exact rfl) | with_reducible assumption | with_reducible refine (sv_un (by omega)).trans ?_))), (by first | (refine (hfr2 _ (by omega) (by omega)).trans ((hfr _ (by omega) (by omega)).trans ?_); repeat (first | (with_reducible refine sv_us.trans ?_; exact rfl) | with_reducible assumption | with_reducible refine (sv_un (by omega)).trans ?_))), (by first | (refine (hfr2 _ (by omega) (by omega)).trans ((hfr _ (by omega) (by omega)).trans ?_); repeat (first | (with_reducible refine sv_us.trans ?_; exact rfl) | with_reducible assumption | with_reducible refine (sv_un (by omega)).trans ?_))), (by first | (refine (hfr2 _ (by omega) (by omega)).trans ((hfr _ (by omega) (by omega)).trans ?_); repeat (first | (with_reducible refine sv_us.trans ?_; exact rfl) | with_reducible assumption | with_reducible refine (sv_un (by omega)).trans ?_))), (by first | (refine (hfr2 _ (by omega) (by omega)).trans ((hfr _ (by omega) (by omega)).trans ?_); repeat (first | (with_reducible refine sv_us.trans ?_; exact rfl) | with_reducible assumption | with_reducible refine (sv_un (by omega)).trans ?_))), (by first | (refine (hfr2 _ (by omega) (by omega)).trans ((hfr _ (by omega) (by omega)).trans ?_); repeat (first | (with_reducible refine sv_us.trans ?_; exact rfl) | with_reducible assumption | with_reducible refine (sv_un (by omega)).trans ?_))), (by first | (refine (hfr2 _ (by omega) (by omega)).trans ((hfr _ (by omega) (by omega)).trans ?_); repeat (first | (with_reducible refine sv_us.trans ?_; exact rfl) | with_reducible assumption | with_reducible refine (sv_un (by omega)).trans ?_)))⟩, ⟨f, (hfr2 _ (by omega) (by omega)).trans hA, fun j hj => ⟨(hf j hj).1, (hfr2 _ (by omega) (by omega)).trans (hf j hj).2⟩⟩, ⟨f2, hA2, hf2⟩, fun a q1 q2 => (hfr2 a (by omega) (by omega)).trans ((hfr a (by omega) (by omega)).trans (by repeat (first | with_reducible rfl | with_reducible refine (sv_un (by omega)).trans ?_)))⟩
