theorem iwX10_compare_X10 : ∀ w ∈ wsX100, w ∈ wsX10_compare := by decide +kernel
set_option maxRecDepth 20000 in
theorem ggX10_compare_X10_value : GoodIn wsX10_compare wsX10_value := goodIn_r _ [7, 2, 1, 12, 13, 14, 15, 16, 17, 18] (by decide +kernel) (by decide +kernel)
set_option maxRecDepth 20000 in
theorem gX10_compare_X10_value : GoodIn wsX10_compare (wsV RX10 40 RX10 yX10_value wsX10_value) := goodIn_app (goodIn_of _ (by decide +kernel)) ggX10_compare_X10_value
set_option maxRecDepth 20000 in
theorem ggX10_compare_J13_compare_74951 : GoodIn wsX10_compare wsJ13_compare_74951 := goodIn_r _ [11] (by decide +kernel) (by decide +kernel)
theorem dX10_compare_0 : decode cX10_compare 0 = .ok (.iload_n 3, 1) := by decide +kernel
theorem dX10_compare_1 : decode cX10_compare 1 = .ok (.ifCond .eq 39, 3) := by decide +kernel
theorem dX10_compare_4 : decode cX10_compare 4 = .ok (.aload_n 0, 1) := by decide +kernel
theorem dX10_compare_5 : decode cX10_compare 5 = .ok (.iload_n 1, 1) := by decide +kernel
theorem dX10_compare_6 : decode cX10_compare 6 = .ok (.bipush 7, 2) := by decide +kernel
theorem dX10_compare_8 : decode cX10_compare 8 = .ok (.invokevirtual 40, 3) := by decide +kernel
theorem dX10_compare_11 : decode cX10_compare 11 = .ok (.aload_n 0, 1) := by decide +kernel
theorem dX10_compare_12 : decode cX10_compare 12 = .ok (.iload_n 2, 1) := by decide +kernel
theorem dX10_compare_13 : decode cX10_compare 13 = .ok (.bipush 7, 2) := by decide +kernel
theorem dX10_compare_15 : decode cX10_compare 15 = .ok (.invokevirtual 40, 3) := by decide +kernel
theorem dX10_compare_18 : decode cX10_compare 18 = .ok (.lcmp, 1) := by decide +kernel
theorem dX10_compare_19 : decode cX10_compare 19 = .ok (.ifCond .eq 21, 3) := by decide +kernel
theorem dX10_compare_22 : decode cX10_compare 22 = .ok (.aload_n 0, 1) := by decide +kernel
theorem dX10_compare_23 : decode cX10_compare 23 = .ok (.iload_n 1, 1) := by decide +kernel
theorem dX10_compare_24 : decode cX10_compare 24 = .ok (.bipush 7, 2) := by decide +kernel
theorem dX10_compare_26 : decode cX10_compare 26 = .ok (.invokevirtual 40, 3) := by decide +kernel
theorem dX10_compare_29 : decode cX10_compare 29 = .ok (.aload_n 0, 1) := by decide +kernel
theorem dX10_compare_30 : decode cX10_compare 30 = .ok (.iload_n 2, 1) := by decide +kernel
theorem dX10_compare_31 : decode cX10_compare 31 = .ok (.bipush 7, 2) := by decide +kernel
theorem dX10_compare_33 : decode cX10_compare 33 = .ok (.invokevirtual 40, 3) := by decide +kernel
theorem dX10_compare_36 : decode cX10_compare 36 = .ok (.invokestatic 73, 3) := by decide +kernel
theorem dX10_compare_39 : decode cX10_compare 39 = .ok (.ireturn, 1) := by decide +kernel
theorem dX10_compare_40 : decode cX10_compare 40 = .ok (.aload_n 0, 1) := by decide +kernel
theorem dX10_compare_41 : decode cX10_compare 41 = .ok (.getfield 13, 3) := by decide +kernel
theorem dX10_compare_44 : decode cX10_compare 44 = .ok (.iload_n 1, 1) := by decide +kernel
theorem dX10_compare_45 : decode cX10_compare 45 = .ok (.iaload, 1) := by decide +kernel
theorem dX10_compare_46 : decode cX10_compare 46 = .ok (.bipush 12, 2) := by decide +kernel
theorem dX10_compare_48 : decode cX10_compare 48 = .ok (.imul, 1) := by decide +kernel
theorem dX10_compare_49 : decode cX10_compare 49 = .ok (.istore 4, 2) := by decide +kernel
theorem dX10_compare_51 : decode cX10_compare 51 = .ok (.aload_n 0, 1) := by decide +kernel
theorem dX10_compare_52 : decode cX10_compare 52 = .ok (.getfield 13, 3) := by decide +kernel
theorem dX10_compare_55 : decode cX10_compare 55 = .ok (.iload_n 2, 1) := by decide +kernel
theorem dX10_compare_56 : decode cX10_compare 56 = .ok (.iaload, 1) := by decide +kernel
theorem dX10_compare_57 : decode cX10_compare 57 = .ok (.bipush 12, 2) := by decide +kernel
theorem dX10_compare_59 : decode cX10_compare 59 = .ok (.imul, 1) := by decide +kernel
theorem dX10_compare_60 : decode cX10_compare 60 = .ok (.istore 5, 2) := by decide +kernel
theorem dX10_compare_62 : decode cX10_compare 62 = .ok (.iconst 0, 1) := by decide +kernel
theorem dX10_compare_63 : decode cX10_compare 63 = .ok (.istore 6, 2) := by decide +kernel
theorem dX10_compare_65 : decode cX10_compare 65 = .ok (.iload 6, 2) := by decide +kernel
theorem dX10_compare_67 : decode cX10_compare 67 = .ok (.bipush 12, 2) := by decide +kernel
theorem dX10_compare_69 : decode cX10_compare 69 = .ok (.if_icmp .ge 57, 3) := by decide +kernel
theorem dX10_compare_72 : decode cX10_compare 72 = .ok (.aload_n 0, 1) := by decide +kernel
theorem dX10_compare_73 : decode cX10_compare 73 = .ok (.getfield 9, 3) := by decide +kernel
theorem dX10_compare_76 : decode cX10_compare 76 = .ok (.iload 4, 2) := by decide +kernel
theorem dX10_compare_78 : decode cX10_compare 78 = .ok (.iload 6, 2) := by decide +kernel
theorem dX10_compare_80 : decode cX10_compare 80 = .ok (.iadd, 1) := by decide +kernel
theorem dX10_compare_81 : decode cX10_compare 81 = .ok (.laload, 1) := by decide +kernel
theorem dX10_compare_82 : decode cX10_compare 82 = .ok (.aload_n 0, 1) := by decide +kernel
theorem dX10_compare_83 : decode cX10_compare 83 = .ok (.getfield 9, 3) := by decide +kernel
theorem dX10_compare_86 : decode cX10_compare 86 = .ok (.iload 5, 2) := by decide +kernel
theorem dX10_compare_88 : decode cX10_compare 88 = .ok (.iload 6, 2) := by decide +kernel
theorem dX10_compare_90 : decode cX10_compare 90 = .ok (.iadd, 1) := by decide +kernel
theorem dX10_compare_91 : decode cX10_compare 91 = .ok (.laload, 1) := by decide +kernel
theorem dX10_compare_92 : decode cX10_compare 92 = .ok (.lcmp, 1) := by decide +kernel
theorem dX10_compare_93 : decode cX10_compare 93 = .ok (.ifCond .eq 27, 3) := by decide +kernel
theorem dX10_compare_96 : decode cX10_compare 96 = .ok (.aload_n 0, 1) := by decide +kernel
theorem dX10_compare_97 : decode cX10_compare 97 = .ok (.getfield 9, 3) := by decide +kernel
theorem dX10_compare_100 : decode cX10_compare 100 = .ok (.iload 4, 2) := by decide +kernel
theorem dX10_compare_102 : decode cX10_compare 102 = .ok (.iload 6, 2) := by decide +kernel
theorem dX10_compare_104 : decode cX10_compare 104 = .ok (.iadd, 1) := by decide +kernel
theorem dX10_compare_105 : decode cX10_compare 105 = .ok (.laload, 1) := by decide +kernel
theorem dX10_compare_106 : decode cX10_compare 106 = .ok (.aload_n 0, 1) := by decide +kernel
theorem dX10_compare_107 : decode cX10_compare 107 = .ok (.getfield 9, 3) := by decide +kernel
theorem dX10_compare_110 : decode cX10_compare 110 = .ok (.iload 5, 2) := by decide +kernel
theorem dX10_compare_112 : decode cX10_compare 112 = .ok (.iload 6, 2) := by decide +kernel
theorem dX10_compare_114 : decode cX10_compare 114 = .ok (.iadd, 1) := by decide +kernel
theorem dX10_compare_115 : decode cX10_compare 115 = .ok (.laload, 1) := by decide +kernel
theorem dX10_compare_116 : decode cX10_compare 116 = .ok (.invokestatic 73, 3) := by decide +kernel
theorem dX10_compare_119 : decode cX10_compare 119 = .ok (.ireturn, 1) := by decide +kernel
theorem dX10_compare_120 : decode cX10_compare 120 = .ok (.iinc 6 1, 3) := by decide +kernel
theorem dX10_compare_123 : decode cX10_compare 123 = .ok (.goto (-58), 3) := by decide +kernel
theorem dX10_compare_126 : decode cX10_compare 126 = .ok (.iconst 0, 1) := by decide +kernel
theorem dX10_compare_127 : decode cX10_compare 127 = .ok (.ireturn, 1) := by decide +kernel
theorem dJ13_compare_74951_0 : decode cJ13_compare_74951 0 = .ok (.lload_n 0, 1) := by decide +kernel
theorem dJ13_compare_74951_1 : decode cJ13_compare_74951 1 = .ok (.lload_n 2, 1) := by decide +kernel
theorem dJ13_compare_74951_2 : decode cJ13_compare_74951 2 = .ok (.lcmp, 1) := by decide +kernel
theorem dJ13_compare_74951_3 : decode cJ13_compare_74951 3 = .ok (.ifCond .ge 7, 3) := by decide +kernel
theorem dJ13_compare_74951_6 : decode cJ13_compare_74951 6 = .ok (.iconst (-1), 1) := by decide +kernel
theorem dJ13_compare_74951_7 : decode cJ13_compare_74951 7 = .ok (.goto 14, 3) := by decide +kernel
theorem dJ13_compare_74951_10 : decode cJ13_compare_74951 10 = .ok (.lload_n 0, 1) := by decide +kernel
theorem dJ13_compare_74951_11 : decode cJ13_compare_74951 11 = .ok (.lload_n 2, 1) := by decide +kernel
theorem dJ13_compare_74951_12 : decode cJ13_compare_74951 12 = .ok (.lcmp, 1) := by decide +kernel
theorem dJ13_compare_74951_13 : decode cJ13_compare_74951 13 = .ok (.ifCond .ne 7, 3) := by decide +kernel
theorem dJ13_compare_74951_16 : decode cJ13_compare_74951 16 = .ok (.iconst 0, 1) := by decide +kernel
theorem dJ13_compare_74951_17 : decode cJ13_compare_74951 17 = .ok (.goto 4, 3) := by decide +kernel
theorem dJ13_compare_74951_20 : decode cJ13_compare_74951 20 = .ok (.iconst 1, 1) := by decide +kernel
theorem dJ13_compare_74951_21 : decode cJ13_compare_74951 21 = .ok (.ireturn, 1) := by decide +kernel

abbrev mJ13_compare_74951 : sv_M := (cJ13_compare_74951, 4, yJ13_compare_74951, wsJ13_compare_74951, (some .int), { frames := 0, cells := 0, slots := 0, locals := 0 }, [])
abbrev mX10_compare : sv_M := (cX10_compare, 7, yX10_compare, wsX10_compare, (some .int), { frames := 2, cells := 0, slots := 0, locals := 60 }, [])
/-- how rows stand to each other, from column i on -/
def lexC (r s : List Int64) : Nat → Nat → Int32
  | _, 0 => 0
  | i, n + 1 => if r.getD i 0 = s.getD i 0 then lexC r s (i + 1) n else if r.getD i 0 < s.getD i 0 then -1 else 1
def cmpR (bc : Bool) (r s : List Int64) : Int32 := if bc = true ∧ ¬ r.getD 7 0 = s.getD 7 0 then (if r.getD 7 0 < s.getD 7 0 then -1 else 1) else lexC r s 0 12
def bcI (bc : Bool) : Int32 := if bc = true then 1 else 0
set_option maxHeartbeats 4000000 in
set_option maxRecDepth 100000 in
theorem c_Lcompare (G : sv_G) (h : sv_h) (z : Nat) (x y : Int64) : CT G mJ13_compare_74951 [.long x, .long y] h z (fun v h1 z1 => v = some (.int (if x < y then -1 else if x = y then 0 else 1)) ∧ h1 = h ∧ z1 = z) := by
  refine CT.of (by decide +kernel) rfl rfl (Nat.le_of_ble_eq_true rfl) ?_
  refine v_lload_n dJ13_compare_74951_0 rfl 0 rfl ?_
  refine v_lload_n dJ13_compare_74951_1 rfl 1 rfl ?_
  refine v_lcmp_ge (tgt := 10) dJ13_compare_74951_2 dJ13_compare_74951_3 (by decide) (fun c_3 => ?_) (fun c_3 => ?_)
  · refine v_lload_n dJ13_compare_74951_10 rfl 0 rfl ?_
    refine v_lload_n dJ13_compare_74951_11 rfl 1 rfl ?_
    refine v_lcmp_ne (tgt := 20) dJ13_compare_74951_12 dJ13_compare_74951_13 (by decide) (fun c_13 => ?_) (fun c_13 => ?_)
    · refine v_iconst (v := 1) dJ13_compare_74951_20 (by decide) ?_
      exact v_iret rfl dJ13_compare_74951_21 (Nat.le_of_ble_eq_true rfl) (Nat.le_of_ble_eq_true rfl) rfl (by
            first
              | (have c9 : x < y := Int64.not_le.mp c_3
                 rw [if_pos c9]; exact ⟨rfl, rfl, rfl⟩)
              | (have c9 : ¬ x < y := Int64.not_lt.mpr c_3
                 rw [if_neg c9]
                 first
                   | (have c8 : x = y := c_13
                      rw [if_pos c8]; exact ⟨rfl, rfl, rfl⟩)
                   | (have c8 : ¬ x = y := c_13
                      rw [if_neg c8]; exact ⟨rfl, rfl, rfl⟩)))
    · refine v_iconst (v := 0) dJ13_compare_74951_16 (by decide) ?_
      refine v_goto (tgt := 21) dJ13_compare_74951_17 (by decide) ?_
      exact v_iret rfl dJ13_compare_74951_21 (Nat.le_of_ble_eq_true rfl) (Nat.le_of_ble_eq_true rfl) rfl (by
            first
              | (have c9 : x < y := Int64.not_le.mp c_3
                 rw [if_pos c9]; exact ⟨rfl, rfl, rfl⟩)
              | (have c9 : ¬ x < y := Int64.not_lt.mpr c_3
                 rw [if_neg c9]
                 first
                   | (have c8 : x = y := c_13
                      rw [if_pos c8]; exact ⟨rfl, rfl, rfl⟩)
                   | (have c8 : ¬ x = y := c_13
                      rw [if_neg c8]; exact ⟨rfl, rfl, rfl⟩)))
  · refine v_iconst (v := (-1)) dJ13_compare_74951_6 (by decide) ?_
    refine v_goto (tgt := 21) dJ13_compare_74951_7 (by decide) ?_
    exact v_iret rfl dJ13_compare_74951_21 (Nat.le_of_ble_eq_true rfl) (Nat.le_of_ble_eq_true rfl) rfl (by
          first
            | (have c9 : x < y := Int64.not_le.mp c_3
               rw [if_pos c9]; exact ⟨rfl, rfl, rfl⟩)
            | (have c9 : ¬ x < y := Int64.not_lt.mpr c_3
               rw [if_neg c9]
               first
                 | (have c8 : x = y := c_13
                    rw [if_pos c8]; exact ⟨rfl, rfl, rfl⟩)
                 | (have c8 : ¬ x = y := c_13
                    rw [if_neg c8]; exact ⟨rfl, rfl, rfl⟩)))

set_option maxHeartbeats 4000000 in
set_option maxRecDepth 100000 in
theorem l_cmp (G : sv_G) (h : sv_h) (z t sx : Nat) (sro : Nat → Int64) (sod sst : Nat → Int32) (sus ssz sov shm : Int32) (T : ab_told G h t sx sro sod sst sus ssz sov shm) (wi wj : Nat) (h1 : wi < 1500) (h2 : wj < 1500) (r s : List Int64) (hr : ∀ c, c < 12 → sro (12 * wi + c) = r.getD c 0) (hs : ∀ c, c < 12 → sro (12 * wj + c) = s.getD c 0) : ∀ (e c : Nat), c + e = 12 → V G mX10_compare (sv_MQ G mX10_compare (fun v h1 z1 => v = some (.int (lexC r s c e)) ∧ h1 = h ∧ z1 = z)) 65 [(6, .int (nI c)), (5, .int (nI (12 * wj))), (4, .int (nI (12 * wi))), (0, .ref t)] [] h z 0 0 := by
  intro e
  induction e with
  | zero =>
    intro c hce
    obtain ⟨s0, s1, s2, s3, s4⟩ := T
    have e9 : c = 12 := by omega
    subst e9
    refine v_iload dX10_compare_65 0 rfl ?_
    refine v_bipush (v := 12) dX10_compare_67 (by decide) ?_
    refine v_icmp_ge (tgt := 126) dX10_compare_69 (by decide) (fun c_69 => ?_) (fun c_69 => ?_)
    · refine v_iconst (v := 0) dX10_compare_126 (by decide) ?_
      exact v_iret rfl dX10_compare_127 (Nat.le_of_ble_eq_true rfl) (Nat.le_of_ble_eq_true rfl) rfl ⟨rfl, rfl, rfl⟩
    · exact absurd (by decide) c_69
  | succ e ih =>
    intro c hce
    obtain ⟨s0, s1, s2, s3, s4⟩ := T
    have hc : c < 12 := by omega
    have er : lexC r s c (e + 1) = if r.getD c 0 = s.getD c 0 then lexC r s (c + 1) e else if r.getD c 0 < s.getD c 0 then -1 else 1 := rfl
    rw [er]
    refine v_iload dX10_compare_65 0 rfl ?_
    refine v_bipush (v := 12) dX10_compare_67 (by decide) ?_
    refine v_icmp_ge (tgt := 126) dX10_compare_69 (by decide) (fun c_69 => ?_) (fun c_69 => ?_)
    · exact absurd c_69 (nI_ge (a := c) (b := 12) hc (by omega))
    · refine v_aload_n dX10_compare_72 rfl 3 rfl ?_
      refine v_getf 0 (ci := 8) (C := RX10) (T := TX10) (N := 7) rfl iwX10_compare_X10 (Nat.le_of_ble_eq_true rfl) (by decide +kernel) dX10_compare_73 (by first | with_reducible assumption) rfl ?_
      refine v_iload dX10_compare_76 2 rfl ?_
      refine v_iload dX10_compare_78 0 rfl ?_
      refine v_iadd dX10_compare_80 ?_
      rw [nI_add (12 * wi) c]
      refine v_laldS (v := r.getD c 0) dX10_compare_81 (by first | with_reducible assumption) (vp_in_nI (by omega) (by omega)) (by rw [nI_clamp (by omega)]; exact hr c hc) ?_
      refine v_aload_n dX10_compare_82 rfl 3 rfl ?_
      refine v_getf 0 (ci := 8) (C := RX10) (T := TX10) (N := 7) rfl iwX10_compare_X10 (Nat.le_of_ble_eq_true rfl) (by decide +kernel) dX10_compare_83 (by first | with_reducible assumption) rfl ?_
      refine v_iload dX10_compare_86 1 rfl ?_
      refine v_iload dX10_compare_88 0 rfl ?_
      refine v_iadd dX10_compare_90 ?_
      rw [nI_add (12 * wj) c]
      refine v_laldS (v := s.getD c 0) dX10_compare_91 (by first | with_reducible assumption) (vp_in_nI (by omega) (by omega)) (by rw [nI_clamp (by omega)]; exact hs c hc) ?_
      refine v_lcmp_eq (tgt := 120) dX10_compare_92 dX10_compare_93 (by decide) (fun c_93 => ?_) (fun c_93 => ?_)
      · refine v_iinc (j := 0) (L' := [(6, _), (5, _), (4, _), (0, _)]) (v := nI (c + 1)) dX10_compare_120 rfl (nI_1 _) (Nat.le_of_ble_eq_true rfl) rfl ?_
        refine v_goto (tgt := 65) dX10_compare_123 (by decide) ?_
        refine v_sub (L' := [(6, _), (5, _), (4, _), (0, _)]) [0, 1, 2, 3] rfl ?_
        rw [if_pos c_93]
        exact ih (c + 1) (by omega)
      · refine v_aload_n dX10_compare_96 rfl 3 rfl ?_
        refine v_getf 0 (ci := 8) (C := RX10) (T := TX10) (N := 7) rfl iwX10_compare_X10 (Nat.le_of_ble_eq_true rfl) (by decide +kernel) dX10_compare_97 (by first | with_reducible assumption) rfl ?_
        refine v_iload dX10_compare_100 2 rfl ?_
        refine v_iload dX10_compare_102 0 rfl ?_
        refine v_iadd dX10_compare_104 ?_
        rw [nI_add (12 * wi) c]
        refine v_laldS (v := r.getD c 0) dX10_compare_105 (by first | with_reducible assumption) (vp_in_nI (by omega) (by omega)) (by rw [nI_clamp (by omega)]; exact hr c hc) ?_
        refine v_aload_n dX10_compare_106 rfl 3 rfl ?_
        refine v_getf 0 (ci := 8) (C := RX10) (T := TX10) (N := 7) rfl iwX10_compare_X10 (Nat.le_of_ble_eq_true rfl) (by decide +kernel) dX10_compare_107 (by first | with_reducible assumption) rfl ?_
        refine v_iload dX10_compare_110 1 rfl ?_
        refine v_iload dX10_compare_112 0 rfl ?_
        refine v_iadd dX10_compare_114 ?_
        rw [nI_add (12 * wj) c]
        refine v_laldS (v := s.getD c 0) dX10_compare_115 (by first | with_reducible assumption) (vp_in_nI (by omega) (by omega)) (by rw [nI_clamp (by omega)]; exact hs c hc) ?_
        refine v_callSq (M' := mJ13_compare_74951) (n := 2) (As := [_, _]) ggX10_compare_J13_compare_74951 (by decide +kernel) (by decide +kernel) (by decide +kernel) rfl (by decide +kernel) ⟨(Nat.le_of_ble_eq_true rfl), (Nat.le_of_ble_eq_true rfl)⟩ dX10_compare_116 rfl ⟨(Nat.le_of_ble_eq_true rfl), (Nat.le_of_ble_eq_true rfl)⟩ (Nat.le_of_ble_eq_true rfl) rfl (c_Lcompare G _ _ _ _) (fun v9 h9 y9 hq => v_pq hq ?_)
        exact v_iret rfl dX10_compare_119 (Nat.le_of_ble_eq_true rfl) (Nat.le_of_ble_eq_true rfl) rfl (by rw [if_neg c_93]; refine ⟨?_, rfl, rfl⟩; rw [if_neg c_93])

set_option maxHeartbeats 4000000 in
set_option maxRecDepth 100000 in
theorem c_compare0 (G : sv_G) (h : sv_h) (z t : Nat) (L : List (List Int64)) (H : tO G h t L) (i j : Nat) (hi : i < L.length) (hj : j < L.length) : CT G mX10_compare [.ref t, .int (nI i), .int (nI j), .int 0] h z (fun v h1 z1 => v = some (.int (cmpR false (L.getD i []) (L.getD j []))) ∧ h1 = h ∧ z1 = z) := by
  refine CT.of (by decide +kernel) rfl rfl (Nat.le_of_ble_eq_true rfl) ?_
  obtain ⟨sx9, sro, sod, sst, sus, sov, shm, sw, hlen, ⟨s0, s1, s2, s3, s4⟩, s5⟩ := id H
  obtain ⟨a1, a2, a3⟩ := s5 i hi
  obtain ⟨b1, b2, b3⟩ := s5 j hj
  refine v_iload_n dX10_compare_0 rfl 3 rfl ?_
  refine v_if_eq (tgt := 40) dX10_compare_1 (by decide) (fun c_1 => ?_) (fun c_1 => ?_)
  · refine v_aload_n dX10_compare_40 rfl 0 rfl ?_
    refine v_getf 2 (ci := 8) (C := RX10) (T := TX10) (N := 7) rfl iwX10_compare_X10 (Nat.le_of_ble_eq_true rfl) (by decide +kernel) dX10_compare_41 (by first | with_reducible assumption) rfl ?_
    refine v_iload_n dX10_compare_44 rfl 1 rfl ?_
    refine v_ialdS (v := nI (sw i)) dX10_compare_45 (by first | with_reducible assumption) (vp_in_nI (by omega) (by omega)) (by rw [nI_clamp (by omega)]; exact a2) ?_
    refine v_bipush (v := 12) dX10_compare_46 (by decide) ?_
    refine v_imul dX10_compare_48 ?_
    rw [show nI (sw i) * 12 = nI (12 * sw i) from by rw [show (12 : Int32) = nI 12 from rfl, sv_nm2, Nat.mul_comm]]
    refine v_istore (L' := [(4, _), (0, _), (1, _), (2, _), (3, _)]) dX10_compare_49 (Nat.le_of_ble_eq_true rfl) rfl ?_
    refine v_aload_n dX10_compare_51 rfl 1 rfl ?_
    refine v_getf 2 (ci := 8) (C := RX10) (T := TX10) (N := 7) rfl iwX10_compare_X10 (Nat.le_of_ble_eq_true rfl) (by decide +kernel) dX10_compare_52 (by first | with_reducible assumption) rfl ?_
    refine v_iload_n dX10_compare_55 rfl 3 rfl ?_
    refine v_ialdS (v := nI (sw j)) dX10_compare_56 (by first | with_reducible assumption) (vp_in_nI (by omega) (by omega)) (by rw [nI_clamp (by omega)]; exact b2) ?_
    refine v_bipush (v := 12) dX10_compare_57 (by decide) ?_
    refine v_imul dX10_compare_59 ?_
    rw [show nI (sw j) * 12 = nI (12 * sw j) from by rw [show (12 : Int32) = nI 12 from rfl, sv_nm2, Nat.mul_comm]]
    refine v_istore (L' := [(5, _), (4, _), (0, _), (1, _), (2, _), (3, _)]) dX10_compare_60 (Nat.le_of_ble_eq_true rfl) rfl ?_
    refine v_iconst (v := 0) dX10_compare_62 (by decide) ?_
    refine v_istore (L' := [(6, _), (5, _), (4, _), (0, _), (1, _), (2, _), (3, _)]) dX10_compare_63 (Nat.le_of_ble_eq_true rfl) rfl ?_
    refine v_sub (L' := [(6, _), (5, _), (4, _), (0, _)]) [0, 1, 2, 3] rfl ?_
    rw [show cmpR false (L.getD i []) (L.getD j []) = lexC (L.getD i []) (L.getD j []) 0 12 from if_neg (fun r9 => absurd r9.1 (by decide))]
    exact l_cmp G h _ t sx9 sro sod sst sus _ sov shm ⟨s0, s1, s2, s3, s4⟩ (sw i) (sw j) a1 b1 _ _ a3 b3 12 0 rfl
  · exact absurd rfl c_1

set_option maxHeartbeats 4000000 in
set_option maxRecDepth 100000 in
theorem c_compare1 (G : sv_G) (h : sv_h) (z t : Nat) (L : List (List Int64)) (H : tO G h t L) (i j : Nat) (hi : i < L.length) (hj : j < L.length) : CT G mX10_compare [.ref t, .int (nI i), .int (nI j), .int 1] h z (fun v h1 z1 => v = some (.int (cmpR true (L.getD i []) (L.getD j []))) ∧ h1 = h ∧ z1 = z) := by
  refine CT.of (by decide +kernel) rfl rfl (Nat.le_of_ble_eq_true rfl) ?_
  obtain ⟨sx9, sro, sod, sst, sus, sov, shm, sw, hlen, ⟨s0, s1, s2, s3, s4⟩, s5⟩ := id H
  obtain ⟨a1, a2, a3⟩ := s5 i hi
  obtain ⟨b1, b2, b3⟩ := s5 j hj
  refine v_iload_n dX10_compare_0 rfl 3 rfl ?_
  refine v_if_eq (tgt := 40) dX10_compare_1 (by decide) (fun c_1 => ?_) (fun c_1 => ?_)
  · exact absurd c_1 (by decide)
  · refine v_aload_n dX10_compare_4 rfl 0 rfl ?_
    refine v_iload_n dX10_compare_5 rfl 1 rfl ?_
    refine v_bipush (v := 7) dX10_compare_6 (by decide) ?_
    refine v_callVq (M' := mX10_value) (n := 2) (As := [_, _]) (ci := 8) (r := (RX10, TX10, 7)) gX10_compare_X10_value rfl (by decide +kernel) ⟨(Nat.le_of_ble_eq_true rfl), (Nat.le_of_ble_eq_true rfl)⟩ rfl rfl dX10_compare_8 rfl ⟨(Nat.le_of_ble_eq_true rfl), (Nat.le_of_ble_eq_true rfl)⟩ (Nat.le_of_ble_eq_true rfl) (by first | with_reducible assumption) rfl (c_tOv G _ _ t L H i 7 hi (by decide) (by decide)) (fun v9 h9 y9 hq => v_pq hq ?_)
    refine v_aload_n dX10_compare_11 rfl 0 rfl ?_
    refine v_iload_n dX10_compare_12 rfl 2 rfl ?_
    refine v_bipush (v := 7) dX10_compare_13 (by decide) ?_
    refine v_callVq (M' := mX10_value) (n := 2) (As := [_, _]) (ci := 8) (r := (RX10, TX10, 7)) gX10_compare_X10_value rfl (by decide +kernel) ⟨(Nat.le_of_ble_eq_true rfl), (Nat.le_of_ble_eq_true rfl)⟩ rfl rfl dX10_compare_15 rfl ⟨(Nat.le_of_ble_eq_true rfl), (Nat.le_of_ble_eq_true rfl)⟩ (Nat.le_of_ble_eq_true rfl) (by first | with_reducible assumption) rfl (c_tOv G _ _ t L H j 7 hj (by decide) (by decide)) (fun v9 h9 y9 hq => v_pq hq ?_)
    refine v_lcmp_eq (tgt := 40) dX10_compare_18 dX10_compare_19 (by decide) (fun c_19 => ?_) (fun c_19 => ?_)
    · refine v_aload_n dX10_compare_40 rfl 0 rfl ?_
      refine v_getf 2 (ci := 8) (C := RX10) (T := TX10) (N := 7) rfl iwX10_compare_X10 (Nat.le_of_ble_eq_true rfl) (by decide +kernel) dX10_compare_41 (by first | with_reducible assumption) rfl ?_
      refine v_iload_n dX10_compare_44 rfl 1 rfl ?_
      refine v_ialdS (v := nI (sw i)) dX10_compare_45 (by first | with_reducible assumption) (vp_in_nI (by omega) (by omega)) (by rw [nI_clamp (by omega)]; exact a2) ?_
      refine v_bipush (v := 12) dX10_compare_46 (by decide) ?_
      refine v_imul dX10_compare_48 ?_
      rw [show nI (sw i) * 12 = nI (12 * sw i) from by rw [show (12 : Int32) = nI 12 from rfl, sv_nm2, Nat.mul_comm]]
      refine v_istore (L' := [(4, _), (0, _), (1, _), (2, _), (3, _)]) dX10_compare_49 (Nat.le_of_ble_eq_true rfl) rfl ?_
      refine v_aload_n dX10_compare_51 rfl 1 rfl ?_
      refine v_getf 2 (ci := 8) (C := RX10) (T := TX10) (N := 7) rfl iwX10_compare_X10 (Nat.le_of_ble_eq_true rfl) (by decide +kernel) dX10_compare_52 (by first | with_reducible assumption) rfl ?_
      refine v_iload_n dX10_compare_55 rfl 3 rfl ?_
      refine v_ialdS (v := nI (sw j)) dX10_compare_56 (by first | with_reducible assumption) (vp_in_nI (by omega) (by omega)) (by rw [nI_clamp (by omega)]; exact b2) ?_
      refine v_bipush (v := 12) dX10_compare_57 (by decide) ?_
      refine v_imul dX10_compare_59 ?_
      rw [show nI (sw j) * 12 = nI (12 * sw j) from by rw [show (12 : Int32) = nI 12 from rfl, sv_nm2, Nat.mul_comm]]
      refine v_istore (L' := [(5, _), (4, _), (0, _), (1, _), (2, _), (3, _)]) dX10_compare_60 (Nat.le_of_ble_eq_true rfl) rfl ?_
      refine v_iconst (v := 0) dX10_compare_62 (by decide) ?_
      refine v_istore (L' := [(6, _), (5, _), (4, _), (0, _), (1, _), (2, _), (3, _)]) dX10_compare_63 (Nat.le_of_ble_eq_true rfl) rfl ?_
      refine v_sub (L' := [(6, _), (5, _), (4, _), (0, _)]) [0, 1, 2, 3] rfl ?_
      rw [show cmpR true (L.getD i []) (L.getD j []) = lexC (L.getD i []) (L.getD j []) 0 12 from if_neg (fun r9 => r9.2 c_19)]
      exact l_cmp G h _ t sx9 sro sod sst sus _ sov shm ⟨s0, s1, s2, s3, s4⟩ (sw i) (sw j) a1 b1 _ _ a3 b3 12 0 rfl
    · refine v_aload_n dX10_compare_22 rfl 0 rfl ?_
      refine v_iload_n dX10_compare_23 rfl 1 rfl ?_
      refine v_bipush (v := 7) dX10_compare_24 (by decide) ?_
      refine v_callVq (M' := mX10_value) (n := 2) (As := [_, _]) (ci := 8) (r := (RX10, TX10, 7)) gX10_compare_X10_value rfl (by decide +kernel) ⟨(Nat.le_of_ble_eq_true rfl), (Nat.le_of_ble_eq_true rfl)⟩ rfl rfl dX10_compare_26 rfl ⟨(Nat.le_of_ble_eq_true rfl), (Nat.le_of_ble_eq_true rfl)⟩ (Nat.le_of_ble_eq_true rfl) (by first | with_reducible assumption) rfl (c_tOv G _ _ t L H i 7 hi (by decide) (by decide)) (fun v9 h9 y9 hq => v_pq hq ?_)
      refine v_aload_n dX10_compare_29 rfl 0 rfl ?_
      refine v_iload_n dX10_compare_30 rfl 2 rfl ?_
      refine v_bipush (v := 7) dX10_compare_31 (by decide) ?_
      refine v_callVq (M' := mX10_value) (n := 2) (As := [_, _]) (ci := 8) (r := (RX10, TX10, 7)) gX10_compare_X10_value rfl (by decide +kernel) ⟨(Nat.le_of_ble_eq_true rfl), (Nat.le_of_ble_eq_true rfl)⟩ rfl rfl dX10_compare_33 rfl ⟨(Nat.le_of_ble_eq_true rfl), (Nat.le_of_ble_eq_true rfl)⟩ (Nat.le_of_ble_eq_true rfl) (by first | with_reducible assumption) rfl (c_tOv G _ _ t L H j 7 hj (by decide) (by decide)) (fun v9 h9 y9 hq => v_pq hq ?_)
      refine v_callSq (M' := mJ13_compare_74951) (n := 2) (As := [_, _]) ggX10_compare_J13_compare_74951 (by decide +kernel) (by decide +kernel) (by decide +kernel) rfl (by decide +kernel) ⟨(Nat.le_of_ble_eq_true rfl), (Nat.le_of_ble_eq_true rfl)⟩ dX10_compare_36 rfl ⟨(Nat.le_of_ble_eq_true rfl), (Nat.le_of_ble_eq_true rfl)⟩ (Nat.le_of_ble_eq_true rfl) rfl (c_Lcompare G _ _ _ _) (fun v9 h9 y9 hq => v_pq hq ?_)
      exact v_iret rfl dX10_compare_39 (Nat.le_of_ble_eq_true rfl) (Nat.le_of_ble_eq_true rfl) rfl ⟨by have e9 : cmpR true (L.getD i []) (L.getD j []) = (if (L.getD i []).getD 7 0 < (L.getD j []).getD 7 0 then -1 else 1) := if_pos ⟨rfl, c_19⟩; rw [e9, if_neg c_19], rfl, rfl⟩

theorem c_compare (G : sv_G) (h : sv_h) (z t : Nat) (L : List (List Int64)) (H : tO G h t L) (i j : Nat) (hi : i < L.length) (hj : j < L.length) (bc : Bool) : CT G mX10_compare [.ref t, .int (nI i), .int (nI j), .int (bcI bc)] h z (fun v h1 z1 => v = some (.int (cmpR bc (L.getD i []) (L.getD j []))) ∧ h1 = h ∧ z1 = z) := by
  cases bc with
  | false => exact c_compare0 G h z t L H i j hi hj
  | true => exact c_compare1 G h z t L H i j hi hj
