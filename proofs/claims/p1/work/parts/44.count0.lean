theorem iwX12_kindsInUse_X12 : ∀ w ∈ wsX120, w ∈ wsX12_kindsInUse := by decide +kernel
theorem iwX12_kindsInUse_X7 : ∀ w ∈ wsX70, w ∈ wsX12_kindsInUse := by decide +kernel
theorem iwX12_count_X10 : ∀ w ∈ wsX100, w ∈ wsX12_count := by decide +kernel
theorem iwX12_count_X11 : ∀ w ∈ wsX110, w ∈ wsX12_count := by decide +kernel
theorem iwX12_count_X12 : ∀ w ∈ wsX120, w ∈ wsX12_count := by decide +kernel
theorem iwX12_count_X7 : ∀ w ∈ wsX70, w ∈ wsX12_count := by decide +kernel
theorem iwX12_count_X9 : ∀ w ∈ wsX90, w ∈ wsX12_count := by decide +kernel
theorem iwX13_count_X13 : ∀ w ∈ wsX130, w ∈ wsX13_count := by decide +kernel
set_option maxRecDepth 20000 in
theorem ggX12_count_X12_kindsInUse : GoodIn wsX12_count wsX12_kindsInUse := goodIn_r _ [14, 3, 15, 16, 17, 18, 19, 20, 21, 22, 23, 24, 25, 26, 27, 28, 29, 42, 43, 44, 45, 46, 47, 48, 49] (by decide +kernel) (by decide +kernel)
set_option maxRecDepth 20000 in
theorem gX12_count_X12_kindsInUse : GoodIn wsX12_count (wsV RX12 251 RX12 yX12_kindsInUse wsX12_kindsInUse) := goodIn_app (goodIn_of _ (by decide +kernel)) ggX12_count_X12_kindsInUse
theorem dX12_count_0 : decode cX12_count 0 = .ok (.iload_n 1, 1) := by decide +kernel
theorem dX12_count_1 : decode cX12_count 1 = .ok (.tableswitch 69 0 4 #[35, 40, 45, 53, 61], 35) := by decide +kernel
theorem dX12_count_36 : decode cX12_count 36 = .ok (.aload_n 0, 1) := by decide +kernel
theorem dX12_count_37 : decode cX12_count 37 = .ok (.getfield 95, 3) := by decide +kernel
theorem dX12_count_40 : decode cX12_count 40 = .ok (.ireturn, 1) := by decide +kernel
theorem dX12_count_41 : decode cX12_count 41 = .ok (.aload_n 0, 1) := by decide +kernel
theorem dX12_count_42 : decode cX12_count 42 = .ok (.invokevirtual 251, 3) := by decide +kernel
theorem dX12_count_45 : decode cX12_count 45 = .ok (.ireturn, 1) := by decide +kernel
theorem dX12_count_46 : decode cX12_count 46 = .ok (.aload_n 0, 1) := by decide +kernel
theorem dX12_count_47 : decode cX12_count 47 = .ok (.getfield 61, 3) := by decide +kernel
theorem dX12_count_50 : decode cX12_count 50 = .ok (.getfield 216, 3) := by decide +kernel
theorem dX12_count_53 : decode cX12_count 53 = .ok (.ireturn, 1) := by decide +kernel
theorem dX12_count_54 : decode cX12_count 54 = .ok (.aload_n 0, 1) := by decide +kernel
theorem dX12_count_55 : decode cX12_count 55 = .ok (.getfield 47, 3) := by decide +kernel
theorem dX12_count_58 : decode cX12_count 58 = .ok (.getfield 232, 3) := by decide +kernel
theorem dX12_count_61 : decode cX12_count 61 = .ok (.ireturn, 1) := by decide +kernel
theorem dX12_count_62 : decode cX12_count 62 = .ok (.aload_n 0, 1) := by decide +kernel
theorem dX12_count_63 : decode cX12_count 63 = .ok (.getfield 22, 3) := by decide +kernel
theorem dX12_count_66 : decode cX12_count 66 = .ok (.getfield 254, 3) := by decide +kernel
theorem dX12_count_69 : decode cX12_count 69 = .ok (.ireturn, 1) := by decide +kernel
theorem dX12_count_70 : decode cX12_count 70 = .ok (.new 121, 3) := by decide +kernel
theorem dX12_count_73 : decode cX12_count 73 = .ok (.dup, 1) := by decide +kernel
theorem dX12_count_74 : decode cX12_count 74 = .ok (.ldc 255, 2) := by decide +kernel
theorem dX12_count_76 : decode cX12_count 76 = .ok (.invokespecial 125, 3) := by decide +kernel
theorem dX12_count_79 : decode cX12_count 79 = .ok (.athrow, 1) := by decide +kernel
theorem dX12_kindsInUse_0 : decode cX12_kindsInUse 0 = .ok (.iconst 0, 1) := by decide +kernel
theorem dX12_kindsInUse_1 : decode cX12_kindsInUse 1 = .ok (.istore_n 1, 1) := by decide +kernel
theorem dX12_kindsInUse_2 : decode cX12_kindsInUse 2 = .ok (.iconst 0, 1) := by decide +kernel
theorem dX12_kindsInUse_3 : decode cX12_kindsInUse 3 = .ok (.istore_n 2, 1) := by decide +kernel
theorem dX12_kindsInUse_4 : decode cX12_kindsInUse 4 = .ok (.iload_n 2, 1) := by decide +kernel
theorem dX12_kindsInUse_5 : decode cX12_kindsInUse 5 = .ok (.aload_n 0, 1) := by decide +kernel
theorem dX12_kindsInUse_6 : decode cX12_kindsInUse 6 = .ok (.getfield 95, 3) := by decide +kernel
theorem dX12_kindsInUse_9 : decode cX12_kindsInUse 9 = .ok (.if_icmp .ge 65, 3) := by decide +kernel
theorem dX12_kindsInUse_12 : decode cX12_kindsInUse 12 = .ok (.iconst 1, 1) := by decide +kernel
theorem dX12_kindsInUse_13 : decode cX12_kindsInUse 13 = .ok (.istore_n 3, 1) := by decide +kernel
theorem dX12_kindsInUse_14 : decode cX12_kindsInUse 14 = .ok (.iconst 0, 1) := by decide +kernel
theorem dX12_kindsInUse_15 : decode cX12_kindsInUse 15 = .ok (.istore 4, 2) := by decide +kernel
theorem dX12_kindsInUse_17 : decode cX12_kindsInUse 17 = .ok (.iload 4, 2) := by decide +kernel
theorem dX12_kindsInUse_19 : decode cX12_kindsInUse 19 = .ok (.iload_n 2, 1) := by decide +kernel
theorem dX12_kindsInUse_20 : decode cX12_kindsInUse 20 = .ok (.if_icmp .ge 41, 3) := by decide +kernel
theorem dX12_kindsInUse_23 : decode cX12_kindsInUse 23 = .ok (.iload_n 3, 1) := by decide +kernel
theorem dX12_kindsInUse_24 : decode cX12_kindsInUse 24 = .ok (.ifCond .eq 29, 3) := by decide +kernel
theorem dX12_kindsInUse_27 : decode cX12_kindsInUse 27 = .ok (.aload_n 0, 1) := by decide +kernel
theorem dX12_kindsInUse_28 : decode cX12_kindsInUse 28 = .ok (.getfield 53, 3) := by decide +kernel
theorem dX12_kindsInUse_31 : decode cX12_kindsInUse 31 = .ok (.iload 4, 2) := by decide +kernel
theorem dX12_kindsInUse_33 : decode cX12_kindsInUse 33 = .ok (.aaload, 1) := by decide +kernel
theorem dX12_kindsInUse_34 : decode cX12_kindsInUse 34 = .ok (.getfield 267, 3) := by decide +kernel
theorem dX12_kindsInUse_37 : decode cX12_kindsInUse 37 = .ok (.aload_n 0, 1) := by decide +kernel
theorem dX12_kindsInUse_38 : decode cX12_kindsInUse 38 = .ok (.getfield 53, 3) := by decide +kernel
theorem dX12_kindsInUse_41 : decode cX12_kindsInUse 41 = .ok (.iload_n 2, 1) := by decide +kernel
theorem dX12_kindsInUse_42 : decode cX12_kindsInUse 42 = .ok (.aaload, 1) := by decide +kernel
theorem dX12_kindsInUse_43 : decode cX12_kindsInUse 43 = .ok (.getfield 267, 3) := by decide +kernel
theorem dX12_kindsInUse_46 : decode cX12_kindsInUse 46 = .ok (.if_acmp .eq 7, 3) := by decide +kernel
theorem dX12_kindsInUse_49 : decode cX12_kindsInUse 49 = .ok (.iconst 1, 1) := by decide +kernel
theorem dX12_kindsInUse_50 : decode cX12_kindsInUse 50 = .ok (.goto 4, 3) := by decide +kernel
theorem dX12_kindsInUse_53 : decode cX12_kindsInUse 53 = .ok (.iconst 0, 1) := by decide +kernel
theorem dX12_kindsInUse_54 : decode cX12_kindsInUse 54 = .ok (.istore_n 3, 1) := by decide +kernel
theorem dX12_kindsInUse_55 : decode cX12_kindsInUse 55 = .ok (.iinc 4 1, 3) := by decide +kernel
theorem dX12_kindsInUse_58 : decode cX12_kindsInUse 58 = .ok (.goto (-41), 3) := by decide +kernel
theorem dX12_kindsInUse_61 : decode cX12_kindsInUse 61 = .ok (.iload_n 3, 1) := by decide +kernel
theorem dX12_kindsInUse_62 : decode cX12_kindsInUse 62 = .ok (.ifCond .eq 6, 3) := by decide +kernel
theorem dX12_kindsInUse_65 : decode cX12_kindsInUse 65 = .ok (.iinc 1 1, 3) := by decide +kernel
theorem dX12_kindsInUse_68 : decode cX12_kindsInUse 68 = .ok (.iinc 2 1, 3) := by decide +kernel
theorem dX12_kindsInUse_71 : decode cX12_kindsInUse 71 = .ok (.goto (-67), 3) := by decide +kernel
theorem dX12_kindsInUse_74 : decode cX12_kindsInUse 74 = .ok (.iload_n 1, 1) := by decide +kernel
theorem dX12_kindsInUse_75 : decode cX12_kindsInUse 75 = .ok (.ireturn, 1) := by decide +kernel
theorem dX13_count_0 : decode cX13_count 0 = .ok (.aload_n 0, 1) := by decide +kernel
theorem dX13_count_1 : decode cX13_count 1 = .ok (.iload_n 1, 1) := by decide +kernel
theorem dX13_count_2 : decode cX13_count 2 = .ok (.ifCond .lt 8, 3) := by decide +kernel
theorem dX13_count_5 : decode cX13_count 5 = .ok (.iload_n 1, 1) := by decide +kernel
theorem dX13_count_6 : decode cX13_count 6 = .ok (.iconst 4, 1) := by decide +kernel
theorem dX13_count_7 : decode cX13_count 7 = .ok (.if_icmp .le 7, 3) := by decide +kernel
theorem dX13_count_10 : decode cX13_count 10 = .ok (.iconst 1, 1) := by decide +kernel
theorem dX13_count_11 : decode cX13_count 11 = .ok (.goto 4, 3) := by decide +kernel
theorem dX13_count_14 : decode cX13_count 14 = .ok (.iconst 0, 1) := by decide +kernel
theorem dX13_count_15 : decode cX13_count 15 = .ok (.putfield 141, 3) := by decide +kernel
theorem dX13_count_18 : decode cX13_count 18 = .ok (.iconst 0, 1) := by decide +kernel
theorem dX13_count_19 : decode cX13_count 19 = .ok (.istore_n 2, 1) := by decide +kernel
theorem dX13_count_20 : decode cX13_count 20 = .ok (.iconst 0, 1) := by decide +kernel
theorem dX13_count_21 : decode cX13_count 21 = .ok (.istore_n 3, 1) := by decide +kernel
theorem dX13_count_22 : decode cX13_count 22 = .ok (.iload_n 3, 1) := by decide +kernel
theorem dX13_count_23 : decode cX13_count 23 = .ok (.bipush 10, 2) := by decide +kernel
theorem dX13_count_25 : decode cX13_count 25 = .ok (.if_icmp .gt 66, 3) := by decide +kernel
theorem dX13_count_28 : decode cX13_count 28 = .ok (.iconst 0, 1) := by decide +kernel
theorem dX13_count_29 : decode cX13_count 29 = .ok (.istore 4, 2) := by decide +kernel
theorem dX13_count_31 : decode cX13_count 31 = .ok (.iconst 0, 1) := by decide +kernel
theorem dX13_count_32 : decode cX13_count 32 = .ok (.istore 5, 2) := by decide +kernel
theorem dX13_count_34 : decode cX13_count 34 = .ok (.iload 5, 2) := by decide +kernel
theorem dX13_count_36 : decode cX13_count 36 = .ok (.aload_n 0, 1) := by decide +kernel
theorem dX13_count_37 : decode cX13_count 37 = .ok (.getfield 342, 3) := by decide +kernel
theorem dX13_count_40 : decode cX13_count 40 = .ok (.if_icmp .ge 32, 3) := by decide +kernel
theorem dX13_count_43 : decode cX13_count 43 = .ok (.iload 4, 2) := by decide +kernel
theorem dX13_count_45 : decode cX13_count 45 = .ok (.ifCond .ne 14, 3) := by decide +kernel
theorem dX13_count_48 : decode cX13_count 48 = .ok (.aload_n 0, 1) := by decide +kernel
theorem dX13_count_49 : decode cX13_count 49 = .ok (.getfield 47, 3) := by decide +kernel
theorem dX13_count_52 : decode cX13_count 52 = .ok (.iload 5, 2) := by decide +kernel
theorem dX13_count_54 : decode cX13_count 54 = .ok (.iaload, 1) := by decide +kernel
theorem dX13_count_55 : decode cX13_count 55 = .ok (.iload_n 3, 1) := by decide +kernel
theorem dX13_count_56 : decode cX13_count 56 = .ok (.if_icmp .ne 7, 3) := by decide +kernel
theorem dX13_count_59 : decode cX13_count 59 = .ok (.iconst 1, 1) := by decide +kernel
theorem dX13_count_60 : decode cX13_count 60 = .ok (.goto 4, 3) := by decide +kernel
theorem dX13_count_63 : decode cX13_count 63 = .ok (.iconst 0, 1) := by decide +kernel
theorem dX13_count_64 : decode cX13_count 64 = .ok (.istore 4, 2) := by decide +kernel
theorem dX13_count_66 : decode cX13_count 66 = .ok (.iinc 5 1, 3) := by decide +kernel
theorem dX13_count_69 : decode cX13_count 69 = .ok (.goto (-35), 3) := by decide +kernel
theorem dX13_count_72 : decode cX13_count 72 = .ok (.iload_n 2, 1) := by decide +kernel
theorem dX13_count_73 : decode cX13_count 73 = .ok (.iload 4, 2) := by decide +kernel
theorem dX13_count_75 : decode cX13_count 75 = .ok (.ifCond .eq 7, 3) := by decide +kernel
theorem dX13_count_78 : decode cX13_count 78 = .ok (.iconst 1, 1) := by decide +kernel
theorem dX13_count_79 : decode cX13_count 79 = .ok (.goto 4, 3) := by decide +kernel
theorem dX13_count_82 : decode cX13_count 82 = .ok (.iconst 0, 1) := by decide +kernel
theorem dX13_count_83 : decode cX13_count 83 = .ok (.iadd, 1) := by decide +kernel
theorem dX13_count_84 : decode cX13_count 84 = .ok (.istore_n 2, 1) := by decide +kernel
theorem dX13_count_85 : decode cX13_count 85 = .ok (.iinc 3 1, 3) := by decide +kernel
theorem dX13_count_88 : decode cX13_count 88 = .ok (.goto (-66), 3) := by decide +kernel
theorem dX13_count_91 : decode cX13_count 91 = .ok (.aload_n 0, 1) := by decide +kernel
theorem dX13_count_92 : decode cX13_count 92 = .ok (.getfield 141, 3) := by decide +kernel
theorem dX13_count_95 : decode cX13_count 95 = .ok (.ifCond .le 7, 3) := by decide +kernel
theorem dX13_count_98 : decode cX13_count 98 = .ok (.iconst 0, 1) := by decide +kernel
theorem dX13_count_99 : decode cX13_count 99 = .ok (.goto 51, 3) := by decide +kernel
theorem dX13_count_102 : decode cX13_count 102 = .ok (.iload_n 1, 1) := by decide +kernel
theorem dX13_count_103 : decode cX13_count 103 = .ok (.ifCond .ne 10, 3) := by decide +kernel
theorem dX13_count_106 : decode cX13_count 106 = .ok (.aload_n 0, 1) := by decide +kernel
theorem dX13_count_107 : decode cX13_count 107 = .ok (.getfield 342, 3) := by decide +kernel
theorem dX13_count_110 : decode cX13_count 110 = .ok (.goto 40, 3) := by decide +kernel
theorem dX13_count_113 : decode cX13_count 113 = .ok (.iload_n 1, 1) := by decide +kernel
theorem dX13_count_114 : decode cX13_count 114 = .ok (.iconst 1, 1) := by decide +kernel
theorem dX13_count_115 : decode cX13_count 115 = .ok (.if_icmp .ne 7, 3) := by decide +kernel
theorem dX13_count_118 : decode cX13_count 118 = .ok (.iload_n 2, 1) := by decide +kernel
theorem dX13_count_119 : decode cX13_count 119 = .ok (.goto 31, 3) := by decide +kernel
theorem dX13_count_122 : decode cX13_count 122 = .ok (.iload_n 1, 1) := by decide +kernel
theorem dX13_count_123 : decode cX13_count 123 = .ok (.iconst 2, 1) := by decide +kernel
theorem dX13_count_124 : decode cX13_count 124 = .ok (.if_icmp .ne 10, 3) := by decide +kernel
theorem dX13_count_127 : decode cX13_count 127 = .ok (.aload_n 0, 1) := by decide +kernel
theorem dX13_count_128 : decode cX13_count 128 = .ok (.getfield 356, 3) := by decide +kernel
theorem dX13_count_131 : decode cX13_count 131 = .ok (.goto 19, 3) := by decide +kernel
theorem dX13_count_134 : decode cX13_count 134 = .ok (.iload_n 1, 1) := by decide +kernel
theorem dX13_count_135 : decode cX13_count 135 = .ok (.iconst 3, 1) := by decide +kernel
theorem dX13_count_136 : decode cX13_count 136 = .ok (.if_icmp .ne 10, 3) := by decide +kernel
theorem dX13_count_139 : decode cX13_count 139 = .ok (.aload_n 0, 1) := by decide +kernel
theorem dX13_count_140 : decode cX13_count 140 = .ok (.getfield 251, 3) := by decide +kernel
theorem dX13_count_143 : decode cX13_count 143 = .ok (.goto 7, 3) := by decide +kernel
theorem dX13_count_146 : decode cX13_count 146 = .ok (.aload_n 0, 1) := by decide +kernel
theorem dX13_count_147 : decode cX13_count 147 = .ok (.getfield 377, 3) := by decide +kernel
theorem dX13_count_150 : decode cX13_count 150 = .ok (.ireturn, 1) := by decide +kernel

abbrev mX12_kindsInUse : sv_M := (cX12_kindsInUse, 5, yX12_kindsInUse, wsX12_kindsInUse, (some .int), { frames := 20, cells := 0, slots := 0, locals := 1000 }, [])
set_option maxHeartbeats 4000000 in
set_option maxRecDepth 100000 in
theorem c_kinds0 (G : sv_G) (h : sv_h) (z b : Nat) (ly tp rd ck wv ru la fo fl lo : Nat) (rc lr lf : Int32) (hb : h b = some (.inr (10, [.ref ly, .ref tp, .ref rd, .ref ck, .ref wv, .ref ru, .int rc, .int lr, .int lf, .ref la, .ref fo, .ref fl, .ref lo]))) (hrc : rc = 0) : CT G mX12_kindsInUse [.ref b] h z (fun v h1 z1 => v = some (.int 0) ∧ h1 = h ∧ z1 = z) := by
  refine CT.of (by decide +kernel) rfl rfl (Nat.le_of_ble_eq_true rfl) ?_
  refine v_iconst (v := 0) dX12_kindsInUse_0 (by decide) ?_
  refine v_istore_n (L' := [(1, _), (0, _)]) dX12_kindsInUse_1 rfl (Nat.le_of_ble_eq_true rfl) rfl ?_
  refine v_iconst (v := 0) dX12_kindsInUse_2 (by decide) ?_
  refine v_istore_n (L' := [(2, _), (1, _), (0, _)]) dX12_kindsInUse_3 rfl (Nat.le_of_ble_eq_true rfl) rfl ?_
  refine v_iload_n dX12_kindsInUse_4 rfl 0 rfl ?_
  refine v_aload_n dX12_kindsInUse_5 rfl 2 rfl ?_
  refine v_getf 6 (ci := 10) (C := RX12) (T := TX12) (N := 13) rfl iwX12_kindsInUse_X12 (Nat.le_of_ble_eq_true rfl) (by decide +kernel) dX12_kindsInUse_6 (by repeat (first | (with_reducible refine sv_us.trans ?_; exact rfl) | with_reducible assumption | with_reducible refine (sv_un (by omega)).trans ?_)) rfl ?_
  refine v_icmp_ge (tgt := 74) dX12_kindsInUse_9 (by decide) (fun c_9 => ?_) (fun c_9 => ?_)
  · refine v_iload_n dX12_kindsInUse_74 rfl 1 rfl ?_
    exact v_iret rfl dX12_kindsInUse_75 (Nat.le_of_ble_eq_true rfl) (Nat.le_of_ble_eq_true rfl) rfl ⟨rfl, rfl, rfl⟩
  · exact absurd (by rw [hrc]; decide) c_9

set_option maxHeartbeats 4000000 in
set_option maxRecDepth 100000 in
theorem c_count0 (G : sv_G) (hl0 : G.1.stackTraces = false) (h : sv_h) (z b : Nat) (w : Int32) (ly tp rd ck wv ru la fo fl lo : Nat) (rc lr lf : Int32) (hb : h b = some (.inr (10, [.ref ly, .ref tp, .ref rd, .ref ck, .ref wv, .ref ru, .int rc, .int lr, .int lf, .ref la, .ref fo, .ref fl, .ref lo]))) (hrc : rc = 0) (ro od st : Nat) (us sz ov hm : Int32) (hla : h la = some (.inr (8, [.ref ro, .int us, .ref od, .ref st, .int sz, .int ov, .int hm]))) (hsz : sz = 0) (w0 w1 : Nat) (wn : Int32) (hwv : h wv = some (.inr (9, [.ref w0, .ref w1, .int wn]))) (hwn : wn = 0) (A : Nat) (tn : Int32) (htp : h tp = some (.inr (7, [.ref A, .int tn]))) (htn : tn = 0) : CX G mX12_count [.ref b, .int w] h z (fun v h1 z1 => ¬ (w.toInt < 0 ∨ 4 < w.toInt) ∧ v = some (.int 0) ∧ h1 = h ∧ z1 = z) (fun E h1 z1 => (w.toInt < 0 ∨ 4 < w.toInt) ∧ E = "java/lang/IndexOutOfBoundsException" ∧ h1 = h) := by
  refine CX.of (by decide +kernel) rfl rfl (Nat.le_of_ble_eq_true rfl) ?_
  refine v_iload_n dX12_count_0 rfl 1 rfl ?_
  by_cases hw : w.toInt < 0 ∨ 4 < w.toInt
  · refine v_tableOut (tgt := 70) dX12_count_1 hw (by decide) ?_
    exact v_throw (ik := 121) (is := 255) (ic := 125) (cls := "java/lang/IndexOutOfBoundsException") (text := "no such what") (names := ["java/lang/RuntimeException", "java/lang/Exception"]) hl0 rfl (by decide +kernel) (by decide +kernel) (by decide +kernel) (by decide +kernel) (by decide +kernel) (by decide +kernel) (by decide +kernel) sv_bwO (by decide +kernel) dX12_count_70 dX12_count_73 dX12_count_74 dX12_count_76 dX12_count_79 rfl (Nat.le_of_ble_eq_true rfl) (Nat.le_of_ble_eq_true rfl) (Nat.le_of_ble_eq_true rfl) (Nat.le_of_ble_eq_true rfl) (fun z9 hz9 => ⟨hw, rfl, rfl⟩)
  · rcases (show w.toInt = 0 ∨ w.toInt = 1 ∨ w.toInt = 2 ∨ w.toInt = 3 ∨ w.toInt = 4 by omega) with e | e | e | e | e
    · obtain rfl : w = 0 := Int32.toInt_inj.mp (e.trans (by decide))
      refine v_tableIn (off := 35) (tgt := 36) dX12_count_1 (by decide) (by decide) (by decide) (by decide) ?_
      refine v_aload_n dX12_count_36 rfl 0 rfl ?_
      refine v_getf 6 (ci := 10) (C := RX12) (T := TX12) (N := 13) rfl iwX12_count_X12 (Nat.le_of_ble_eq_true rfl) (by decide +kernel) dX12_count_37 (by repeat (first | (with_reducible refine sv_us.trans ?_; exact rfl) | with_reducible assumption | with_reducible refine (sv_un (by omega)).trans ?_)) rfl ?_
      exact v_xret (v_iret rfl dX12_count_40 (Nat.le_of_ble_eq_true rfl) (Nat.le_of_ble_eq_true rfl) rfl ⟨hw, by rw [hrc], rfl, rfl⟩)
    · obtain rfl : w = 1 := Int32.toInt_inj.mp (e.trans (by decide))
      refine v_tableIn (off := 40) (tgt := 41) dX12_count_1 (by decide) (by decide) (by decide) (by decide) ?_
      refine v_aload_n dX12_count_41 rfl 0 rfl ?_
      refine v_callV (M' := mX12_kindsInUse) (n := 0) (As := []) (ci := 10) (r := (RX12, TX12, 13)) gX12_count_X12_kindsInUse rfl (by decide +kernel) ⟨(Nat.le_of_ble_eq_true rfl), (Nat.le_of_ble_eq_true rfl)⟩ rfl rfl dX12_count_42 rfl ⟨(Nat.le_of_ble_eq_true rfl), (Nat.le_of_ble_eq_true rfl)⟩ (Nat.le_of_ble_eq_true rfl) (by repeat (first | (with_reducible refine sv_us.trans ?_; exact rfl) | with_reducible assumption | with_reducible refine (sv_un (by omega)).trans ?_)) rfl (c_kinds0 G _ _ _ _ _ _ _ _ _ _ _ _ _ _ _ _ hb hrc) (fun v h1 z1 hq => ?_)
      obtain ⟨rfl, rfl, rfl⟩ := hq
      exact v_xret (v_iret rfl dX12_count_45 (Nat.le_of_ble_eq_true rfl) (Nat.le_of_ble_eq_true rfl) rfl ⟨hw, rfl, rfl, rfl⟩)
    · obtain rfl : w = 2 := Int32.toInt_inj.mp (e.trans (by decide))
      refine v_tableIn (off := 45) (tgt := 46) dX12_count_1 (by decide) (by decide) (by decide) (by decide) ?_
      refine v_aload_n dX12_count_46 rfl 0 rfl ?_
      refine v_getf 9 (ci := 10) (C := RX12) (T := TX12) (N := 13) rfl iwX12_count_X12 (Nat.le_of_ble_eq_true rfl) (by decide +kernel) dX12_count_47 (by repeat (first | (with_reducible refine sv_us.trans ?_; exact rfl) | with_reducible assumption | with_reducible refine (sv_un (by omega)).trans ?_)) rfl ?_
      refine v_getf 4 (ci := 8) (C := RX10) (T := TX10) (N := 7) rfl iwX12_count_X10 (Nat.le_of_ble_eq_true rfl) (by decide +kernel) dX12_count_50 (by repeat (first | (with_reducible refine sv_us.trans ?_; exact rfl) | with_reducible assumption | with_reducible refine (sv_un (by omega)).trans ?_)) rfl ?_
      exact v_xret (v_iret rfl dX12_count_53 (Nat.le_of_ble_eq_true rfl) (Nat.le_of_ble_eq_true rfl) rfl ⟨hw, by rw [hsz], rfl, rfl⟩)
    · obtain rfl : w = 3 := Int32.toInt_inj.mp (e.trans (by decide))
      refine v_tableIn (off := 53) (tgt := 54) dX12_count_1 (by decide) (by decide) (by decide) (by decide) ?_
      refine v_aload_n dX12_count_54 rfl 0 rfl ?_
      refine v_getf 4 (ci := 10) (C := RX12) (T := TX12) (N := 13) rfl iwX12_count_X12 (Nat.le_of_ble_eq_true rfl) (by decide +kernel) dX12_count_55 (by repeat (first | (with_reducible refine sv_us.trans ?_; exact rfl) | with_reducible assumption | with_reducible refine (sv_un (by omega)).trans ?_)) rfl ?_
      refine v_getf 2 (ci := 9) (C := RX11) (T := TX11) (N := 3) rfl iwX12_count_X11 (Nat.le_of_ble_eq_true rfl) (by decide +kernel) dX12_count_58 (by repeat (first | (with_reducible refine sv_us.trans ?_; exact rfl) | with_reducible assumption | with_reducible refine (sv_un (by omega)).trans ?_)) rfl ?_
      exact v_xret (v_iret rfl dX12_count_61 (Nat.le_of_ble_eq_true rfl) (Nat.le_of_ble_eq_true rfl) rfl ⟨hw, by rw [hwn], rfl, rfl⟩)
    · obtain rfl : w = 4 := Int32.toInt_inj.mp (e.trans (by decide))
      refine v_tableIn (off := 61) (tgt := 62) dX12_count_1 (by decide) (by decide) (by decide) (by decide) ?_
      refine v_aload_n dX12_count_62 rfl 0 rfl ?_
      refine v_getf 1 (ci := 10) (C := RX12) (T := TX12) (N := 13) rfl iwX12_count_X12 (Nat.le_of_ble_eq_true rfl) (by decide +kernel) dX12_count_63 (by repeat (first | (with_reducible refine sv_us.trans ?_; exact rfl) | with_reducible assumption | with_reducible refine (sv_un (by omega)).trans ?_)) rfl ?_
      refine v_getf 1 (ci := 7) (C := RX9) (T := TX9) (N := 2) rfl iwX12_count_X9 (Nat.le_of_ble_eq_true rfl) (by decide +kernel) dX12_count_66 (by repeat (first | (with_reducible refine sv_us.trans ?_; exact rfl) | with_reducible assumption | with_reducible refine (sv_un (by omega)).trans ?_)) rfl ?_
      exact v_xret (v_iret rfl dX12_count_69 (Nat.le_of_ble_eq_true rfl) (Nat.le_of_ble_eq_true rfl) rfl ⟨hw, by rw [htn], rfl, rfl⟩)

set_option maxHeartbeats 4000000 in
set_option maxRecDepth 100000 in
theorem l_mcount (G : sv_G) (Qr : Option Value → sv_h → Nat → Prop) (h : sv_h) (z m : Nat) (fs : List Value) (hlen : fs.length = 71) (hm : h m = some (.inr (11, fs))) (w : Int32) (f_rules : fs[18]? = some (.int 0)) (hk : V G mX13_count (sv_MQ G mX13_count Qr) 91 [(3, .int (nI 11)), (2, .int 0), (0, .ref m), (1, .int w)] [] h z 0 0) : ∀ (c i : Nat), i + c = 11 → V G mX13_count (sv_MQ G mX13_count Qr) 22 [(3, .int (nI i)), (2, .int 0), (0, .ref m), (1, .int w)] [] h z 0 0 := by
  intro c
  induction c with
  | zero =>
    intro i hic
    refine v_iload_n dX13_count_22 rfl 0 rfl ?_
    refine v_bipush (v := 10) dX13_count_23 (by decide) ?_
    refine v_icmp_gt (tgt := 91) dX13_count_25 (by decide) (fun c_25 => ?_) (fun c_25 => ?_)
    · obtain rfl : i = 11 := by omega
      exact hk
    · exact absurd (nI_lt (a := 10) (b := i) (by omega) (by omega)) c_25
  | succ c ih =>
    intro i hic
    refine v_iload_n dX13_count_22 rfl 0 rfl ?_
    refine v_bipush (v := 10) dX13_count_23 (by decide) ?_
    refine v_icmp_gt (tgt := 91) dX13_count_25 (by decide) (fun c_25 => ?_) (fun c_25 => ?_)
    · exact absurd c_25 (nI_nlt (a := 10) (b := i) (by omega) (by omega))
    · refine v_iconst (v := 0) dX13_count_28 (by decide) ?_
      refine v_istore (L' := [(4, _), (3, _), (2, _), (0, _), (1, _)]) dX13_count_29 (Nat.le_of_ble_eq_true rfl) rfl ?_
      refine v_iconst (v := 0) dX13_count_31 (by decide) ?_
      refine v_istore (L' := [(5, _), (4, _), (3, _), (2, _), (0, _), (1, _)]) dX13_count_32 (Nat.le_of_ble_eq_true rfl) rfl ?_
      refine v_iload dX13_count_34 0 rfl ?_
      refine v_aload_n dX13_count_36 rfl 4 rfl ?_
      refine v_getf 18 (ci := 11) (C := RX13) (T := TX13) (N := 71) rfl iwX13_count_X13 (Nat.le_of_ble_eq_true rfl) (by decide +kernel) dX13_count_37 (by repeat (first | (with_reducible refine sv_us.trans ?_; exact rfl) | with_reducible assumption | with_reducible refine (sv_un (by omega)).trans ?_)) (by repeat (first | with_reducible assumption | (with_reducible refine (sv_ls (by first | omega | (simp only [List.length_set]; omega))).trans ?_; exact rfl) | with_reducible refine (List.getElem?_set_ne (by decide)).trans ?_)) ?_
      refine v_icmp_ge (tgt := 72) dX13_count_40 (by decide) (fun c_40 => ?_) (fun c_40 => ?_)
      · refine v_iload_n dX13_count_72 rfl 3 rfl ?_
        refine v_iload dX13_count_73 1 rfl ?_
        refine v_if_eq (tgt := 82) dX13_count_75 (by decide) (fun c_75 => ?_) (fun c_75 => ?_)
        · refine v_iconst (v := 0) dX13_count_82 (by decide) ?_
          refine v_iadd dX13_count_83 ?_
          refine v_istore_n (L' := [(2, _), (5, _), (4, _), (3, _), (0, _), (1, _)]) dX13_count_84 rfl (Nat.le_of_ble_eq_true rfl) rfl ?_
          refine v_iinc (j := 3) (L' := [(3, _), (2, _), (5, _), (4, _), (0, _), (1, _)]) (v := nI (i + 1)) dX13_count_85 rfl (nI_1 i) (Nat.le_of_ble_eq_true rfl) rfl ?_
          refine v_goto (tgt := 22) dX13_count_88 (by decide) ?_
          refine v_sub (L' := [(3, _), (2, _), (0, _), (1, _)]) [0, 1, 4, 5] rfl ?_
          exact ih (i + 1) (by omega)
        · exact absurd rfl c_75
      · exact absurd (by decide) c_40

set_option maxHeartbeats 4000000 in
set_option maxRecDepth 100000 in
theorem t_mcount_z (G : sv_G) (Qr : Option Value → sv_h → Nat → Prop) (h : sv_h) (z m : Nat) (fs : List Value) (hlen : fs.length = 71) (hm : h m = some (.inr (11, fs))) (w : Int32) (f_code : fs[0]? = some (.int 0)) (f_rules : fs[18]? = some (.int 0)) (f_latest : fs[30]? = some (.int 0)) (f_waived : fs[33]? = some (.int 0)) (f_length : fs[17]? = some (.int 0)) (hq : Qr (some (.int 0)) h z) : V G mX13_count (sv_MQ G mX13_count Qr) 91 [(3, .int (nI 11)), (2, .int 0), (0, .ref m), (1, .int w)] [] h z 0 0 := by
  refine v_aload_n dX13_count_91 rfl 2 rfl ?_
  refine v_getf 0 (ci := 11) (C := RX13) (T := TX13) (N := 71) rfl iwX13_count_X13 (Nat.le_of_ble_eq_true rfl) (by decide +kernel) dX13_count_92 (by repeat (first | (with_reducible refine sv_us.trans ?_; exact rfl) | with_reducible assumption | with_reducible refine (sv_un (by omega)).trans ?_)) (by repeat (first | with_reducible assumption | (with_reducible refine (sv_ls (by first | omega | (simp only [List.length_set]; omega))).trans ?_; exact rfl) | with_reducible refine (List.getElem?_set_ne (by decide)).trans ?_)) ?_
  refine v_if_le (tgt := 102) dX13_count_95 (by decide) (fun c_95 => ?_) (fun c_95 => ?_)
  · refine v_iload_n dX13_count_102 rfl 3 rfl ?_
    refine v_if_ne (tgt := 113) dX13_count_103 (by decide) (fun c_103 => ?_) (fun c_103 => ?_)
    · refine v_iload_n dX13_count_113 rfl 3 rfl ?_
      refine v_iconst (v := 1) dX13_count_114 (by decide) ?_
      refine v_icmp_ne (tgt := 122) dX13_count_115 (by decide) (fun c_115 => ?_) (fun c_115 => ?_)
      · refine v_iload_n dX13_count_122 rfl 3 rfl ?_
        refine v_iconst (v := 2) dX13_count_123 (by decide) ?_
        refine v_icmp_ne (tgt := 134) dX13_count_124 (by decide) (fun c_124 => ?_) (fun c_124 => ?_)
        · refine v_iload_n dX13_count_134 rfl 3 rfl ?_
          refine v_iconst (v := 3) dX13_count_135 (by decide) ?_
          refine v_icmp_ne (tgt := 146) dX13_count_136 (by decide) (fun c_136 => ?_) (fun c_136 => ?_)
          · refine v_aload_n dX13_count_146 rfl 2 rfl ?_
            refine v_getf 17 (ci := 11) (C := RX13) (T := TX13) (N := 71) rfl iwX13_count_X13 (Nat.le_of_ble_eq_true rfl) (by decide +kernel) dX13_count_147 (by repeat (first | (with_reducible refine sv_us.trans ?_; exact rfl) | with_reducible assumption | with_reducible refine (sv_un (by omega)).trans ?_)) (by repeat (first | with_reducible assumption | (with_reducible refine (sv_ls (by first | omega | (simp only [List.length_set]; omega))).trans ?_; exact rfl) | with_reducible refine (List.getElem?_set_ne (by decide)).trans ?_)) ?_
            exact v_iret rfl dX13_count_150 (Nat.le_of_ble_eq_true rfl) (Nat.le_of_ble_eq_true rfl) rfl hq
          · refine v_aload_n dX13_count_139 rfl 2 rfl ?_
            refine v_getf 33 (ci := 11) (C := RX13) (T := TX13) (N := 71) rfl iwX13_count_X13 (Nat.le_of_ble_eq_true rfl) (by decide +kernel) dX13_count_140 (by repeat (first | (with_reducible refine sv_us.trans ?_; exact rfl) | with_reducible assumption | with_reducible refine (sv_un (by omega)).trans ?_)) (by repeat (first | with_reducible assumption | (with_reducible refine (sv_ls (by first | omega | (simp only [List.length_set]; omega))).trans ?_; exact rfl) | with_reducible refine (List.getElem?_set_ne (by decide)).trans ?_)) ?_
            refine v_goto (tgt := 150) dX13_count_143 (by decide) ?_
            exact v_iret rfl dX13_count_150 (Nat.le_of_ble_eq_true rfl) (Nat.le_of_ble_eq_true rfl) rfl hq
        · refine v_aload_n dX13_count_127 rfl 2 rfl ?_
          refine v_getf 30 (ci := 11) (C := RX13) (T := TX13) (N := 71) rfl iwX13_count_X13 (Nat.le_of_ble_eq_true rfl) (by decide +kernel) dX13_count_128 (by repeat (first | (with_reducible refine sv_us.trans ?_; exact rfl) | with_reducible assumption | with_reducible refine (sv_un (by omega)).trans ?_)) (by repeat (first | with_reducible assumption | (with_reducible refine (sv_ls (by first | omega | (simp only [List.length_set]; omega))).trans ?_; exact rfl) | with_reducible refine (List.getElem?_set_ne (by decide)).trans ?_)) ?_
          refine v_goto (tgt := 150) dX13_count_131 (by decide) ?_
          exact v_iret rfl dX13_count_150 (Nat.le_of_ble_eq_true rfl) (Nat.le_of_ble_eq_true rfl) rfl hq
      · refine v_iload_n dX13_count_118 rfl 1 rfl ?_
        refine v_goto (tgt := 150) dX13_count_119 (by decide) ?_
        exact v_iret rfl dX13_count_150 (Nat.le_of_ble_eq_true rfl) (Nat.le_of_ble_eq_true rfl) rfl hq
    · refine v_aload_n dX13_count_106 rfl 2 rfl ?_
      refine v_getf 18 (ci := 11) (C := RX13) (T := TX13) (N := 71) rfl iwX13_count_X13 (Nat.le_of_ble_eq_true rfl) (by decide +kernel) dX13_count_107 (by repeat (first | (with_reducible refine sv_us.trans ?_; exact rfl) | with_reducible assumption | with_reducible refine (sv_un (by omega)).trans ?_)) (by repeat (first | with_reducible assumption | (with_reducible refine (sv_ls (by first | omega | (simp only [List.length_set]; omega))).trans ?_; exact rfl) | with_reducible refine (List.getElem?_set_ne (by decide)).trans ?_)) ?_
      refine v_goto (tgt := 150) dX13_count_110 (by decide) ?_
      exact v_iret rfl dX13_count_150 (Nat.le_of_ble_eq_true rfl) (Nat.le_of_ble_eq_true rfl) rfl hq
  · exact absurd (by decide) c_95

set_option maxHeartbeats 4000000 in
set_option maxRecDepth 100000 in
theorem t_mcount_o (G : sv_G) (Qr : Option Value → sv_h → Nat → Prop) (h : sv_h) (z m : Nat) (fs : List Value) (hlen : fs.length = 71) (hm : h m = some (.inr (11, fs))) (w : Int32) (f_code : fs[0]? = some (.int 1)) (f_rules : fs[18]? = some (.int 0)) (f_latest : fs[30]? = some (.int 0)) (f_waived : fs[33]? = some (.int 0)) (f_length : fs[17]? = some (.int 0)) (hq : Qr (some (.int 0)) h z) : V G mX13_count (sv_MQ G mX13_count Qr) 91 [(3, .int (nI 11)), (2, .int 0), (0, .ref m), (1, .int w)] [] h z 0 0 := by
  refine v_aload_n dX13_count_91 rfl 2 rfl ?_
  refine v_getf 0 (ci := 11) (C := RX13) (T := TX13) (N := 71) rfl iwX13_count_X13 (Nat.le_of_ble_eq_true rfl) (by decide +kernel) dX13_count_92 (by repeat (first | (with_reducible refine sv_us.trans ?_; exact rfl) | with_reducible assumption | with_reducible refine (sv_un (by omega)).trans ?_)) (by repeat (first | with_reducible assumption | (with_reducible refine (sv_ls (by first | omega | (simp only [List.length_set]; omega))).trans ?_; exact rfl) | with_reducible refine (List.getElem?_set_ne (by decide)).trans ?_)) ?_
  refine v_if_le (tgt := 102) dX13_count_95 (by decide) (fun c_95 => ?_) (fun c_95 => ?_)
  · exact absurd c_95 (by decide)
  · refine v_iconst (v := 0) dX13_count_98 (by decide) ?_
    refine v_goto (tgt := 150) dX13_count_99 (by decide) ?_
    exact v_iret rfl dX13_count_150 (Nat.le_of_ble_eq_true rfl) (Nat.le_of_ble_eq_true rfl) rfl hq

set_option maxHeartbeats 4000000 in
set_option maxRecDepth 100000 in
theorem m_count0 (G : sv_G) (h : sv_h) (z m : Nat) (fs : List Value) (hlen : fs.length = 71) (hm : h m = some (.inr (11, fs))) (w : Int32) (f_rules : fs[18]? = some (.int 0)) (f_latest : fs[30]? = some (.int 0)) (f_waived : fs[33]? = some (.int 0)) (f_length : fs[17]? = some (.int 0)) (hw : ¬ (w.toInt < 0 ∨ 4 < w.toInt)) : CT G mX13_count [.ref m, .int w] h z (fun v h1 z1 => v = some (.int 0) ∧ h1 = va_up h m (some (.inr (11, fs.set 0 (.int 0)))) ∧ z1 = z) := by
  refine CT.of (by decide +kernel) rfl rfl (Nat.le_of_ble_eq_true rfl) ?_
  refine v_aload_n dX13_count_0 rfl 0 rfl ?_
  refine v_iload_n dX13_count_1 rfl 1 rfl ?_
  refine v_if_lt (tgt := 10) dX13_count_2 (by decide) (fun c_2 => ?_) (fun c_2 => ?_)
  · exact absurd (Or.inl (by simp only [Int32.lt_iff_toInt_lt, Int32.le_iff_toInt_le, sv_i0, sv_i1, sv_i2, sv_i3, sv_i4, sv_i5, sv_i6, sv_i7, sv_i8, sv_i9, sv_i10, sv_i16, sv_i17, sv_i20, sv_i32, sv_i40, sv_i64, sv_i100, sv_i126, sv_i255, sv_i600, sv_i1500, sv_i65536, sv_im1] at *; omega)) hw
  · refine v_iload_n dX13_count_5 rfl 1 rfl ?_
    refine v_iconst (v := 4) dX13_count_6 (by decide) ?_
    refine v_icmp_le (tgt := 14) dX13_count_7 (by decide) (fun c_7 => ?_) (fun c_7 => ?_)
    · refine v_iconst (v := 0) dX13_count_14 (by decide) ?_
      refine v_putf 0 (fs' := _) (ci := 11) (C := RX13) (T := TX13) (N := 71) (ty := .int) rfl iwX13_count_X13 tyX13 tyX13_ok nmX13 (Nat.le_of_ble_eq_true rfl) (by decide +kernel) rfl rfl dX13_count_15 rfl rfl (by repeat (first | (with_reducible refine sv_us.trans ?_; exact rfl) | with_reducible assumption | with_reducible refine (sv_un (by omega)).trans ?_)) (by first | omega | (simp only [List.length_set]; omega)) rfl ?_
      refine v_iconst (v := 0) dX13_count_18 (by decide) ?_
      refine v_istore_n (L' := [(2, _), (0, _), (1, _)]) dX13_count_19 rfl (Nat.le_of_ble_eq_true rfl) rfl ?_
      refine v_iconst (v := 0) dX13_count_20 (by decide) ?_
      refine v_istore_n (L' := [(3, _), (2, _), (0, _), (1, _)]) dX13_count_21 rfl (Nat.le_of_ble_eq_true rfl) rfl ?_
      refine v_sub (L' := [(3, _), (2, _), (0, _), (1, _)]) [0, 1, 2, 3] rfl ?_
      exact l_mcount G _ _ z m (fs.set 0 (.int 0)) (by rw [List.length_set]; exact hlen) sv_us w ((List.getElem?_set_ne (by decide)).trans f_rules) (t_mcount_z G _ _ z m (fs.set 0 (.int 0)) (by rw [List.length_set]; exact hlen) sv_us w (sv_ls (by omega)) ((List.getElem?_set_ne (by decide)).trans f_rules) ((List.getElem?_set_ne (by decide)).trans f_latest) ((List.getElem?_set_ne (by decide)).trans f_waived) ((List.getElem?_set_ne (by decide)).trans f_length) ⟨rfl, rfl, rfl⟩) 11 0 rfl
    · exact absurd (Or.inr (by simp only [Int32.lt_iff_toInt_lt, Int32.le_iff_toInt_le, sv_i0, sv_i1, sv_i2, sv_i3, sv_i4, sv_i5, sv_i6, sv_i7, sv_i8, sv_i9, sv_i10, sv_i16, sv_i17, sv_i20, sv_i32, sv_i40, sv_i64, sv_i100, sv_i126, sv_i255, sv_i600, sv_i1500, sv_i65536, sv_im1] at *; omega)) hw

set_option maxHeartbeats 4000000 in
set_option maxRecDepth 100000 in
theorem m_count0_o (G : sv_G) (h : sv_h) (z m : Nat) (fs : List Value) (hlen : fs.length = 71) (hm : h m = some (.inr (11, fs))) (w : Int32) (f_rules : fs[18]? = some (.int 0)) (f_latest : fs[30]? = some (.int 0)) (f_waived : fs[33]? = some (.int 0)) (f_length : fs[17]? = some (.int 0)) (hw : w.toInt < 0 ∨ 4 < w.toInt) : CT G mX13_count [.ref m, .int w] h z (fun v h1 z1 => v = some (.int 0) ∧ h1 = va_up h m (some (.inr (11, fs.set 0 (.int 1)))) ∧ z1 = z) := by
  refine CT.of (by decide +kernel) rfl rfl (Nat.le_of_ble_eq_true rfl) ?_
  refine v_aload_n dX13_count_0 rfl 0 rfl ?_
  refine v_iload_n dX13_count_1 rfl 1 rfl ?_
  refine v_if_lt (tgt := 10) dX13_count_2 (by decide) (fun c_2 => ?_) (fun c_2 => ?_)
  · refine v_iconst (v := 1) dX13_count_10 (by decide) ?_
    refine v_goto (tgt := 15) dX13_count_11 (by decide) ?_
    refine v_putf 0 (fs' := _) (ci := 11) (C := RX13) (T := TX13) (N := 71) (ty := .int) rfl iwX13_count_X13 tyX13 tyX13_ok nmX13 (Nat.le_of_ble_eq_true rfl) (by decide +kernel) rfl rfl dX13_count_15 rfl rfl (by repeat (first | (with_reducible refine sv_us.trans ?_; exact rfl) | with_reducible assumption | with_reducible refine (sv_un (by omega)).trans ?_)) (by first | omega | (simp only [List.length_set]; omega)) rfl ?_
    refine v_iconst (v := 0) dX13_count_18 (by decide) ?_
    refine v_istore_n (L' := [(2, _), (0, _), (1, _)]) dX13_count_19 rfl (Nat.le_of_ble_eq_true rfl) rfl ?_
    refine v_iconst (v := 0) dX13_count_20 (by decide) ?_
    refine v_istore_n (L' := [(3, _), (2, _), (0, _), (1, _)]) dX13_count_21 rfl (Nat.le_of_ble_eq_true rfl) rfl ?_
    refine v_sub (L' := [(3, _), (2, _), (0, _), (1, _)]) [0, 1, 2, 3] rfl ?_
    exact l_mcount G _ _ z m (fs.set 0 (.int 1)) (by rw [List.length_set]; exact hlen) sv_us w ((List.getElem?_set_ne (by decide)).trans f_rules) (t_mcount_o G _ _ z m (fs.set 0 (.int 1)) (by rw [List.length_set]; exact hlen) sv_us w (sv_ls (by omega)) ((List.getElem?_set_ne (by decide)).trans f_rules) ((List.getElem?_set_ne (by decide)).trans f_latest) ((List.getElem?_set_ne (by decide)).trans f_waived) ((List.getElem?_set_ne (by decide)).trans f_length) ⟨rfl, rfl, rfl⟩) 11 0 rfl
  · refine v_iload_n dX13_count_5 rfl 1 rfl ?_
    refine v_iconst (v := 4) dX13_count_6 (by decide) ?_
    refine v_icmp_le (tgt := 14) dX13_count_7 (by decide) (fun c_7 => ?_) (fun c_7 => ?_)
    · exact absurd hw (by simp only [Int32.lt_iff_toInt_lt, Int32.le_iff_toInt_le, sv_i0, sv_i1, sv_i2, sv_i3, sv_i4, sv_i5, sv_i6, sv_i7, sv_i8, sv_i9, sv_i10, sv_i16, sv_i17, sv_i20, sv_i32, sv_i40, sv_i64, sv_i100, sv_i126, sv_i255, sv_i600, sv_i1500, sv_i65536, sv_im1] at *; omega)
    · refine v_iconst (v := 1) dX13_count_10 (by decide) ?_
      refine v_goto (tgt := 15) dX13_count_11 (by decide) ?_
      refine v_putf 0 (fs' := _) (ci := 11) (C := RX13) (T := TX13) (N := 71) (ty := .int) rfl iwX13_count_X13 tyX13 tyX13_ok nmX13 (Nat.le_of_ble_eq_true rfl) (by decide +kernel) rfl rfl dX13_count_15 rfl rfl (by repeat (first | (with_reducible refine sv_us.trans ?_; exact rfl) | with_reducible assumption | with_reducible refine (sv_un (by omega)).trans ?_)) (by first | omega | (simp only [List.length_set]; omega)) rfl ?_
      refine v_iconst (v := 0) dX13_count_18 (by decide) ?_
      refine v_istore_n (L' := [(2, _), (0, _), (1, _)]) dX13_count_19 rfl (Nat.le_of_ble_eq_true rfl) rfl ?_
      refine v_iconst (v := 0) dX13_count_20 (by decide) ?_
      refine v_istore_n (L' := [(3, _), (2, _), (0, _), (1, _)]) dX13_count_21 rfl (Nat.le_of_ble_eq_true rfl) rfl ?_
      refine v_sub (L' := [(3, _), (2, _), (0, _), (1, _)]) [0, 1, 2, 3] rfl ?_
      exact l_mcount G _ _ z m (fs.set 0 (.int 1)) (by rw [List.length_set]; exact hlen) sv_us w ((List.getElem?_set_ne (by decide)).trans f_rules) (t_mcount_o G _ _ z m (fs.set 0 (.int 1)) (by rw [List.length_set]; exact hlen) sv_us w (sv_ls (by omega)) ((List.getElem?_set_ne (by decide)).trans f_rules) ((List.getElem?_set_ne (by decide)).trans f_latest) ((List.getElem?_set_ne (by decide)).trans f_waived) ((List.getElem?_set_ne (by decide)).trans f_length) ⟨rfl, rfl, rfl⟩) 11 0 rfl

