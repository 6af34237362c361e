theorem iwX12_units_X12 : ∀ w ∈ wsX120, w ∈ wsX12_units := by decide +kernel
theorem iwX13_units_X13 : ∀ w ∈ wsX130, w ∈ wsX13_units := by decide +kernel
set_option maxRecDepth 20000 in
theorem ggX12_units_X9_takes : GoodIn wsX12_units wsX9_takes := goodIn_r _ [6] (by decide +kernel) (by decide +kernel)
set_option maxRecDepth 20000 in
theorem gX12_units_X9_takes : GoodIn wsX12_units (wsV RX12 74 RX9 yX9_takes wsX9_takes) := goodIn_app (goodIn_of _ (by decide +kernel)) ggX12_units_X9_takes
set_option maxRecDepth 20000 in
theorem ggX12_units_X9_room : GoodIn wsX12_units wsX9_room := goodIn_r _ [10, 11, 30, 31] (by decide +kernel) (by decide +kernel)
set_option maxRecDepth 20000 in
theorem gX12_units_X9_room : GoodIn wsX12_units (wsV RX12 78 RX9 yX9_room wsX9_room) := goodIn_app (goodIn_of _ (by decide +kernel)) ggX12_units_X9_room
set_option maxRecDepth 20000 in
theorem ggX12_units_X9_put : GoodIn wsX12_units wsX9_put := goodIn_r _ [15, 11, 16, 30, 31] (by decide +kernel) (by decide +kernel)
set_option maxRecDepth 20000 in
theorem gX12_units_X9_put : GoodIn wsX12_units (wsV RX12 82 RX9 yX9_put wsX9_put) := goodIn_app (goodIn_of _ (by decide +kernel)) ggX12_units_X9_put
theorem dX12_units_0 : decode cX12_units 0 = .ok (.iconst 0, 1) := by decide +kernel
theorem dX12_units_1 : decode cX12_units 1 = .ok (.istore_n 2, 1) := by decide +kernel
theorem dX12_units_2 : decode cX12_units 2 = .ok (.bipush 24, 2) := by decide +kernel
theorem dX12_units_4 : decode cX12_units 4 = .ok (.istore_n 3, 1) := by decide +kernel
theorem dX12_units_5 : decode cX12_units 5 = .ok (.iload_n 3, 1) := by decide +kernel
theorem dX12_units_6 : decode cX12_units 6 = .ok (.ifCond .lt 40, 3) := by decide +kernel
theorem dX12_units_9 : decode cX12_units 9 = .ok (.iload_n 1, 1) := by decide +kernel
theorem dX12_units_10 : decode cX12_units 10 = .ok (.iload_n 3, 1) := by decide +kernel
theorem dX12_units_11 : decode cX12_units 11 = .ok (.iushr, 1) := by decide +kernel
theorem dX12_units_12 : decode cX12_units 12 = .ok (.sipush 255, 3) := by decide +kernel
theorem dX12_units_15 : decode cX12_units 15 = .ok (.iand, 1) := by decide +kernel
theorem dX12_units_16 : decode cX12_units 16 = .ok (.istore 4, 2) := by decide +kernel
theorem dX12_units_18 : decode cX12_units 18 = .ok (.iload 4, 2) := by decide +kernel
theorem dX12_units_20 : decode cX12_units 20 = .ok (.ifCond .eq 20, 3) := by decide +kernel
theorem dX12_units_23 : decode cX12_units 23 = .ok (.aload_n 0, 1) := by decide +kernel
theorem dX12_units_24 : decode cX12_units 24 = .ok (.getfield 22, 3) := by decide +kernel
theorem dX12_units_27 : decode cX12_units 27 = .ok (.iload 4, 2) := by decide +kernel
theorem dX12_units_29 : decode cX12_units 29 = .ok (.invokevirtual 74, 3) := by decide +kernel
theorem dX12_units_32 : decode cX12_units 32 = .ok (.ifCond .ne 5, 3) := by decide +kernel
theorem dX12_units_35 : decode cX12_units 35 = .ok (.iconst 0, 1) := by decide +kernel
theorem dX12_units_36 : decode cX12_units 36 = .ok (.ireturn, 1) := by decide +kernel
theorem dX12_units_37 : decode cX12_units 37 = .ok (.iinc 2 1, 3) := by decide +kernel
theorem dX12_units_40 : decode cX12_units 40 = .ok (.iinc 3 (-8), 3) := by decide +kernel
theorem dX12_units_43 : decode cX12_units 43 = .ok (.goto (-38), 3) := by decide +kernel
theorem dX12_units_46 : decode cX12_units 46 = .ok (.iload_n 2, 1) := by decide +kernel
theorem dX12_units_47 : decode cX12_units 47 = .ok (.aload_n 0, 1) := by decide +kernel
theorem dX12_units_48 : decode cX12_units 48 = .ok (.getfield 22, 3) := by decide +kernel
theorem dX12_units_51 : decode cX12_units 51 = .ok (.invokevirtual 78, 3) := by decide +kernel
theorem dX12_units_54 : decode cX12_units 54 = .ok (.if_icmp .le 5, 3) := by decide +kernel
theorem dX12_units_57 : decode cX12_units 57 = .ok (.iconst 0, 1) := by decide +kernel
theorem dX12_units_58 : decode cX12_units 58 = .ok (.ireturn, 1) := by decide +kernel
theorem dX12_units_59 : decode cX12_units 59 = .ok (.bipush 24, 2) := by decide +kernel
theorem dX12_units_61 : decode cX12_units 61 = .ok (.istore_n 3, 1) := by decide +kernel
theorem dX12_units_62 : decode cX12_units 62 = .ok (.iload_n 3, 1) := by decide +kernel
theorem dX12_units_63 : decode cX12_units 63 = .ok (.ifCond .lt 32, 3) := by decide +kernel
theorem dX12_units_66 : decode cX12_units 66 = .ok (.iload_n 1, 1) := by decide +kernel
theorem dX12_units_67 : decode cX12_units 67 = .ok (.iload_n 3, 1) := by decide +kernel
theorem dX12_units_68 : decode cX12_units 68 = .ok (.iushr, 1) := by decide +kernel
theorem dX12_units_69 : decode cX12_units 69 = .ok (.sipush 255, 3) := by decide +kernel
theorem dX12_units_72 : decode cX12_units 72 = .ok (.iand, 1) := by decide +kernel
theorem dX12_units_73 : decode cX12_units 73 = .ok (.istore 4, 2) := by decide +kernel
theorem dX12_units_75 : decode cX12_units 75 = .ok (.iload 4, 2) := by decide +kernel
theorem dX12_units_77 : decode cX12_units 77 = .ok (.ifCond .eq 12, 3) := by decide +kernel
theorem dX12_units_80 : decode cX12_units 80 = .ok (.aload_n 0, 1) := by decide +kernel
theorem dX12_units_81 : decode cX12_units 81 = .ok (.getfield 22, 3) := by decide +kernel
theorem dX12_units_84 : decode cX12_units 84 = .ok (.iload 4, 2) := by decide +kernel
theorem dX12_units_86 : decode cX12_units 86 = .ok (.invokevirtual 82, 3) := by decide +kernel
theorem dX12_units_89 : decode cX12_units 89 = .ok (.iinc 3 (-8), 3) := by decide +kernel
theorem dX12_units_92 : decode cX12_units 92 = .ok (.goto (-30), 3) := by decide +kernel
theorem dX12_units_95 : decode cX12_units 95 = .ok (.iconst 1, 1) := by decide +kernel
theorem dX12_units_96 : decode cX12_units 96 = .ok (.ireturn, 1) := by decide +kernel
set_option maxRecDepth 20000 in
theorem ggX13_units_X13_isCharacter : GoodIn wsX13_units wsX13_isCharacter := goodIn_r _ [7] (by decide +kernel) (by decide +kernel)
theorem dX13_units_0 : decode cX13_units 0 = .ok (.aload_n 0, 1) := by decide +kernel
theorem dX13_units_1 : decode cX13_units 1 = .ok (.iconst 0, 1) := by decide +kernel
theorem dX13_units_2 : decode cX13_units 2 = .ok (.putfield 141, 3) := by decide +kernel
theorem dX13_units_5 : decode cX13_units 5 = .ok (.iconst 0, 1) := by decide +kernel
theorem dX13_units_6 : decode cX13_units 6 = .ok (.istore_n 2, 1) := by decide +kernel
theorem dX13_units_7 : decode cX13_units 7 = .ok (.bipush 24, 2) := by decide +kernel
theorem dX13_units_9 : decode cX13_units 9 = .ok (.istore_n 3, 1) := by decide +kernel
theorem dX13_units_10 : decode cX13_units 10 = .ok (.iload_n 3, 1) := by decide +kernel
theorem dX13_units_11 : decode cX13_units 11 = .ok (.ifCond .lt 46, 3) := by decide +kernel
theorem dX13_units_14 : decode cX13_units 14 = .ok (.iload_n 1, 1) := by decide +kernel
theorem dX13_units_15 : decode cX13_units 15 = .ok (.iload_n 3, 1) := by decide +kernel
theorem dX13_units_16 : decode cX13_units 16 = .ok (.iushr, 1) := by decide +kernel
theorem dX13_units_17 : decode cX13_units 17 = .ok (.sipush 255, 3) := by decide +kernel
theorem dX13_units_20 : decode cX13_units 20 = .ok (.iand, 1) := by decide +kernel
theorem dX13_units_21 : decode cX13_units 21 = .ok (.istore 4, 2) := by decide +kernel
theorem dX13_units_23 : decode cX13_units 23 = .ok (.iload 4, 2) := by decide +kernel
theorem dX13_units_25 : decode cX13_units 25 = .ok (.ifCond .eq 13, 3) := by decide +kernel
theorem dX13_units_28 : decode cX13_units 28 = .ok (.iload 4, 2) := by decide +kernel
theorem dX13_units_30 : decode cX13_units 30 = .ok (.invokestatic 380, 3) := by decide +kernel
theorem dX13_units_33 : decode cX13_units 33 = .ok (.ifCond .ne 5, 3) := by decide +kernel
theorem dX13_units_36 : decode cX13_units 36 = .ok (.iconst 0, 1) := by decide +kernel
theorem dX13_units_37 : decode cX13_units 37 = .ok (.ireturn, 1) := by decide +kernel
theorem dX13_units_38 : decode cX13_units 38 = .ok (.iload_n 2, 1) := by decide +kernel
theorem dX13_units_39 : decode cX13_units 39 = .ok (.iload 4, 2) := by decide +kernel
theorem dX13_units_41 : decode cX13_units 41 = .ok (.ifCond .eq 7, 3) := by decide +kernel
theorem dX13_units_44 : decode cX13_units 44 = .ok (.iconst 1, 1) := by decide +kernel
theorem dX13_units_45 : decode cX13_units 45 = .ok (.goto 4, 3) := by decide +kernel
theorem dX13_units_48 : decode cX13_units 48 = .ok (.iconst 0, 1) := by decide +kernel
theorem dX13_units_49 : decode cX13_units 49 = .ok (.iadd, 1) := by decide +kernel
theorem dX13_units_50 : decode cX13_units 50 = .ok (.istore_n 2, 1) := by decide +kernel
theorem dX13_units_51 : decode cX13_units 51 = .ok (.iinc 3 (-8), 3) := by decide +kernel
theorem dX13_units_54 : decode cX13_units 54 = .ok (.goto (-44), 3) := by decide +kernel
theorem dX13_units_57 : decode cX13_units 57 = .ok (.aload_n 0, 1) := by decide +kernel
theorem dX13_units_58 : decode cX13_units 58 = .ok (.getfield 377, 3) := by decide +kernel
theorem dX13_units_61 : decode cX13_units 61 = .ok (.iload_n 2, 1) := by decide +kernel
theorem dX13_units_62 : decode cX13_units 62 = .ok (.iadd, 1) := by decide +kernel
theorem dX13_units_63 : decode cX13_units 63 = .ok (.sipush 600, 3) := by decide +kernel
theorem dX13_units_66 : decode cX13_units 66 = .ok (.if_icmp .le 5, 3) := by decide +kernel
theorem dX13_units_69 : decode cX13_units 69 = .ok (.iconst 0, 1) := by decide +kernel
theorem dX13_units_70 : decode cX13_units 70 = .ok (.ireturn, 1) := by decide +kernel
theorem dX13_units_71 : decode cX13_units 71 = .ok (.bipush 24, 2) := by decide +kernel
theorem dX13_units_73 : decode cX13_units 73 = .ok (.istore_n 3, 1) := by decide +kernel
theorem dX13_units_74 : decode cX13_units 74 = .ok (.iload_n 3, 1) := by decide +kernel
theorem dX13_units_75 : decode cX13_units 75 = .ok (.ifCond .lt 45, 3) := by decide +kernel
theorem dX13_units_78 : decode cX13_units 78 = .ok (.iload_n 1, 1) := by decide +kernel
theorem dX13_units_79 : decode cX13_units 79 = .ok (.iload_n 3, 1) := by decide +kernel
theorem dX13_units_80 : decode cX13_units 80 = .ok (.iushr, 1) := by decide +kernel
theorem dX13_units_81 : decode cX13_units 81 = .ok (.sipush 255, 3) := by decide +kernel
theorem dX13_units_84 : decode cX13_units 84 = .ok (.iand, 1) := by decide +kernel
theorem dX13_units_85 : decode cX13_units 85 = .ok (.ifCond .eq 29, 3) := by decide +kernel
theorem dX13_units_88 : decode cX13_units 88 = .ok (.aload_n 0, 1) := by decide +kernel
theorem dX13_units_89 : decode cX13_units 89 = .ok (.getfield 44, 3) := by decide +kernel
theorem dX13_units_92 : decode cX13_units 92 = .ok (.aload_n 0, 1) := by decide +kernel
theorem dX13_units_93 : decode cX13_units 93 = .ok (.getfield 377, 3) := by decide +kernel
theorem dX13_units_96 : decode cX13_units 96 = .ok (.iload_n 1, 1) := by decide +kernel
theorem dX13_units_97 : decode cX13_units 97 = .ok (.iload_n 3, 1) := by decide +kernel
theorem dX13_units_98 : decode cX13_units 98 = .ok (.iushr, 1) := by decide +kernel
theorem dX13_units_99 : decode cX13_units 99 = .ok (.sipush 255, 3) := by decide +kernel
theorem dX13_units_102 : decode cX13_units 102 = .ok (.iand, 1) := by decide +kernel
theorem dX13_units_103 : decode cX13_units 103 = .ok (.iastore, 1) := by decide +kernel
theorem dX13_units_104 : decode cX13_units 104 = .ok (.aload_n 0, 1) := by decide +kernel
theorem dX13_units_105 : decode cX13_units 105 = .ok (.dup, 1) := by decide +kernel
theorem dX13_units_106 : decode cX13_units 106 = .ok (.getfield 377, 3) := by decide +kernel
theorem dX13_units_109 : decode cX13_units 109 = .ok (.iconst 1, 1) := by decide +kernel
theorem dX13_units_110 : decode cX13_units 110 = .ok (.iadd, 1) := by decide +kernel
theorem dX13_units_111 : decode cX13_units 111 = .ok (.putfield 377, 3) := by decide +kernel
theorem dX13_units_114 : decode cX13_units 114 = .ok (.iinc 3 (-8), 3) := by decide +kernel
theorem dX13_units_117 : decode cX13_units 117 = .ok (.goto (-43), 3) := by decide +kernel
theorem dX13_units_120 : decode cX13_units 120 = .ok (.iconst 1, 1) := by decide +kernel
theorem dX13_units_121 : decode cX13_units 121 = .ok (.ireturn, 1) := by decide +kernel

/-- the byte of x that lies y bits up -/
def sv_by (x y : Int32) : Int32 := (x.toUInt32 >>> (y.toUInt32 &&& Int32.toUInt32 31)).toInt32 &&& 255
def sv_sf (p : Nat) : Int32 := match p with | 0 => 24 | 1 => 16 | 2 => 8 | 3 => 0 | _ => -8
/-- how many of the first p bytes aren't 0 -/
def sv_ct (x : Int32) : Nat → Nat | 0 => 0 | p + 1 => sv_ct x p + (if sv_by x (sv_sf p) = 0 then 0 else 1)
/-- the row behind the first p bytes -/
def sv_fx (f : Nat → Int32) (n : Nat) (x : Int32) : Nat → (Nat → Int32) | 0 => f | p + 1 => if sv_by x (sv_sf p) = 0 then sv_fx f n x p else upd (sv_fx f n x p) (n + sv_ct x p) (sv_by x (sv_sf p))
def sv_okc (u : Int32) : Prop := u = 10 ∨ (32 ≤ u ∧ u ≤ 126)
def sv_oks (x : Int32) (k : Nat) : Prop := ∀ p, p < k → sv_by x (sv_sf p) = 0 ∨ sv_okc (sv_by x (sv_sf p))
theorem sv_sf_nn {p : Nat} (h : p < 4) : ¬ sv_sf p < 0 := by
  rcases (show p = 0 ∨ p = 1 ∨ p = 2 ∨ p = 3 by omega) with rfl | rfl | rfl | rfl <;> decide
theorem sv_sf_4 : sv_sf 4 < 0 := by decide
theorem sv_sf_s {p : Nat} (h : p < 4) : sv_sf p + Int32.ofInt (-8) = sv_sf (p + 1) := by
  rcases (show p = 0 ∨ p = 1 ∨ p = 2 ∨ p = 3 by omega) with rfl | rfl | rfl | rfl <;> decide
theorem sv_ct_0 {x : Int32} {p : Nat} (h : sv_by x (sv_sf p) = 0) : sv_ct x (p + 1) = sv_ct x p := by simp [sv_ct, h]
theorem sv_ct_1 {x : Int32} {p : Nat} (h : ¬ sv_by x (sv_sf p) = 0) : sv_ct x (p + 1) = sv_ct x p + 1 := by simp [sv_ct, h]
theorem sv_fx_0 {f : Nat → Int32} {n : Nat} {x : Int32} {p : Nat} (h : sv_by x (sv_sf p) = 0) : sv_fx f n x (p + 1) = sv_fx f n x p := by simp [sv_fx, h]
theorem sv_fx_1 {f : Nat → Int32} {n : Nat} {x : Int32} {p : Nat} (h : ¬ sv_by x (sv_sf p) = 0) : sv_fx f n x (p + 1) = upd (sv_fx f n x p) (n + sv_ct x p) (sv_by x (sv_sf p)) := by simp [sv_fx, h]
theorem sv_ct_le (x : Int32) : ∀ p, sv_ct x p ≤ p
  | 0 => Nat.le_refl 0
  | p + 1 => by
    have := sv_ct_le x p
    by_cases h : sv_by x (sv_sf p) = 0
    · rw [sv_ct_0 h]; omega
    · rw [sv_ct_1 h]; omega
theorem sv_ct_mono (x : Int32) {p q : Nat} (h : p ≤ q) : sv_ct x p ≤ sv_ct x q := by
  induction h with
  | refl => exact Nat.le_refl _
  | step h ih =>
    rename_i k
    by_cases e : sv_by x (sv_sf k) = 0
    · rw [sv_ct_0 e]; exact ih
    · rw [sv_ct_1 e]; omega
theorem sv_oks_s {x : Int32} {k : Nat} (h : sv_oks x k) (e : sv_by x (sv_sf k) = 0 ∨ sv_okc (sv_by x (sv_sf k))) : sv_oks x (k + 1) := fun p hp => by
  rcases Nat.lt_or_ge p k with q | q
  · exact h p q
  · obtain rfl : p = k := by omega
    exact e
set_option maxHeartbeats 4000000 in
set_option maxRecDepth 100000 in
theorem l_units1 (G : sv_G) (Qr : Option Value → sv_h → Nat → Prop) (h : sv_h) (z b : Nat) (x : Int32) (ly tp rd ck wv ru la fo fl lo : Nat) (rc lr lf : Int32) (A n : Nat) (hb : h b = some (.inr (10, [.ref ly, .ref tp, .ref rd, .ref ck, .ref wv, .ref ru, .int rc, .int lr, .int lf, .ref la, .ref fo, .ref fl, .ref lo]))) (ht : h tp = some (.inr (7, [.ref A, .int (nI n)]))) (hf : ∀ p, p < 4 → ¬ sv_by x (sv_sf p) = 0 → ¬ sv_okc (sv_by x (sv_sf p)) → Qr (some (.int 0)) h z) (hk : sv_oks x 4 → V G mX12_units (sv_MQ G mX12_units Qr) 46 [(3, .int (sv_sf 4)), (2, .int (nI (sv_ct x 4))), (0, .ref b), (1, .int x)] [] h z 0 0) : ∀ (c p : Nat), p + c = 4 → sv_oks x p → V G mX12_units (sv_MQ G mX12_units Qr) 5 [(3, .int (sv_sf p)), (2, .int (nI (sv_ct x p))), (0, .ref b), (1, .int x)] [] h z 0 0 := by
  intro c
  induction c with
  | zero =>
    intro p hpc hok
    refine v_iload_n dX12_units_5 rfl 0 rfl ?_
    refine v_if_lt (tgt := 46) dX12_units_6 (by decide) (fun c_6 => ?_) (fun c_6 => ?_)
    · obtain rfl : p = 4 := by omega
      exact hk hok
    · exact absurd (by rw [show p = 4 by omega]; exact sv_sf_4) c_6
  | succ c ih =>
    intro p hpc hok
    refine v_iload_n dX12_units_5 rfl 0 rfl ?_
    refine v_if_lt (tgt := 46) dX12_units_6 (by decide) (fun c_6 => ?_) (fun c_6 => ?_)
    · exact absurd c_6 (sv_sf_nn (by omega))
    · refine v_iload_n dX12_units_9 rfl 3 rfl ?_
      refine v_iload_n dX12_units_10 rfl 0 rfl ?_
      refine v_iushr dX12_units_11 rfl ?_
      refine v_sipush (v := 255) dX12_units_12 (by decide) ?_
      refine v_iand dX12_units_15 ?_
      refine v_topi (fun u e_u => ?_)
      refine v_istore (L' := [(4, _), (3, _), (2, _), (0, _), (1, _)]) dX12_units_16 (Nat.le_of_ble_eq_true rfl) rfl ?_
      have e_u : u = sv_by x (sv_sf p) := e_u
      refine v_iload dX12_units_18 0 rfl ?_
      refine v_if_eq (tgt := 40) dX12_units_20 (by decide) (fun c_20 => ?_) (fun c_20 => ?_)
      · refine v_iinc (j := 1) (L' := [(3, _), (4, _), (2, _), (0, _), (1, _)]) (v := sv_sf (p + 1)) dX12_units_40 rfl (sv_sf_s (by omega)) (Nat.le_of_ble_eq_true rfl) rfl ?_
        refine v_goto (tgt := 5) dX12_units_43 (by decide) ?_
        refine v_sub (L' := [(3, _), (2, _), (0, _), (1, _)]) [0, 2, 3, 4] rfl ?_
        first
        | (have e9 := ih (p + 1) (by omega) (sv_oks_s hok (Or.inl (e_u ▸ c_20))); rw [sv_ct_0 (e_u ▸ c_20)] at e9; exact e9)
        | (have e9 := ih (p + 1) (by omega) (sv_oks_s hok (Or.inr (e_u ▸ (show sv_okc u from sv_ifn (c := u = 10 ∨ 32 ≤ u ∧ u ≤ 126) c_32)))); rw [sv_ct_1 (e_u ▸ c_20)] at e9; exact e9)
      · refine v_aload_n dX12_units_23 rfl 3 rfl ?_
        refine v_getf 1 (ci := 10) (C := RX12) (T := TX12) (N := 13) rfl iwX12_units_X12 (Nat.le_of_ble_eq_true rfl) (by decide +kernel) dX12_units_24 (by repeat (first | (with_reducible refine sv_us.trans ?_; exact rfl) | with_reducible assumption | with_reducible refine (sv_un (by omega)).trans ?_)) rfl ?_
        refine v_iload dX12_units_27 0 rfl ?_
        refine v_callV (M' := mX9_takes) (n := 1) (As := [_]) (ci := 7) (r := (RX9, TX9, 2)) gX12_units_X9_takes rfl (by decide +kernel) ⟨(Nat.le_of_ble_eq_true rfl), (Nat.le_of_ble_eq_true rfl)⟩ rfl rfl dX12_units_29 rfl ⟨(Nat.le_of_ble_eq_true rfl), (Nat.le_of_ble_eq_true rfl)⟩ (Nat.le_of_ble_eq_true rfl) (by repeat (first | (with_reducible refine sv_us.trans ?_; exact rfl) | with_reducible assumption | with_reducible refine (sv_un (by omega)).trans ?_)) rfl (c_Tape_takes G _ _ _ u) (fun v h1 z1 hq => ?_)
        obtain ⟨rfl, rfl, rfl⟩ := hq
        refine v_if_ne (tgt := 37) dX12_units_32 (by decide) (fun c_32 => ?_) (fun c_32 => ?_)
        · refine v_iinc (j := 2) (L' := [(2, _), (4, _), (3, _), (0, _), (1, _)]) (v := nI (sv_ct x p + 1)) dX12_units_37 rfl (nI_1 _) (Nat.le_of_ble_eq_true rfl) rfl ?_
          refine v_iinc (j := 2) (L' := [(3, _), (2, _), (4, _), (0, _), (1, _)]) (v := sv_sf (p + 1)) dX12_units_40 rfl (sv_sf_s (by omega)) (Nat.le_of_ble_eq_true rfl) rfl ?_
          refine v_goto (tgt := 5) dX12_units_43 (by decide) ?_
          refine v_sub (L' := [(3, _), (2, _), (0, _), (1, _)]) [0, 1, 3, 4] rfl ?_
          first
          | (have e9 := ih (p + 1) (by omega) (sv_oks_s hok (Or.inl (e_u ▸ c_20))); rw [sv_ct_0 (e_u ▸ c_20)] at e9; exact e9)
          | (have e9 := ih (p + 1) (by omega) (sv_oks_s hok (Or.inr (e_u ▸ (show sv_okc u from sv_ifn (c := u = 10 ∨ 32 ≤ u ∧ u ≤ 126) c_32)))); rw [sv_ct_1 (e_u ▸ c_20)] at e9; exact e9)
        · refine v_iconst (v := 0) dX12_units_35 (by decide) ?_
          exact v_iret rfl dX12_units_36 (Nat.le_of_ble_eq_true rfl) (Nat.le_of_ble_eq_true rfl) rfl (hf p (by omega) (e_u ▸ c_20) (e_u ▸ (show ¬ sv_okc u from sv_ift (c := u = 10 ∨ 32 ≤ u ∧ u ≤ 126) c_32)))

set_option maxHeartbeats 4000000 in
set_option maxRecDepth 100000 in
theorem l_units2 (G : sv_G) (Qr : Option Value → sv_h → Nat → Prop) (h : sv_h) (z b : Nat) (x w : Int32) (ly tp rd ck wv ru la fo fl lo : Nat) (rc lr lf : Int32) (A n : Nat) (f : Nat → Int32) (hb : h b = some (.inr (10, [.ref ly, .ref tp, .ref rd, .ref ck, .ref wv, .ref ru, .int rc, .int lr, .int lf, .ref la, .ref fo, .ref fl, .ref lo]))) (hbt : b ≠ tp) (hbA : b ≠ A) (hne : tp ≠ A) (hn : n + sv_ct x 4 ≤ 600) (hk : ∀ hi : sv_h, hi tp = some (.inr (7, [.ref A, .int (nI (n + sv_ct x 4))])) → hi A = some (.inl (G.2.2.1 0, 600, .inl (sv_fx f n x 4))) → (∀ a, a ≠ tp → a ≠ A → hi a = h a) → Qr (some (.int 1)) hi z) : ∀ (c p : Nat) (hi : sv_h), p + c = 4 → hi tp = some (.inr (7, [.ref A, .int (nI (n + sv_ct x p))])) → hi A = some (.inl (G.2.2.1 0, 600, .inl (sv_fx f n x p))) → (∀ a, a ≠ tp → a ≠ A → hi a = h a) → V G mX12_units (sv_MQ G mX12_units Qr) 62 [(3, .int (sv_sf p)), (2, .int w), (0, .ref b), (1, .int x)] [] hi z 0 0 := by
  intro c
  induction c with
  | zero =>
    intro p hi hpc ht hA hfr
    refine v_iload_n dX12_units_62 rfl 0 rfl ?_
    refine v_if_lt (tgt := 95) dX12_units_63 (by decide) (fun c_63 => ?_) (fun c_63 => ?_)
    · refine v_iconst (v := 1) dX12_units_95 (by decide) ?_
      exact v_iret rfl dX12_units_96 (Nat.le_of_ble_eq_true rfl) (Nat.le_of_ble_eq_true rfl) rfl (hk hi (by rw [show 4 = p by omega]; exact ht) (by rw [show 4 = p by omega]; exact hA) hfr)
    · exact absurd (by rw [show p = 4 by omega]; exact sv_sf_4) c_63
  | succ c ih =>
    intro p hi hpc ht hA hfr
    refine v_iload_n dX12_units_62 rfl 0 rfl ?_
    refine v_if_lt (tgt := 95) dX12_units_63 (by decide) (fun c_63 => ?_) (fun c_63 => ?_)
    · exact absurd c_63 (sv_sf_nn (by omega))
    · refine v_iload_n dX12_units_66 rfl 3 rfl ?_
      refine v_iload_n dX12_units_67 rfl 0 rfl ?_
      refine v_iushr dX12_units_68 rfl ?_
      refine v_sipush (v := 255) dX12_units_69 (by decide) ?_
      refine v_iand dX12_units_72 ?_
      refine v_topi (fun u e_u => ?_)
      refine v_istore (L' := [(4, _), (3, _), (2, _), (0, _), (1, _)]) dX12_units_73 (Nat.le_of_ble_eq_true rfl) rfl ?_
      have e_u : u = sv_by x (sv_sf p) := e_u
      refine v_iload dX12_units_75 0 rfl ?_
      refine v_if_eq (tgt := 89) dX12_units_77 (by decide) (fun c_77 => ?_) (fun c_77 => ?_)
      · refine v_iinc (j := 1) (L' := [(3, _), (4, _), (2, _), (0, _), (1, _)]) (v := sv_sf (p + 1)) dX12_units_89 rfl (sv_sf_s (by omega)) (Nat.le_of_ble_eq_true rfl) rfl ?_
        refine v_goto (tgt := 62) dX12_units_92 (by decide) ?_
        refine v_sub (L' := [(3, _), (2, _), (0, _), (1, _)]) [0, 2, 3, 4] rfl ?_
        first
        | exact ih (p + 1) _ (by omega) (by rw [sv_ct_0 (e_u ▸ c_77)]; exact ht) (by rw [sv_fx_0 (e_u ▸ c_77)]; exact hA) hfr
        | exact ih (p + 1) _ (by omega) (by rw [sv_ct_1 (e_u ▸ c_77)]; exact sv_us) (by rw [sv_fx_1 (e_u ▸ c_77), ← e_u]; exact (sv_un (fun q => hne q.symm)).trans sv_us) (fun a q1 q2 => (sv_un q1).trans ((sv_un q2).trans (hfr a q1 q2)))
      · refine v_aload_n dX12_units_80 rfl 3 rfl ?_
        refine v_getf 1 (ci := 10) (C := RX12) (T := TX12) (N := 13) rfl iwX12_units_X12 (Nat.le_of_ble_eq_true rfl) (by decide +kernel) dX12_units_81 (by first | with_reducible assumption | exact (hfr b hbt hbA).trans hb) rfl ?_
        refine v_iload dX12_units_84 0 rfl ?_
        refine v_callV (M' := mX9_put) (n := 1) (As := [_]) (ci := 7) (r := (RX9, TX9, 2)) gX12_units_X9_put rfl (by decide +kernel) ⟨(Nat.le_of_ble_eq_true rfl), (Nat.le_of_ble_eq_true rfl)⟩ rfl rfl dX12_units_86 rfl ⟨(Nat.le_of_ble_eq_true rfl), (Nat.le_of_ble_eq_true rfl)⟩ (Nat.le_of_ble_eq_true rfl) (by first | with_reducible assumption | exact (hfr b hbt hbA).trans hb) rfl (c_Tape_put G _ _ _ A (n + sv_ct x p) _ u (by have q1 := sv_ct_1 (x := x) (p := p) (e_u ▸ c_77); have q2 := sv_ct_mono x (show p + 1 ≤ 4 by omega); omega) ht hA hne) (fun v h1 z1 hq => ?_)
        obtain ⟨rfl, rfl, rfl⟩ := hq
        refine v_iinc (j := 1) (L' := [(3, _), (4, _), (2, _), (0, _), (1, _)]) (v := sv_sf (p + 1)) dX12_units_89 rfl (sv_sf_s (by omega)) (Nat.le_of_ble_eq_true rfl) rfl ?_
        refine v_goto (tgt := 62) dX12_units_92 (by decide) ?_
        refine v_sub (L' := [(3, _), (2, _), (0, _), (1, _)]) [0, 2, 3, 4] rfl ?_
        first
        | exact ih (p + 1) _ (by omega) (by rw [sv_ct_0 (e_u ▸ c_77)]; exact ht) (by rw [sv_fx_0 (e_u ▸ c_77)]; exact hA) hfr
        | exact ih (p + 1) _ (by omega) (by rw [sv_ct_1 (e_u ▸ c_77)]; exact sv_us) (by rw [sv_fx_1 (e_u ▸ c_77), ← e_u]; exact (sv_un (fun q => hne q.symm)).trans sv_us) (fun a q1 q2 => (sv_un q1).trans ((sv_un q2).trans (hfr a q1 q2)))

theorem sv_le6 {n c : Nat} (h : n + c ≤ 600) : nI c ≤ 600 - nI n := by
  rw [show (600 : Int32) - nI n = nI (600 - n) from pk_sub (a := 600) (by omega)]
  exact nI_le (by omega) (by omega)
theorem sv_le7 {n c : Nat} (hn : n ≤ 600) (h : nI c ≤ 600 - nI n) (hc : c ≤ 4 := by exact sv_ct_le _ 4) : n + c ≤ 600 := by
  rw [show (600 : Int32) - nI n = nI (600 - n) from pk_sub (a := 600) hn] at h
  have := (nI_leI (by omega) (by omega)).mp h
  omega
set_option maxHeartbeats 4000000 in
set_option maxRecDepth 100000 in
theorem c_units (G : sv_G) (h : sv_h) (z b : Nat) (x : Int32) (ly tp rd ck wv ru la fo fl lo : Nat) (rc lr lf : Int32) (A n : Nat) (f : Nat → Int32) (hn : n ≤ 600) (hb : h b = some (.inr (10, [.ref ly, .ref tp, .ref rd, .ref ck, .ref wv, .ref ru, .int rc, .int lr, .int lf, .ref la, .ref fo, .ref fl, .ref lo]))) (ht : h tp = some (.inr (7, [.ref A, .int (nI n)]))) (hA : h A = some (.inl (G.2.2.1 0, 600, .inl f))) (hbt : b ≠ tp) (hbA : b ≠ A) (hne : tp ≠ A) : CT G mX12_units [.ref b, .int x] h z (fun v h1 z1 => z1 = z ∧ ((sv_oks x 4 ∧ n + sv_ct x 4 ≤ 600 ∧ v = some (.int 1) ∧ h1 tp = some (.inr (7, [.ref A, .int (nI (n + sv_ct x 4))])) ∧ h1 A = some (.inl (G.2.2.1 0, 600, .inl (sv_fx f n x 4))) ∧ (∀ a, a ≠ tp → a ≠ A → h1 a = h a)) ∨ (¬ (sv_oks x 4 ∧ n + sv_ct x 4 ≤ 600) ∧ v = some (.int 0) ∧ h1 = h))) := by
  refine CT.of (by decide +kernel) rfl rfl (Nat.le_of_ble_eq_true rfl) ?_
  refine v_iconst (v := 0) dX12_units_0 (by decide) ?_
  refine v_istore_n (L' := [(2, _), (0, _), (1, _)]) dX12_units_1 rfl (Nat.le_of_ble_eq_true rfl) rfl ?_
  refine v_bipush (v := 24) dX12_units_2 (by decide) ?_
  refine v_istore_n (L' := [(3, _), (2, _), (0, _), (1, _)]) dX12_units_4 rfl (Nat.le_of_ble_eq_true rfl) rfl ?_
  refine v_sub (L' := [(3, _), (2, _), (0, _), (1, _)]) [0, 1, 2, 3] rfl ?_
  refine l_units1 G _ h z b x _ _ _ _ _ _ _ _ _ _ _ _ _ A n hb ht (fun p hp q1 q2 => ⟨rfl, Or.inr ⟨fun q => (q.1 p hp).elim q1 q2, rfl, rfl⟩⟩) (fun hok => ?_) 4 0 rfl (fun p hp => absurd hp (Nat.not_lt_zero p))
  refine v_iload_n dX12_units_46 rfl 1 rfl ?_
  refine v_aload_n dX12_units_47 rfl 2 rfl ?_
  refine v_getf 1 (ci := 10) (C := RX12) (T := TX12) (N := 13) rfl iwX12_units_X12 (Nat.le_of_ble_eq_true rfl) (by decide +kernel) dX12_units_48 (by repeat (first | (with_reducible refine sv_us.trans ?_; exact rfl) | with_reducible assumption | with_reducible refine (sv_un (by omega)).trans ?_)) rfl ?_
  refine v_callV (M' := mX9_room) (n := 0) (As := []) (ci := 7) (r := (RX9, TX9, 2)) gX12_units_X9_room rfl (by decide +kernel) ⟨(Nat.le_of_ble_eq_true rfl), (Nat.le_of_ble_eq_true rfl)⟩ rfl rfl dX12_units_51 rfl ⟨(Nat.le_of_ble_eq_true rfl), (Nat.le_of_ble_eq_true rfl)⟩ (Nat.le_of_ble_eq_true rfl) (by repeat (first | (with_reducible refine sv_us.trans ?_; exact rfl) | with_reducible assumption | with_reducible refine (sv_un (by omega)).trans ?_)) rfl (c_Tape_room G _ _ _ _ _ ht) (fun v h1 z1 hq => ?_)
  obtain ⟨rfl, rfl, rfl⟩ := hq
  refine v_icmp_le (tgt := 59) dX12_units_54 (by decide) (fun c_54 => ?_) (fun c_54 => ?_)
  · refine v_bipush (v := 24) dX12_units_59 (by decide) ?_
    refine v_istore_n (L' := [(3, _), (2, _), (0, _), (1, _)]) dX12_units_61 rfl (Nat.le_of_ble_eq_true rfl) rfl ?_
    refine v_sub (L' := [(3, _), (2, _), (0, _), (1, _)]) [0, 1, 2, 3] rfl ?_
    exact l_units2 G _ _ _ b x _ _ _ _ _ _ _ _ _ _ _ _ _ _ A n f hb hbt hbA hne (sv_le7 hn c_54) (fun hi e1 e2 e3 => ⟨rfl, Or.inl ⟨hok, sv_le7 hn c_54, rfl, e1, e2, e3⟩⟩) 4 0 _ rfl ht hA (fun a _ _ => rfl)
  · refine v_iconst (v := 0) dX12_units_57 (by decide) ?_
    exact v_iret rfl dX12_units_58 (Nat.le_of_ble_eq_true rfl) (Nat.le_of_ble_eq_true rfl) rfl ⟨rfl, Or.inr ⟨fun q => absurd (sv_le6 q.2) c_54, rfl, rfl⟩⟩

