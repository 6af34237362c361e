theorem iwX13_isBefore_X13 : ∀ w ∈ wsX130, w ∈ wsX13_isBefore := by decide +kernel
theorem dX13_isBefore_0 : decode cX13_isBefore 0 = .ok (.iconst 0, 1) := by decide +kernel
theorem dX13_isBefore_1 : decode cX13_isBefore 1 = .ok (.istore_n 3, 1) := by decide +kernel
theorem dX13_isBefore_2 : decode cX13_isBefore 2 = .ok (.iload_n 3, 1) := by decide +kernel
theorem dX13_isBefore_3 : decode cX13_isBefore 3 = .ok (.bipush 13, 2) := by decide +kernel
theorem dX13_isBefore_5 : decode cX13_isBefore 5 = .ok (.if_icmp .ge 103, 3) := by decide +kernel
theorem dX13_isBefore_8 : decode cX13_isBefore 8 = .ok (.aload_n 0, 1) := by decide +kernel
theorem dX13_isBefore_9 : decode cX13_isBefore 9 = .ok (.getfield 303, 3) := by decide +kernel
theorem dX13_isBefore_12 : decode cX13_isBefore 12 = .ok (.ifCond .eq 7, 3) := by decide +kernel
theorem dX13_isBefore_15 : decode cX13_isBefore 15 = .ok (.iload_n 3, 1) := by decide +kernel
theorem dX13_isBefore_16 : decode cX13_isBefore 16 = .ok (.goto 15, 3) := by decide +kernel
theorem dX13_isBefore_19 : decode cX13_isBefore 19 = .ok (.iload_n 3, 1) := by decide +kernel
theorem dX13_isBefore_20 : decode cX13_isBefore 20 = .ok (.ifCond .ne 8, 3) := by decide +kernel
theorem dX13_isBefore_23 : decode cX13_isBefore 23 = .ok (.bipush 7, 2) := by decide +kernel
theorem dX13_isBefore_25 : decode cX13_isBefore 25 = .ok (.goto 6, 3) := by decide +kernel
theorem dX13_isBefore_28 : decode cX13_isBefore 28 = .ok (.iload_n 3, 1) := by decide +kernel
theorem dX13_isBefore_29 : decode cX13_isBefore 29 = .ok (.iconst 1, 1) := by decide +kernel
theorem dX13_isBefore_30 : decode cX13_isBefore 30 = .ok (.isub, 1) := by decide +kernel
theorem dX13_isBefore_31 : decode cX13_isBefore 31 = .ok (.istore 4, 2) := by decide +kernel
theorem dX13_isBefore_33 : decode cX13_isBefore 33 = .ok (.iload 4, 2) := by decide +kernel
theorem dX13_isBefore_35 : decode cX13_isBefore 35 = .ok (.bipush 12, 2) := by decide +kernel
theorem dX13_isBefore_37 : decode cX13_isBefore 37 = .ok (.if_icmp .ge 65, 3) := by decide +kernel
theorem dX13_isBefore_40 : decode cX13_isBefore 40 = .ok (.aload_n 0, 1) := by decide +kernel
theorem dX13_isBefore_41 : decode cX13_isBefore 41 = .ok (.getfield 72, 3) := by decide +kernel
theorem dX13_isBefore_44 : decode cX13_isBefore 44 = .ok (.bipush 12, 2) := by decide +kernel
theorem dX13_isBefore_46 : decode cX13_isBefore 46 = .ok (.iload_n 1, 1) := by decide +kernel
theorem dX13_isBefore_47 : decode cX13_isBefore 47 = .ok (.imul, 1) := by decide +kernel
theorem dX13_isBefore_48 : decode cX13_isBefore 48 = .ok (.iload 4, 2) := by decide +kernel
theorem dX13_isBefore_50 : decode cX13_isBefore 50 = .ok (.iadd, 1) := by decide +kernel
theorem dX13_isBefore_51 : decode cX13_isBefore 51 = .ok (.laload, 1) := by decide +kernel
theorem dX13_isBefore_52 : decode cX13_isBefore 52 = .ok (.aload_n 0, 1) := by decide +kernel
theorem dX13_isBefore_53 : decode cX13_isBefore 53 = .ok (.getfield 72, 3) := by decide +kernel
theorem dX13_isBefore_56 : decode cX13_isBefore 56 = .ok (.bipush 12, 2) := by decide +kernel
theorem dX13_isBefore_58 : decode cX13_isBefore 58 = .ok (.iload_n 2, 1) := by decide +kernel
theorem dX13_isBefore_59 : decode cX13_isBefore 59 = .ok (.imul, 1) := by decide +kernel
theorem dX13_isBefore_60 : decode cX13_isBefore 60 = .ok (.iload 4, 2) := by decide +kernel
theorem dX13_isBefore_62 : decode cX13_isBefore 62 = .ok (.iadd, 1) := by decide +kernel
theorem dX13_isBefore_63 : decode cX13_isBefore 63 = .ok (.laload, 1) := by decide +kernel
theorem dX13_isBefore_64 : decode cX13_isBefore 64 = .ok (.lcmp, 1) := by decide +kernel
theorem dX13_isBefore_65 : decode cX13_isBefore 65 = .ok (.ifCond .eq 37, 3) := by decide +kernel
theorem dX13_isBefore_68 : decode cX13_isBefore 68 = .ok (.aload_n 0, 1) := by decide +kernel
theorem dX13_isBefore_69 : decode cX13_isBefore 69 = .ok (.getfield 72, 3) := by decide +kernel
theorem dX13_isBefore_72 : decode cX13_isBefore 72 = .ok (.bipush 12, 2) := by decide +kernel
theorem dX13_isBefore_74 : decode cX13_isBefore 74 = .ok (.iload_n 1, 1) := by decide +kernel
theorem dX13_isBefore_75 : decode cX13_isBefore 75 = .ok (.imul, 1) := by decide +kernel
theorem dX13_isBefore_76 : decode cX13_isBefore 76 = .ok (.iload 4, 2) := by decide +kernel
theorem dX13_isBefore_78 : decode cX13_isBefore 78 = .ok (.iadd, 1) := by decide +kernel
theorem dX13_isBefore_79 : decode cX13_isBefore 79 = .ok (.laload, 1) := by decide +kernel
theorem dX13_isBefore_80 : decode cX13_isBefore 80 = .ok (.aload_n 0, 1) := by decide +kernel
theorem dX13_isBefore_81 : decode cX13_isBefore 81 = .ok (.getfield 72, 3) := by decide +kernel
theorem dX13_isBefore_84 : decode cX13_isBefore 84 = .ok (.bipush 12, 2) := by decide +kernel
theorem dX13_isBefore_86 : decode cX13_isBefore 86 = .ok (.iload_n 2, 1) := by decide +kernel
theorem dX13_isBefore_87 : decode cX13_isBefore 87 = .ok (.imul, 1) := by decide +kernel
theorem dX13_isBefore_88 : decode cX13_isBefore 88 = .ok (.iload 4, 2) := by decide +kernel
theorem dX13_isBefore_90 : decode cX13_isBefore 90 = .ok (.iadd, 1) := by decide +kernel
theorem dX13_isBefore_91 : decode cX13_isBefore 91 = .ok (.laload, 1) := by decide +kernel
theorem dX13_isBefore_92 : decode cX13_isBefore 92 = .ok (.lcmp, 1) := by decide +kernel
theorem dX13_isBefore_93 : decode cX13_isBefore 93 = .ok (.ifCond .ge 7, 3) := by decide +kernel
theorem dX13_isBefore_96 : decode cX13_isBefore 96 = .ok (.iconst 1, 1) := by decide +kernel
theorem dX13_isBefore_97 : decode cX13_isBefore 97 = .ok (.goto 4, 3) := by decide +kernel
theorem dX13_isBefore_100 : decode cX13_isBefore 100 = .ok (.iconst 0, 1) := by decide +kernel
theorem dX13_isBefore_101 : decode cX13_isBefore 101 = .ok (.ireturn, 1) := by decide +kernel
theorem dX13_isBefore_102 : decode cX13_isBefore 102 = .ok (.iinc 3 1, 3) := by decide +kernel
theorem dX13_isBefore_105 : decode cX13_isBefore 105 = .ok (.goto (-103), 3) := by decide +kernel
theorem dX13_isBefore_108 : decode cX13_isBefore 108 = .ok (.iconst 0, 1) := by decide +kernel
theorem dX13_isBefore_109 : decode cX13_isBefore 109 = .ok (.ireturn, 1) := by decide +kernel

abbrev mX13_isBefore : sv_M := (cX13_isBefore, 5, yX13_isBefore, wsX13_isBefore, (some .boolean), { frames := 0, cells := 0, slots := 0, locals := 0 }, [])
/-- r stands before s -/
def lexB (r s : List Int64) : Nat → Nat → Bool
  | _, 0 => false
  | i, n + 1 => if r.getD i 0 = s.getD i 0 then lexB r s (i + 1) n else decide (r.getD i 0 < s.getD i 0)
theorem lexB_e (r s : List Int64) : ∀ n i, lexB r s i n = !decide (lexC s r i n ≤ 0) := by
  intro n
  induction n with
  | zero => intro i; rfl
  | succ n ih =>
    intro i
    show (if r.getD i 0 = s.getD i 0 then lexB r s (i + 1) n else decide (r.getD i 0 < s.getD i 0)) = !decide ((if s.getD i 0 = r.getD i 0 then lexC s r (i + 1) n else if s.getD i 0 < r.getD i 0 then -1 else 1) ≤ 0)
    by_cases e : r.getD i 0 = s.getD i 0
    · rw [if_pos e, if_pos e.symm]; exact ih (i + 1)
    · rw [if_neg e, if_neg (fun q => e q.symm)]
      by_cases e2 : s.getD i 0 < r.getD i 0
      · have e3 : ¬ r.getD i 0 < s.getD i 0 := fun q => by rw [Int64.lt_iff_toInt_lt] at q e2; omega
        rw [if_pos e2, decide_eq_false e3]; rfl
      · have e3 : r.getD i 0 < s.getD i 0 := (by
          rw [← Int64.toInt_inj] at e
          rw [Int64.lt_iff_toInt_lt] at e2 ⊢
          omega)
        rw [if_neg e2, decide_eq_true e3]; rfl
def bfR (bc : Bool) (r s : List Int64) : Bool := !leR bc s r
theorem bfR_c {r s : List Int64} (h : ¬ r.getD 7 0 = s.getD 7 0) : bfR true r s = decide (r.getD 7 0 < s.getD 7 0) := by
  unfold bfR leR cmpR
  rw [if_pos ⟨rfl, fun q => h q.symm⟩]
  by_cases e2 : s.getD 7 0 < r.getD 7 0
  · have e3 : ¬ r.getD 7 0 < s.getD 7 0 := fun q => by rw [Int64.lt_iff_toInt_lt] at q e2; omega
    rw [if_pos e2, decide_eq_false e3]; rfl
  · have e3 : r.getD 7 0 < s.getD 7 0 := (by
      rw [← Int64.toInt_inj] at h
      rw [Int64.lt_iff_toInt_lt] at e2 ⊢
      omega)
    rw [if_neg e2, decide_eq_true e3]; rfl
theorem bfR_l {bc : Bool} {r s : List Int64} (h : bc = true → r.getD 7 0 = s.getD 7 0) : bfR bc r s = lexB r s 0 12 := by
  unfold bfR leR cmpR
  rw [if_neg (fun q => q.2 (h q.1).symm), lexB_e]
set_option maxHeartbeats 4000000 in
set_option maxRecDepth 100000 in
theorem t_ib33 (G : sv_G) (Qr : Option Value → sv_h → Nat → Prop) (z b nc np pl : Nat) (hb : sv_h) (fs0 : List Value) (hq0 : mfq_ b nc np pl fs0) (hm9 : hb (b + 220) = some (.inr (11, fs0))) (fl : Int32) (h59 : fs0[59]? = some (.int fl)) (gt : Nat → Int64) (t41 : ab_J G hb (b + 241) 36048 gt) (i1 i2 : Nat) (q1 : i1 < 1500) (q2 : i2 < 1500) (r s : List Int64) (g1 : ∀ j, j < 12 → gt (12 * i1 + j) = r.getD j 0) (g2 : ∀ j, j < 12 → gt (12 * i2 + j) = s.getD j 0) (k at_ : Nat) (hat : at_ < 12) (hk : r.getD at_ 0 = s.getD at_ 0 → V G mX13_isBefore (sv_MQ G mX13_isBefore Qr) 102 [(3, .int (nI k)), (2, .int (nI i2)), (1, .int (nI i1)), (0, .ref (b + 220))] [] hb z 0 0) (hv : ¬ r.getD at_ 0 = s.getD at_ 0 → Qr (some (.int (if r.getD at_ 0 < s.getD at_ 0 then 1 else 0))) hb z) : V G mX13_isBefore (sv_MQ G mX13_isBefore Qr) 33 [(4, .int (nI at_)), (3, .int (nI k)), (2, .int (nI i2)), (1, .int (nI i1)), (0, .ref (b + 220))] [] hb z 0 0 := by
  have hlen : fs0.length = 71 := hq0.1
  have f_flat := h59
  have f_told := hq0.f_told
  refine v_iload dX13_isBefore_33 0 rfl ?_
  refine v_bipush (v := 12) dX13_isBefore_35 (by decide) ?_
  refine v_icmp_ge (tgt := 102) dX13_isBefore_37 (by decide) (fun c_37 => ?_) (fun c_37 => ?_)
  · exact absurd c_37 (nI_ge (b := 12) hat (by omega))
  · refine v_aload_n dX13_isBefore_40 rfl 4 rfl ?_
    refine v_getf 27 (ci := 11) (C := RX13) (T := TX13) (N := 71) rfl iwX13_isBefore_X13 (Nat.le_of_ble_eq_true rfl) (by decide +kernel) dX13_isBefore_41 (by first | with_reducible assumption) (by repeat (first | with_reducible assumption | (with_reducible refine (sv_ls (by first | omega | (simp only [List.length_set]; omega))).trans ?_; exact rfl) | with_reducible refine (List.getElem?_set_ne (by decide)).trans ?_)) ?_
    refine v_bipush (v := 12) dX13_isBefore_44 (by decide) ?_
    refine v_iload_n dX13_isBefore_46 rfl 3 rfl ?_
    refine v_imul dX13_isBefore_47 ?_
    refine v_iload dX13_isBefore_48 0 rfl ?_
    refine v_iadd dX13_isBefore_50 ?_
    rw [sv_12m, nI_add]
    refine v_laldS (v := r.getD at_ 0) dX13_isBefore_51 (by first | with_reducible assumption) (vp_in_nI (by omega) (by omega)) (by rw [nI_clamp (by omega)]; exact g1 at_ hat) ?_
    refine v_aload_n dX13_isBefore_52 rfl 4 rfl ?_
    refine v_getf 27 (ci := 11) (C := RX13) (T := TX13) (N := 71) rfl iwX13_isBefore_X13 (Nat.le_of_ble_eq_true rfl) (by decide +kernel) dX13_isBefore_53 (by first | with_reducible assumption) (by repeat (first | with_reducible assumption | (with_reducible refine (sv_ls (by first | omega | (simp only [List.length_set]; omega))).trans ?_; exact rfl) | with_reducible refine (List.getElem?_set_ne (by decide)).trans ?_)) ?_
    refine v_bipush (v := 12) dX13_isBefore_56 (by decide) ?_
    refine v_iload_n dX13_isBefore_58 rfl 2 rfl ?_
    refine v_imul dX13_isBefore_59 ?_
    refine v_iload dX13_isBefore_60 0 rfl ?_
    refine v_iadd dX13_isBefore_62 ?_
    rw [sv_12m, nI_add]
    refine v_laldS (v := s.getD at_ 0) dX13_isBefore_63 (by first | with_reducible assumption) (vp_in_nI (by omega) (by omega)) (by rw [nI_clamp (by omega)]; exact g2 at_ hat) ?_
    refine v_lcmp_eq (tgt := 102) dX13_isBefore_64 dX13_isBefore_65 (by decide) (fun c_65 => ?_) (fun c_65 => ?_)
    · refine v_sub (L' := [(3, _), (2, _), (1, _), (0, _)]) [1, 2, 3, 4] rfl ?_
      exact hk c_65
    · refine v_aload_n dX13_isBefore_68 rfl 4 rfl ?_
      refine v_getf 27 (ci := 11) (C := RX13) (T := TX13) (N := 71) rfl iwX13_isBefore_X13 (Nat.le_of_ble_eq_true rfl) (by decide +kernel) dX13_isBefore_69 (by first | with_reducible assumption) (by repeat (first | with_reducible assumption | (with_reducible refine (sv_ls (by first | omega | (simp only [List.length_set]; omega))).trans ?_; exact rfl) | with_reducible refine (List.getElem?_set_ne (by decide)).trans ?_)) ?_
      refine v_bipush (v := 12) dX13_isBefore_72 (by decide) ?_
      refine v_iload_n dX13_isBefore_74 rfl 3 rfl ?_
      refine v_imul dX13_isBefore_75 ?_
      refine v_iload dX13_isBefore_76 0 rfl ?_
      refine v_iadd dX13_isBefore_78 ?_
      rw [sv_12m, nI_add]
      refine v_laldS (v := r.getD at_ 0) dX13_isBefore_79 (by first | with_reducible assumption) (vp_in_nI (by omega) (by omega)) (by rw [nI_clamp (by omega)]; exact g1 at_ hat) ?_
      refine v_aload_n dX13_isBefore_80 rfl 4 rfl ?_
      refine v_getf 27 (ci := 11) (C := RX13) (T := TX13) (N := 71) rfl iwX13_isBefore_X13 (Nat.le_of_ble_eq_true rfl) (by decide +kernel) dX13_isBefore_81 (by first | with_reducible assumption) (by repeat (first | with_reducible assumption | (with_reducible refine (sv_ls (by first | omega | (simp only [List.length_set]; omega))).trans ?_; exact rfl) | with_reducible refine (List.getElem?_set_ne (by decide)).trans ?_)) ?_
      refine v_bipush (v := 12) dX13_isBefore_84 (by decide) ?_
      refine v_iload_n dX13_isBefore_86 rfl 2 rfl ?_
      refine v_imul dX13_isBefore_87 ?_
      refine v_iload dX13_isBefore_88 0 rfl ?_
      refine v_iadd dX13_isBefore_90 ?_
      rw [sv_12m, nI_add]
      refine v_laldS (v := s.getD at_ 0) dX13_isBefore_91 (by first | with_reducible assumption) (vp_in_nI (by omega) (by omega)) (by rw [nI_clamp (by omega)]; exact g2 at_ hat) ?_
      refine v_lcmp_ge (tgt := 100) dX13_isBefore_92 dX13_isBefore_93 (by decide) (fun c_93 => ?_) (fun c_93 => ?_)
      · refine v_iconst (v := 0) dX13_isBefore_100 (by decide) ?_
        exact v_iret rfl dX13_isBefore_101 (Nat.le_of_ble_eq_true rfl) (Nat.le_of_ble_eq_true rfl) rfl (by first | (have k9 := hv c_65; rw [if_pos (Int64.not_le.mp c_93)] at k9; exact k9) | (have k9 := hv c_65; rw [if_neg (Int64.not_lt.mpr c_93)] at k9; exact k9))
      · refine v_iconst (v := 1) dX13_isBefore_96 (by decide) ?_
        refine v_goto (tgt := 101) dX13_isBefore_97 (by decide) ?_
        exact v_iret rfl dX13_isBefore_101 (Nat.le_of_ble_eq_true rfl) (Nat.le_of_ble_eq_true rfl) rfl (by first | (have k9 := hv c_65; rw [if_pos (Int64.not_le.mp c_93)] at k9; exact k9) | (have k9 := hv c_65; rw [if_neg (Int64.not_lt.mpr c_93)] at k9; exact k9))

set_option maxHeartbeats 4000000 in
set_option maxRecDepth 100000 in
theorem l_ibF (G : sv_G) (Qr : Option Value → sv_h → Nat → Prop) (z b nc np pl : Nat) (hb : sv_h) (fs0 : List Value) (hq0 : mfq_ b nc np pl fs0) (hm9 : hb (b + 220) = some (.inr (11, fs0))) (fl : Int32) (h59 : fs0[59]? = some (.int fl)) (gt : Nat → Int64) (t41 : ab_J G hb (b + 241) 36048 gt) (i1 i2 : Nat) (q1 : i1 < 1500) (q2 : i2 < 1500) (r s : List Int64) (g1 : ∀ j, j < 12 → gt (12 * i1 + j) = r.getD j 0) (g2 : ∀ j, j < 12 → gt (12 * i2 + j) = s.getD j 0) (hfl : ¬ fl = 0) : ∀ (e k : Nat), k + e = 12 → Qr (some (.int (if lexB r s k e = true then 1 else 0))) hb z → V G mX13_isBefore (sv_MQ G mX13_isBefore Qr) 2 [(3, .int (nI k)), (2, .int (nI i2)), (1, .int (nI i1)), (0, .ref (b + 220))] [] hb z 0 0 := by
  intro e
  induction e with
  | zero =>
    intro k hke hv
    have hlen : fs0.length = 71 := hq0.1
    have f_flat := h59
    have f_told := hq0.f_told
    have e9 : k = 12 := by omega
    subst e9
    have h13 : V G mX13_isBefore (sv_MQ G mX13_isBefore Qr) 2 [(3, .int (nI 13)), (2, .int (nI i2)), (1, .int (nI i1)), (0, .ref (b + 220))] [] hb z 0 0 := (by
      refine v_iload_n dX13_isBefore_2 rfl 0 rfl ?_
      refine v_bipush (v := 13) dX13_isBefore_3 (by decide) ?_
      refine v_icmp_ge (tgt := 108) dX13_isBefore_5 (by decide) (fun c_5 => ?_) (fun c_5 => ?_)
      · refine v_iconst (v := 0) dX13_isBefore_108 (by decide) ?_
        exact v_iret rfl dX13_isBefore_109 (Nat.le_of_ble_eq_true rfl) (Nat.le_of_ble_eq_true rfl) rfl hv
      · exact absurd (by decide) c_5)
    refine v_iload_n dX13_isBefore_2 rfl 0 rfl ?_
    refine v_bipush (v := 13) dX13_isBefore_3 (by decide) ?_
    refine v_icmp_ge (tgt := 108) dX13_isBefore_5 (by decide) (fun c_5 => ?_) (fun c_5 => ?_)
    · exact absurd c_5 (by decide)
    · refine v_aload_n dX13_isBefore_8 rfl 3 rfl ?_
      refine v_getf 59 (ci := 11) (C := RX13) (T := TX13) (N := 71) rfl iwX13_isBefore_X13 (Nat.le_of_ble_eq_true rfl) (by decide +kernel) dX13_isBefore_9 (by first | with_reducible assumption) (by repeat (first | with_reducible assumption | (with_reducible refine (sv_ls (by first | omega | (simp only [List.length_set]; omega))).trans ?_; exact rfl) | with_reducible refine (List.getElem?_set_ne (by decide)).trans ?_)) ?_
      refine v_if_eq (tgt := 19) dX13_isBefore_12 (by decide) (fun c_12 => ?_) (fun c_12 => ?_)
      · exact absurd c_12 hfl
      · refine v_iload_n dX13_isBefore_15 rfl 0 rfl ?_
        refine v_goto (tgt := 31) dX13_isBefore_16 (by decide) ?_
        refine v_istore (L' := [(4, _), (3, _), (2, _), (1, _), (0, _)]) dX13_isBefore_31 (Nat.le_of_ble_eq_true rfl) rfl ?_
        refine v_iload dX13_isBefore_33 0 rfl ?_
        refine v_bipush (v := 12) dX13_isBefore_35 (by decide) ?_
        refine v_icmp_ge (tgt := 102) dX13_isBefore_37 (by decide) (fun c_37 => ?_) (fun c_37 => ?_)
        · refine v_iinc (j := 1) (L' := [(3, _), (4, _), (2, _), (1, _), (0, _)]) (v := nI 13) dX13_isBefore_102 rfl (nI_1 12) (Nat.le_of_ble_eq_true rfl) rfl ?_
          refine v_goto (tgt := 2) dX13_isBefore_105 (by decide) ?_
          refine v_sub (L' := [(3, _), (2, _), (1, _), (0, _)]) [0, 2, 3, 4] rfl ?_
          exact h13
        · exact absurd (by decide) c_37
  | succ e ih =>
    intro k hke hv
    have hlen : fs0.length = 71 := hq0.1
    have f_flat := h59
    have f_told := hq0.f_told
    have hk12 : k < 12 := by omega
    refine v_iload_n dX13_isBefore_2 rfl 0 rfl ?_
    refine v_bipush (v := 13) dX13_isBefore_3 (by decide) ?_
    refine v_icmp_ge (tgt := 108) dX13_isBefore_5 (by decide) (fun c_5 => ?_) (fun c_5 => ?_)
    · exact absurd c_5 (nI_ge (b := 13) (by omega) (by omega))
    · refine v_aload_n dX13_isBefore_8 rfl 3 rfl ?_
      refine v_getf 59 (ci := 11) (C := RX13) (T := TX13) (N := 71) rfl iwX13_isBefore_X13 (Nat.le_of_ble_eq_true rfl) (by decide +kernel) dX13_isBefore_9 (by first | with_reducible assumption) (by repeat (first | with_reducible assumption | (with_reducible refine (sv_ls (by first | omega | (simp only [List.length_set]; omega))).trans ?_; exact rfl) | with_reducible refine (List.getElem?_set_ne (by decide)).trans ?_)) ?_
      refine v_if_eq (tgt := 19) dX13_isBefore_12 (by decide) (fun c_12 => ?_) (fun c_12 => ?_)
      · exact absurd c_12 hfl
      · refine v_iload_n dX13_isBefore_15 rfl 0 rfl ?_
        refine v_goto (tgt := 31) dX13_isBefore_16 (by decide) ?_
        refine v_istore (L' := [(4, _), (3, _), (2, _), (1, _), (0, _)]) dX13_isBefore_31 (Nat.le_of_ble_eq_true rfl) rfl ?_
        refine v_sub (L' := [(4, _), (3, _), (2, _), (1, _), (0, _)]) [0, 1, 2, 3, 4] rfl ?_
        refine t_ib33 G Qr z b nc np pl hb fs0 hq0 hm9 fl h59 gt t41 i1 i2 q1 q2 r s g1 g2 k k hk12 (fun eq9 => ?_) (fun ne9 => ?_)
        · skip
          refine v_iinc (j := 0) (L' := [(3, _), (2, _), (1, _), (0, _)]) (v := nI (k + 1)) dX13_isBefore_102 rfl (nI_1 _) (Nat.le_of_ble_eq_true rfl) rfl ?_
          refine v_goto (tgt := 2) dX13_isBefore_105 (by decide) ?_
          refine v_sub (L' := [(3, _), (2, _), (1, _), (0, _)]) [0, 1, 2, 3] rfl ?_
          exact ih (k + 1) (by omega) (by rw [show lexB r s k (e + 1) = lexB r s (k + 1) e from if_pos eq9] at hv; exact hv)
        · rw [show lexB r s k (e + 1) = decide (r.getD k 0 < s.getD k 0) from if_neg ne9] at hv
          by_cases l9 : r.getD k 0 < s.getD k 0
          · rw [if_pos l9]; rw [if_pos (decide_eq_true l9)] at hv; exact hv
          · rw [if_neg l9]; rw [if_neg (fun q => l9 (of_decide_eq_true q))] at hv; exact hv

set_option maxHeartbeats 4000000 in
set_option maxRecDepth 100000 in
theorem l_ibC (G : sv_G) (Qr : Option Value → sv_h → Nat → Prop) (z b nc np pl : Nat) (hb : sv_h) (fs0 : List Value) (hq0 : mfq_ b nc np pl fs0) (hm9 : hb (b + 220) = some (.inr (11, fs0))) (fl : Int32) (h59 : fs0[59]? = some (.int fl)) (gt : Nat → Int64) (t41 : ab_J G hb (b + 241) 36048 gt) (i1 i2 : Nat) (q1 : i1 < 1500) (q2 : i2 < 1500) (r s : List Int64) (g1 : ∀ j, j < 12 → gt (12 * i1 + j) = r.getD j 0) (g2 : ∀ j, j < 12 → gt (12 * i2 + j) = s.getD j 0) (hfl : fl = 0) : ∀ (e k : Nat), k + e = 12 → Qr (some (.int (if lexB r s k e = true then 1 else 0))) hb z → V G mX13_isBefore (sv_MQ G mX13_isBefore Qr) 2 [(3, .int (nI (k + 1))), (2, .int (nI i2)), (1, .int (nI i1)), (0, .ref (b + 220))] [] hb z 0 0 := by
  intro e
  induction e with
  | zero =>
    intro k hke hv
    have hlen : fs0.length = 71 := hq0.1
    have f_flat := h59
    have f_told := hq0.f_told
    have e9 : k = 12 := by omega
    subst e9
    refine v_iload_n dX13_isBefore_2 rfl 0 rfl ?_
    refine v_bipush (v := 13) dX13_isBefore_3 (by decide) ?_
    refine v_icmp_ge (tgt := 108) dX13_isBefore_5 (by decide) (fun c_5 => ?_) (fun c_5 => ?_)
    · refine v_iconst (v := 0) dX13_isBefore_108 (by decide) ?_
      exact v_iret rfl dX13_isBefore_109 (Nat.le_of_ble_eq_true rfl) (Nat.le_of_ble_eq_true rfl) rfl hv
    · exact absurd (by decide) c_5
  | succ e ih =>
    intro k hke hv
    have hlen : fs0.length = 71 := hq0.1
    have f_flat := h59
    have f_told := hq0.f_told
    have hk12 : k < 12 := by omega
    refine v_iload_n dX13_isBefore_2 rfl 0 rfl ?_
    refine v_bipush (v := 13) dX13_isBefore_3 (by decide) ?_
    refine v_icmp_ge (tgt := 108) dX13_isBefore_5 (by decide) (fun c_5 => ?_) (fun c_5 => ?_)
    · exact absurd c_5 (nI_ge (b := 13) (by omega) (by omega))
    · refine v_aload_n dX13_isBefore_8 rfl 3 rfl ?_
      refine v_getf 59 (ci := 11) (C := RX13) (T := TX13) (N := 71) rfl iwX13_isBefore_X13 (Nat.le_of_ble_eq_true rfl) (by decide +kernel) dX13_isBefore_9 (by first | with_reducible assumption) (by repeat (first | with_reducible assumption | (with_reducible refine (sv_ls (by first | omega | (simp only [List.length_set]; omega))).trans ?_; exact rfl) | with_reducible refine (List.getElem?_set_ne (by decide)).trans ?_)) ?_
      refine v_if_eq (tgt := 19) dX13_isBefore_12 (by decide) (fun c_12 => ?_) (fun c_12 => ?_)
      · refine v_iload_n dX13_isBefore_19 rfl 0 rfl ?_
        refine v_if_ne (tgt := 28) dX13_isBefore_20 (by decide) (fun c_20 => ?_) (fun c_20 => ?_)
        · refine v_iload_n dX13_isBefore_28 rfl 0 rfl ?_
          refine v_iconst (v := 1) dX13_isBefore_29 (by decide) ?_
          refine v_isub dX13_isBefore_30 ?_
          rw [nI_s1]
          refine v_istore (L' := [(4, _), (3, _), (2, _), (1, _), (0, _)]) dX13_isBefore_31 (Nat.le_of_ble_eq_true rfl) rfl ?_
          refine v_sub (L' := [(4, _), (3, _), (2, _), (1, _), (0, _)]) [0, 1, 2, 3, 4] rfl ?_
          refine t_ib33 G Qr z b nc np pl hb fs0 hq0 hm9 fl h59 gt t41 i1 i2 q1 q2 r s g1 g2 (k + 1) k hk12 (fun eq9 => ?_) (fun ne9 => ?_)
          · skip
            refine v_iinc (j := 0) (L' := [(3, _), (2, _), (1, _), (0, _)]) (v := nI ((k + 1) + 1)) dX13_isBefore_102 rfl (nI_1 _) (Nat.le_of_ble_eq_true rfl) rfl ?_
            refine v_goto (tgt := 2) dX13_isBefore_105 (by decide) ?_
            refine v_sub (L' := [(3, _), (2, _), (1, _), (0, _)]) [0, 1, 2, 3] rfl ?_
            exact ih (k + 1) (by omega) (by rw [show lexB r s k (e + 1) = lexB r s (k + 1) e from if_pos eq9] at hv; exact hv)
          · rw [show lexB r s k (e + 1) = decide (r.getD k 0 < s.getD k 0) from if_neg ne9] at hv
            by_cases l9 : r.getD k 0 < s.getD k 0
            · rw [if_pos l9]; rw [if_pos (decide_eq_true l9)] at hv; exact hv
            · rw [if_neg l9]; rw [if_neg (fun q => l9 (of_decide_eq_true q))] at hv; exact hv
        · exact absurd (nI_i (c := 0) (by omega) (by omega) c_20) (by omega)
      · exact absurd hfl c_12

set_option maxHeartbeats 4000000 in
set_option maxRecDepth 100000 in
theorem t_ib0 (G : sv_G) (Qr : Option Value → sv_h → Nat → Prop) (z b nc np pl : Nat) (hb : sv_h) (fs0 : List Value) (hq0 : mfq_ b nc np pl fs0) (hm9 : hb (b + 220) = some (.inr (11, fs0))) (fl : Int32) (h59 : fs0[59]? = some (.int fl)) (gt : Nat → Int64) (t41 : ab_J G hb (b + 241) 36048 gt) (i1 i2 : Nat) (q1 : i1 < 1500) (q2 : i2 < 1500) (r s : List Int64) (g1 : ∀ j, j < 12 → gt (12 * i1 + j) = r.getD j 0) (g2 : ∀ j, j < 12 → gt (12 * i2 + j) = s.getD j 0) (hfl : fl = 0) (hv : Qr (some (.int (if bfR (decide (fl = 0)) r s = true then 1 else 0))) hb z) : V G mX13_isBefore (sv_MQ G mX13_isBefore Qr) 2 [(3, .int (nI 0)), (2, .int (nI i2)), (1, .int (nI i1)), (0, .ref (b + 220))] [] hb z 0 0 := by
  have hlen : fs0.length = 71 := hq0.1
  have f_flat := h59
  have f_told := hq0.f_told
  refine v_iload_n dX13_isBefore_2 rfl 0 rfl ?_
  refine v_bipush (v := 13) dX13_isBefore_3 (by decide) ?_
  refine v_icmp_ge (tgt := 108) dX13_isBefore_5 (by decide) (fun c_5 => ?_) (fun c_5 => ?_)
  · exact absurd c_5 (by decide)
  · refine v_aload_n dX13_isBefore_8 rfl 3 rfl ?_
    refine v_getf 59 (ci := 11) (C := RX13) (T := TX13) (N := 71) rfl iwX13_isBefore_X13 (Nat.le_of_ble_eq_true rfl) (by decide +kernel) dX13_isBefore_9 (by first | with_reducible assumption) (by repeat (first | with_reducible assumption | (with_reducible refine (sv_ls (by first | omega | (simp only [List.length_set]; omega))).trans ?_; exact rfl) | with_reducible refine (List.getElem?_set_ne (by decide)).trans ?_)) ?_
    refine v_if_eq (tgt := 19) dX13_isBefore_12 (by decide) (fun c_12 => ?_) (fun c_12 => ?_)
    · refine v_iload_n dX13_isBefore_19 rfl 0 rfl ?_
      refine v_if_ne (tgt := 28) dX13_isBefore_20 (by decide) (fun c_20 => ?_) (fun c_20 => ?_)
      · exact absurd rfl c_20
      · refine v_bipush (v := 7) dX13_isBefore_23 (by decide) ?_
        refine v_goto (tgt := 31) dX13_isBefore_25 (by decide) ?_
        refine v_istore (L' := [(4, _), (3, _), (2, _), (1, _), (0, _)]) dX13_isBefore_31 (Nat.le_of_ble_eq_true rfl) rfl ?_
        refine v_sub (L' := [(4, _), (3, _), (2, _), (1, _), (0, _)]) [0, 1, 2, 3, 4] rfl ?_
        refine t_ib33 G Qr z b nc np pl hb fs0 hq0 hm9 fl h59 gt t41 i1 i2 q1 q2 r s g1 g2 0 7 (by decide) (fun eq9 => ?_) (fun ne9 => ?_)
        · skip
          refine v_iinc (j := 0) (L' := [(3, _), (2, _), (1, _), (0, _)]) (v := nI (0 + 1)) dX13_isBefore_102 rfl (nI_1 0) (Nat.le_of_ble_eq_true rfl) rfl ?_
          refine v_goto (tgt := 2) dX13_isBefore_105 (by decide) ?_
          refine v_sub (L' := [(3, _), (2, _), (1, _), (0, _)]) [0, 1, 2, 3] rfl ?_
          exact l_ibC G Qr z b nc np pl hb fs0 hq0 hm9 fl h59 gt t41 i1 i2 q1 q2 r s g1 g2 hfl 12 0 rfl (by rw [bfR_l (bc := decide (fl = 0)) (fun _ => eq9)] at hv; exact hv)
        · rw [show decide (fl = 0) = true from decide_eq_true hfl, bfR_c ne9] at hv
          by_cases l9 : r.getD 7 0 < s.getD 7 0
          · rw [if_pos l9]; rw [if_pos (decide_eq_true l9)] at hv; exact hv
          · rw [if_neg l9]; rw [if_neg (fun q => l9 (of_decide_eq_true q))] at hv; exact hv
    · exact absurd hfl c_12

set_option maxHeartbeats 4000000 in
set_option maxRecDepth 100000 in
theorem m_isBefore (G : sv_G) (z b nc np pl : Nat) (hb : sv_h) (fs0 : List Value) (hq0 : mfq_ b nc np pl fs0) (hm9 : hb (b + 220) = some (.inr (11, fs0))) (fl : Int32) (h59 : fs0[59]? = some (.int fl)) (gt : Nat → Int64) (t41 : ab_J G hb (b + 241) 36048 gt) (i1 i2 : Nat) (q1 : i1 < 1500) (q2 : i2 < 1500) (r s : List Int64) (g1 : ∀ j, j < 12 → gt (12 * i1 + j) = r.getD j 0) (g2 : ∀ j, j < 12 → gt (12 * i2 + j) = s.getD j 0) : CT G mX13_isBefore [.ref (b + 220), .int (nI i1), .int (nI i2)] hb z (fun v h1 z1 => v = some (.int (if bfR (decide (fl = 0)) r s = true then 1 else 0)) ∧ h1 = hb ∧ z1 = z) := by
  refine CT.of (by decide +kernel) rfl rfl (Nat.le_of_ble_eq_true rfl) ?_
  refine v_iconst (v := 0) dX13_isBefore_0 (by decide) ?_
  refine v_istore_n (L' := [(3, _), (0, _), (1, _), (2, _)]) dX13_isBefore_1 rfl (Nat.le_of_ble_eq_true rfl) rfl ?_
  refine v_sub (L' := [(3, _), (2, _), (1, _), (0, _)]) [0, 3, 2, 1] rfl ?_
  by_cases hfl : fl = 0
  · exact t_ib0 G (fun v h1 z1 => v = some (.int (if bfR (decide (fl = 0)) r s = true then 1 else 0)) ∧ h1 = hb ∧ z1 = z) _ b nc np pl hb fs0 hq0 hm9 fl h59 gt t41 i1 i2 q1 q2 r s g1 g2 hfl ⟨rfl, rfl, rfl⟩
  · refine l_ibF G (fun v h1 z1 => v = some (.int (if bfR (decide (fl = 0)) r s = true then 1 else 0)) ∧ h1 = hb ∧ z1 = z) _ b nc np pl hb fs0 hq0 hm9 fl h59 gt t41 i1 i2 q1 q2 r s g1 g2 hfl 12 0 rfl ⟨?_, rfl, rfl⟩
    rw [bfR_l (bc := decide (fl = 0)) (fun q => absurd (of_decide_eq_true q) hfl)]

theorem m_isWaivedL (G : sv_G) (z b nc np pl : Nat) (h : sv_h) (fs : List Value) (hq : mfq_ b nc np pl fs) (hm9 : h (b + 220) = some (.inr (11, fs))) (nw : Nat) (hnw : nw ≤ 40) (h33 : fs[33]? = some (.int (nI nw))) (rl : Int32) (h58 : fs[58]? = some (.int rl)) (wr wf : Nat → Int64) (w42 : ab_J G h (b + 242) 320 wf) (hwr : ∀ k, k < nw → ∀ j, j < 8 → wf (8 * k + ab_wc j) = wr (8 * k + j)) (gt : Nat → Int64) (t41 : ab_J G h (b + 241) 36048 gt) (k : Nat) (hk : k < 1500) (r : List Int64) (g1 : ∀ j, j < 12 → gt (12 * k + j) = r.getD j 0) : CT G mX13_isWaived [.ref (b + 220), .int (nI (12 * k))] h z (fun v h1 z1 => v = some (.int (if cvB wr nw rl r = true then 1 else 0)) ∧ h1 = h ∧ z1 = z) := by
  refine (m_isWaived G h z b (12 * k) nw fs rl wr (dsR rl r) gt wf hq.1 hm9 h33 hq.f_waivedAt h58 hq.f_told t41 w42 (by omega) hnw hwr rfl (g1 7 (by decide)).symm (g1 4 (by decide)).symm (g1 5 (by decide)).symm (fun j hj => ?_)).mono (fun v h1 z1 _ hq9 => ?_)
  · have e : dsR rl r (4 + j) = r.getD (4 + j + 4) 0 := (if_neg (by omega)).trans ((if_neg (by omega)).trans ((if_neg (by omega)).trans (if_neg (by omega))))
    rw [e, show 4 + j + 4 = 8 + j by omega]
    exact (g1 (8 + j) (by omega)).symm
  · obtain ⟨⟨w, rfl, hw⟩, rfl, rfl⟩ := hq9
    refine ⟨?_, rfl, rfl⟩
    rcases hw with ⟨rfl, q⟩ | ⟨rfl, q⟩
    · rw [if_pos (cvB_iff.mpr q)]
    · rw [if_neg (fun e => q (cvB_iff.mp e))]
