theorem iwX13_mark_X13 : ∀ w ∈ wsX130, w ∈ wsX13_mark := by decide +kernel
theorem dX13_mark_0 : decode cX13_mark 0 = .ok (.iconst 0, 1) := by decide +kernel
theorem dX13_mark_1 : decode cX13_mark 1 = .ok (.istore_n 2, 1) := by decide +kernel
theorem dX13_mark_2 : decode cX13_mark 2 = .ok (.iconst 0, 1) := by decide +kernel
theorem dX13_mark_3 : decode cX13_mark 3 = .ok (.istore_n 3, 1) := by decide +kernel
theorem dX13_mark_4 : decode cX13_mark 4 = .ok (.iload_n 3, 1) := by decide +kernel
theorem dX13_mark_5 : decode cX13_mark 5 = .ok (.aload_n 0, 1) := by decide +kernel
theorem dX13_mark_6 : decode cX13_mark 6 = .ok (.getfield 362, 3) := by decide +kernel
theorem dX13_mark_9 : decode cX13_mark 9 = .ok (.if_icmp .ge 105, 3) := by decide +kernel
theorem dX13_mark_12 : decode cX13_mark 12 = .ok (.iconst 1, 1) := by decide +kernel
theorem dX13_mark_13 : decode cX13_mark 13 = .ok (.istore 4, 2) := by decide +kernel
theorem dX13_mark_15 : decode cX13_mark 15 = .ok (.iconst 0, 1) := by decide +kernel
theorem dX13_mark_16 : decode cX13_mark 16 = .ok (.istore 5, 2) := by decide +kernel
theorem dX13_mark_18 : decode cX13_mark 18 = .ok (.iload 5, 2) := by decide +kernel
theorem dX13_mark_20 : decode cX13_mark 20 = .ok (.bipush 7, 2) := by decide +kernel
theorem dX13_mark_22 : decode cX13_mark 22 = .ok (.if_icmp .ge 46, 3) := by decide +kernel
theorem dX13_mark_25 : decode cX13_mark 25 = .ok (.iload 4, 2) := by decide +kernel
theorem dX13_mark_27 : decode cX13_mark 27 = .ok (.ifCond .eq 32, 3) := by decide +kernel
theorem dX13_mark_30 : decode cX13_mark 30 = .ok (.aload_n 0, 1) := by decide +kernel
theorem dX13_mark_31 : decode cX13_mark 31 = .ok (.getfield 131, 3) := by decide +kernel
theorem dX13_mark_34 : decode cX13_mark 34 = .ok (.bipush 7, 2) := by decide +kernel
theorem dX13_mark_36 : decode cX13_mark 36 = .ok (.iload_n 3, 1) := by decide +kernel
theorem dX13_mark_37 : decode cX13_mark 37 = .ok (.imul, 1) := by decide +kernel
theorem dX13_mark_38 : decode cX13_mark 38 = .ok (.iload 5, 2) := by decide +kernel
theorem dX13_mark_40 : decode cX13_mark 40 = .ok (.iadd, 1) := by decide +kernel
theorem dX13_mark_41 : decode cX13_mark 41 = .ok (.laload, 1) := by decide +kernel
theorem dX13_mark_42 : decode cX13_mark 42 = .ok (.aload_n 0, 1) := by decide +kernel
theorem dX13_mark_43 : decode cX13_mark 43 = .ok (.getfield 72, 3) := by decide +kernel
theorem dX13_mark_46 : decode cX13_mark 46 = .ok (.iload_n 1, 1) := by decide +kernel
theorem dX13_mark_47 : decode cX13_mark 47 = .ok (.iload 5, 2) := by decide +kernel
theorem dX13_mark_49 : decode cX13_mark 49 = .ok (.iadd, 1) := by decide +kernel
theorem dX13_mark_50 : decode cX13_mark 50 = .ok (.laload, 1) := by decide +kernel
theorem dX13_mark_51 : decode cX13_mark 51 = .ok (.lcmp, 1) := by decide +kernel
theorem dX13_mark_52 : decode cX13_mark 52 = .ok (.ifCond .ne 7, 3) := by decide +kernel
theorem dX13_mark_55 : decode cX13_mark 55 = .ok (.iconst 1, 1) := by decide +kernel
theorem dX13_mark_56 : decode cX13_mark 56 = .ok (.goto 4, 3) := by decide +kernel
theorem dX13_mark_59 : decode cX13_mark 59 = .ok (.iconst 0, 1) := by decide +kernel
theorem dX13_mark_60 : decode cX13_mark 60 = .ok (.istore 4, 2) := by decide +kernel
theorem dX13_mark_62 : decode cX13_mark 62 = .ok (.iinc 5 1, 3) := by decide +kernel
theorem dX13_mark_65 : decode cX13_mark 65 = .ok (.goto (-47), 3) := by decide +kernel
theorem dX13_mark_68 : decode cX13_mark 68 = .ok (.aload_n 0, 1) := by decide +kernel
theorem dX13_mark_69 : decode cX13_mark 69 = .ok (.getfield 134, 3) := by decide +kernel
theorem dX13_mark_72 : decode cX13_mark 72 = .ok (.iload_n 3, 1) := by decide +kernel
theorem dX13_mark_73 : decode cX13_mark 73 = .ok (.aload_n 0, 1) := by decide +kernel
theorem dX13_mark_74 : decode cX13_mark 74 = .ok (.getfield 134, 3) := by decide +kernel
theorem dX13_mark_77 : decode cX13_mark 77 = .ok (.iload_n 3, 1) := by decide +kernel
theorem dX13_mark_78 : decode cX13_mark 78 = .ok (.baload, 1) := by decide +kernel
theorem dX13_mark_79 : decode cX13_mark 79 = .ok (.ifCond .ne 8, 3) := by decide +kernel
theorem dX13_mark_82 : decode cX13_mark 82 = .ok (.iload 4, 2) := by decide +kernel
theorem dX13_mark_84 : decode cX13_mark 84 = .ok (.ifCond .eq 7, 3) := by decide +kernel
theorem dX13_mark_87 : decode cX13_mark 87 = .ok (.iconst 1, 1) := by decide +kernel
theorem dX13_mark_88 : decode cX13_mark 88 = .ok (.goto 4, 3) := by decide +kernel
theorem dX13_mark_91 : decode cX13_mark 91 = .ok (.iconst 0, 1) := by decide +kernel
theorem dX13_mark_92 : decode cX13_mark 92 = .ok (.bastore, 1) := by decide +kernel
theorem dX13_mark_93 : decode cX13_mark 93 = .ok (.iload_n 2, 1) := by decide +kernel
theorem dX13_mark_94 : decode cX13_mark 94 = .ok (.ifCond .ne 8, 3) := by decide +kernel
theorem dX13_mark_97 : decode cX13_mark 97 = .ok (.iload 4, 2) := by decide +kernel
theorem dX13_mark_99 : decode cX13_mark 99 = .ok (.ifCond .eq 7, 3) := by decide +kernel
theorem dX13_mark_102 : decode cX13_mark 102 = .ok (.iconst 1, 1) := by decide +kernel
theorem dX13_mark_103 : decode cX13_mark 103 = .ok (.goto 4, 3) := by decide +kernel
theorem dX13_mark_106 : decode cX13_mark 106 = .ok (.iconst 0, 1) := by decide +kernel
theorem dX13_mark_107 : decode cX13_mark 107 = .ok (.istore_n 2, 1) := by decide +kernel
theorem dX13_mark_108 : decode cX13_mark 108 = .ok (.iinc 3 1, 3) := by decide +kernel
theorem dX13_mark_111 : decode cX13_mark 111 = .ok (.goto (-107), 3) := by decide +kernel
theorem dX13_mark_114 : decode cX13_mark 114 = .ok (.iload_n 2, 1) := by decide +kernel
theorem dX13_mark_115 : decode cX13_mark 115 = .ok (.ireturn, 1) := by decide +kernel

abbrev mX13_mark : sv_M := (cX13_mark, 6, yX13_mark, wsX13_mark, (some .boolean), { frames := 0, cells := 0, slots := 0, locals := 0 }, [])
/-- alike in the first k columns -/
def alk (r s : List Int64) (k : Nat) : Bool := (List.range k).all (fun j => decide (r.getD j 0 = s.getD j 0))
theorem alk_s (r s : List Int64) (k : Nat) : alk r s (k + 1) = (alk r s k && decide (r.getD k 0 = s.getD k 0)) := by
  unfold alk
  rw [List.range_succ, List.all_append]
  show (_ && (decide _ && true)) = _
  rw [Bool.and_true]
theorem alk_7 {r s : List Int64} : alk r s 7 = true ↔ al7 r s := by
  unfold alk al7
  rw [List.all_eq_true]
  exact ⟨fun h j hj => of_decide_eq_true (h j (List.mem_range.mpr hj)), fun h j hj => decide_eq_true (h j (List.mem_range.mp hj))⟩
def bI (x : Bool) : Int32 := if x = true then 1 else 0
theorem bI_tn : ¬ bI true = 0 := by decide
theorem bI_nar (x : Bool) : narrow .boolean (.int (bI x)) = .int (bI x) := by cases x <;> rfl
theorem bI_t {x : Bool} (h : ¬ bI x = 0) : x = true := by cases x; exact absurd rfl h; rfl
theorem bI_f {x : Bool} (h : bI x = 0) : x = false := by cases x; rfl; exact absurd h (by decide)
set_option maxHeartbeats 4000000 in
set_option maxRecDepth 100000 in
theorem l_mkI (G : sv_G) (Qr : Option Value → sv_h → Nat → Prop) (z b nc np pl : Nat) (hb : sv_h) (fs0 : List Value) (hq0 : mfq_ b nc np pl fs0) (hm0 : hb (b + 220) = some (.inr (11, fs0))) (FL : List (List Int64)) (hF15 : FL.length ≤ 1500) (f64 : fs0[64]? = some (.int (nI FL.length))) (ft : Nat → Int64) (A59 : ab_J G hb (b + 259) 10500 ft) (hft : ∀ k9 j9, k9 < FL.length → j9 < 7 → ft (7 * k9 + j9) = (FL.getD k9 []).getD j9 0) (r : Nat) (hr : r < 1500) (gt : Nat → Int64) (t41 : ab_J G hb (b + 241) 36048 gt) (x : List Int64) (hx : ∀ j, j < 7 → gt (12 * r + j) = x.getD j 0) (i : Nat) (hi : i < FL.length) (fd : Int32) (h : sv_h) (fr : (∀ a, a ≠ b + 260 → h a = hb a)) (hk : V G mX13_mark (sv_MQ G mX13_mark Qr) 68 [(4, .int (bI (alk (FL.getD i []) x 7))), (3, .int (nI i)), (2, .int fd), (1, .int (nI (12 * r))), (0, .ref (b + 220))] [] h z 0 0) : ∀ (e k : Nat), k + e = 7 → V G mX13_mark (sv_MQ G mX13_mark Qr) 18 [(5, .int (nI k)), (4, .int (bI (alk (FL.getD i []) x k))), (3, .int (nI i)), (2, .int fd), (1, .int (nI (12 * r))), (0, .ref (b + 220))] [] h z 0 0 := by
  intro e
  induction e with
  | zero =>
    intro k hke
    have hlen : fs0.length = 71 := hq0.1
    have hm9 := (fr (b + 220) (by omega)).trans hm0
    have f_beside := f64
    have w241 : ab_J G h (b + 241) 36048 gt := (fr _ (by omega)).trans t41
    have w259 : ab_J G h (b + 259) 10500 ft := (fr _ (by omega)).trans A59
    have f_told := hq0.f_told
    have f_flatTold := hq0.f_flatTold
    have f_met := hq0.f_met
    have e9 : k = 7 := by omega
    subst e9
    refine v_iload dX13_mark_18 0 rfl ?_
    refine v_bipush (v := 7) dX13_mark_20 (by decide) ?_
    refine v_icmp_ge (tgt := 68) dX13_mark_22 (by decide) (fun c_22 => ?_) (fun c_22 => ?_)
    · refine v_sub (L' := [(4, _), (3, _), (2, _), (1, _), (0, _)]) [1, 2, 3, 4, 5] rfl ?_
      exact hk
    · exact absurd (by decide) c_22
  | succ e ih =>
    intro k hke
    have hlen : fs0.length = 71 := hq0.1
    have hm9 := (fr (b + 220) (by omega)).trans hm0
    have f_beside := f64
    have w241 : ab_J G h (b + 241) 36048 gt := (fr _ (by omega)).trans t41
    have w259 : ab_J G h (b + 259) 10500 ft := (fr _ (by omega)).trans A59
    have f_told := hq0.f_told
    have f_flatTold := hq0.f_flatTold
    have f_met := hq0.f_met
    have hk7 : k < 7 := by omega
    refine v_iload dX13_mark_18 0 rfl ?_
    refine v_bipush (v := 7) dX13_mark_20 (by decide) ?_
    refine v_icmp_ge (tgt := 68) dX13_mark_22 (by decide) (fun c_22 => ?_) (fun c_22 => ?_)
    · exact absurd c_22 (nI_ge (b := 7) hk7 (by omega))
    · refine v_iload dX13_mark_25 1 rfl ?_
      refine v_if_eq (tgt := 59) dX13_mark_27 (by decide) (fun c_27 => ?_) (fun c_27 => ?_)
      · refine v_iconst (v := 0) dX13_mark_59 (by decide) ?_
        refine v_istore (L' := [(4, _), (5, _), (3, _), (2, _), (1, _), (0, _)]) dX13_mark_60 (Nat.le_of_ble_eq_true rfl) rfl ?_
        refine v_iinc (j := 1) (L' := [(5, _), (4, _), (3, _), (2, _), (1, _), (0, _)]) (v := nI (k + 1)) dX13_mark_62 rfl (nI_1 _) (Nat.le_of_ble_eq_true rfl) rfl ?_
        refine v_goto (tgt := 18) dX13_mark_65 (by decide) ?_
        refine v_sub (L' := [(5, _), (4, _), (3, _), (2, _), (1, _), (0, _)]) [0, 1, 2, 3, 4, 5] rfl ?_
        have hh := ih (k + 1) (by omega)
        rw [alk_s] at hh
        first
          | (rw [bI_t c_27, decide_eq_true c_52] at hh; exact hh)
          | (rw [bI_t c_27, decide_eq_false c_52] at hh; exact hh)
          | (rw [bI_f c_27] at hh; exact hh)
      · refine v_aload_n dX13_mark_30 rfl 5 rfl ?_
        refine v_getf 65 (ci := 11) (C := RX13) (T := TX13) (N := 71) rfl iwX13_mark_X13 (Nat.le_of_ble_eq_true rfl) (by decide +kernel) dX13_mark_31 (by first | with_reducible assumption) (by repeat (first | with_reducible assumption | (with_reducible refine (sv_ls (by first | omega | (simp only [List.length_set]; omega))).trans ?_; exact rfl) | with_reducible refine (List.getElem?_set_ne (by decide)).trans ?_)) ?_
        refine v_bipush (v := 7) dX13_mark_34 (by decide) ?_
        refine v_iload_n dX13_mark_36 rfl 2 rfl ?_
        refine v_imul dX13_mark_37 ?_
        refine v_iload dX13_mark_38 0 rfl ?_
        refine v_iadd dX13_mark_40 ?_
        rw [sv_7m, nI_add]
        refine v_laldS (v := (FL.getD i []).getD k 0) dX13_mark_41 (by first | with_reducible assumption) (vp_in_nI (by omega) (by omega)) (by rw [nI_clamp (by omega)]; exact hft i k hi hk7) ?_
        refine v_aload_n dX13_mark_42 rfl 5 rfl ?_
        refine v_getf 27 (ci := 11) (C := RX13) (T := TX13) (N := 71) rfl iwX13_mark_X13 (Nat.le_of_ble_eq_true rfl) (by decide +kernel) dX13_mark_43 (by first | with_reducible assumption) (by repeat (first | with_reducible assumption | (with_reducible refine (sv_ls (by first | omega | (simp only [List.length_set]; omega))).trans ?_; exact rfl) | with_reducible refine (List.getElem?_set_ne (by decide)).trans ?_)) ?_
        refine v_iload_n dX13_mark_46 rfl 4 rfl ?_
        refine v_iload dX13_mark_47 0 rfl ?_
        refine v_iadd dX13_mark_49 ?_
        rw [nI_add]
        refine v_laldS (v := x.getD k 0) dX13_mark_50 (by first | with_reducible assumption) (vp_in_nI (by omega) (by omega)) (by rw [nI_clamp (by omega)]; exact hx k hk7) ?_
        refine v_lcmp_ne (tgt := 59) dX13_mark_51 dX13_mark_52 (by decide) (fun c_52 => ?_) (fun c_52 => ?_)
        · refine v_iconst (v := 0) dX13_mark_59 (by decide) ?_
          refine v_istore (L' := [(4, _), (5, _), (3, _), (2, _), (1, _), (0, _)]) dX13_mark_60 (Nat.le_of_ble_eq_true rfl) rfl ?_
          refine v_iinc (j := 1) (L' := [(5, _), (4, _), (3, _), (2, _), (1, _), (0, _)]) (v := nI (k + 1)) dX13_mark_62 rfl (nI_1 _) (Nat.le_of_ble_eq_true rfl) rfl ?_
          refine v_goto (tgt := 18) dX13_mark_65 (by decide) ?_
          refine v_sub (L' := [(5, _), (4, _), (3, _), (2, _), (1, _), (0, _)]) [0, 1, 2, 3, 4, 5] rfl ?_
          have hh := ih (k + 1) (by omega)
          rw [alk_s] at hh
          first
            | (rw [bI_t c_27, decide_eq_true c_52] at hh; exact hh)
            | (rw [bI_t c_27, decide_eq_false c_52] at hh; exact hh)
            | (rw [bI_f c_27] at hh; exact hh)
        · refine v_iconst (v := 1) dX13_mark_55 (by decide) ?_
          refine v_goto (tgt := 60) dX13_mark_56 (by decide) ?_
          refine v_istore (L' := [(4, _), (5, _), (3, _), (2, _), (1, _), (0, _)]) dX13_mark_60 (Nat.le_of_ble_eq_true rfl) rfl ?_
          refine v_iinc (j := 1) (L' := [(5, _), (4, _), (3, _), (2, _), (1, _), (0, _)]) (v := nI (k + 1)) dX13_mark_62 rfl (nI_1 _) (Nat.le_of_ble_eq_true rfl) rfl ?_
          refine v_goto (tgt := 18) dX13_mark_65 (by decide) ?_
          refine v_sub (L' := [(5, _), (4, _), (3, _), (2, _), (1, _), (0, _)]) [0, 1, 2, 3, 4, 5] rfl ?_
          have hh := ih (k + 1) (by omega)
          rw [alk_s] at hh
          first
            | (rw [bI_t c_27, decide_eq_true c_52] at hh; exact hh)
            | (rw [bI_t c_27, decide_eq_false c_52] at hh; exact hh)
            | (rw [bI_f c_27] at hh; exact hh)

set_option maxHeartbeats 4000000 in
set_option maxRecDepth 100000 in
theorem l_mk (G : sv_G) (Qr : Option Value → sv_h → Nat → Prop) (z b nc np pl : Nat) (hb : sv_h) (fs0 : List Value) (hq0 : mfq_ b nc np pl fs0) (hm0 : hb (b + 220) = some (.inr (11, fs0))) (FL : List (List Int64)) (hF15 : FL.length ≤ 1500) (f64 : fs0[64]? = some (.int (nI FL.length))) (ft : Nat → Int64) (A59 : ab_J G hb (b + 259) 10500 ft) (hft : ∀ k9 j9, k9 < FL.length → j9 < 7 → ft (7 * k9 + j9) = (FL.getD k9 []).getD j9 0) (r : Nat) (hr : r < 1500) (gt : Nat → Int64) (t41 : ab_J G hb (b + 241) 36048 gt) (x : List Int64) (hx : ∀ j, j < 7 → gt (12 * r + j) = x.getD j 0) (MK : Nat → Bool) (hk : ∀ (h : sv_h) (mt : Nat → Int32), ab_Z G h (b + 260) 1500 mt → (∀ i9, i9 < FL.length → mt i9 = bI (MK i9 || (decide (i9 < FL.length) && alk (FL.getD i9 []) x 7))) → (∀ a, a ≠ b + 260 → h a = hb a) → Qr (some (.int (bI ((FL.take FL.length).any (fun y => alk y x 7))))) h z) : ∀ (e i : Nat) (h : sv_h) (mt : Nat → Int32), i + e = FL.length → ab_Z G h (b + 260) 1500 mt → (∀ i9, i9 < FL.length → mt i9 = bI (MK i9 || (decide (i9 < i) && alk (FL.getD i9 []) x 7))) → (∀ a, a ≠ b + 260 → h a = hb a) → V G mX13_mark (sv_MQ G mX13_mark Qr) 4 [(3, .int (nI i)), (2, .int (bI ((FL.take i).any (fun y => alk y x 7)))), (1, .int (nI (12 * r))), (0, .ref (b + 220))] [] h z 0 0 := by
  intro e
  induction e with
  | zero =>
    intro i h mt hie a1 a2 fr
    have hlen : fs0.length = 71 := hq0.1
    have hm9 := (fr (b + 220) (by omega)).trans hm0
    have f_beside := f64
    have w241 : ab_J G h (b + 241) 36048 gt := (fr _ (by omega)).trans t41
    have w259 : ab_J G h (b + 259) 10500 ft := (fr _ (by omega)).trans A59
    have f_told := hq0.f_told
    have f_flatTold := hq0.f_flatTold
    have f_met := hq0.f_met
    have e9 : i = FL.length := by omega
    subst e9
    refine v_iload_n dX13_mark_4 rfl 0 rfl ?_
    refine v_aload_n dX13_mark_5 rfl 3 rfl ?_
    refine v_getf 64 (ci := 11) (C := RX13) (T := TX13) (N := 71) rfl iwX13_mark_X13 (Nat.le_of_ble_eq_true rfl) (by decide +kernel) dX13_mark_6 (by repeat (first | with_reducible assumption | (with_reducible refine sv_us.trans ?_; exact rfl) | with_reducible refine (sv_un (by omega)).trans ?_)) (by repeat (first | with_reducible assumption | (with_reducible refine (sv_ls (by first | omega | (simp only [List.length_set]; omega))).trans ?_; exact rfl) | with_reducible refine (List.getElem?_set_ne (by decide)).trans ?_)) ?_
    refine v_icmp_ge (tgt := 114) dX13_mark_9 (by decide) (fun c_9 => ?_) (fun c_9 => ?_)
    · refine v_iload_n dX13_mark_114 rfl 1 rfl ?_
      exact v_iret rfl dX13_mark_115 (Nat.le_of_ble_eq_true rfl) (Nat.le_of_ble_eq_true rfl) (bI_nar _) (hk h mt a1 a2 fr)
    · exact absurd (nI_le (Nat.le_refl _) (by omega)) c_9
  | succ e ih =>
    intro i h mt hie a1 a2 fr
    have hlen : fs0.length = 71 := hq0.1
    have hm9 := (fr (b + 220) (by omega)).trans hm0
    have f_beside := f64
    have w241 : ab_J G h (b + 241) 36048 gt := (fr _ (by omega)).trans t41
    have w259 : ab_J G h (b + 259) 10500 ft := (fr _ (by omega)).trans A59
    have f_told := hq0.f_told
    have f_flatTold := hq0.f_flatTold
    have f_met := hq0.f_met
    have hi : i < FL.length := by omega
    have am : mt i = bI (MK i) := (by rw [a2 i hi, decide_eq_false (Nat.lt_irrefl i), Bool.false_and, Bool.or_false])
    refine v_iload_n dX13_mark_4 rfl 0 rfl ?_
    refine v_aload_n dX13_mark_5 rfl 3 rfl ?_
    refine v_getf 64 (ci := 11) (C := RX13) (T := TX13) (N := 71) rfl iwX13_mark_X13 (Nat.le_of_ble_eq_true rfl) (by decide +kernel) dX13_mark_6 (by repeat (first | with_reducible assumption | (with_reducible refine sv_us.trans ?_; exact rfl) | with_reducible refine (sv_un (by omega)).trans ?_)) (by repeat (first | with_reducible assumption | (with_reducible refine (sv_ls (by first | omega | (simp only [List.length_set]; omega))).trans ?_; exact rfl) | with_reducible refine (List.getElem?_set_ne (by decide)).trans ?_)) ?_
    refine v_icmp_ge (tgt := 114) dX13_mark_9 (by decide) (fun c_9 => ?_) (fun c_9 => ?_)
    · exact absurd c_9 (nI_ge hi (by omega))
    · refine v_iconst (v := 1) dX13_mark_12 (by decide) ?_
      refine v_istore (L' := [(4, _), (3, _), (2, _), (1, _), (0, _)]) dX13_mark_13 (Nat.le_of_ble_eq_true rfl) rfl ?_
      refine v_iconst (v := 0) dX13_mark_15 (by decide) ?_
      refine v_istore (L' := [(5, _), (4, _), (3, _), (2, _), (1, _), (0, _)]) dX13_mark_16 (Nat.le_of_ble_eq_true rfl) rfl ?_
      refine v_sub (L' := [(5, _), (4, _), (3, _), (2, _), (1, _), (0, _)]) [0, 1, 2, 3, 4, 5] rfl ?_
      refine l_mkI G Qr _ b nc np pl hb fs0 hq0 hm0 FL hF15 f64 ft A59 hft r hr gt t41 x hx i hi _ h fr ?_ 7 0 rfl
      refine v_aload_n dX13_mark_68 rfl 4 rfl ?_
      refine v_getf 66 (ci := 11) (C := RX13) (T := TX13) (N := 71) rfl iwX13_mark_X13 (Nat.le_of_ble_eq_true rfl) (by decide +kernel) dX13_mark_69 (by repeat (first | with_reducible assumption | (with_reducible refine sv_us.trans ?_; exact rfl) | with_reducible refine (sv_un (by omega)).trans ?_)) (by repeat (first | with_reducible assumption | (with_reducible refine (sv_ls (by first | omega | (simp only [List.length_set]; omega))).trans ?_; exact rfl) | with_reducible refine (List.getElem?_set_ne (by decide)).trans ?_)) ?_
      refine v_iload_n dX13_mark_72 rfl 1 rfl ?_
      refine v_aload_n dX13_mark_73 rfl 4 rfl ?_
      refine v_getf 66 (ci := 11) (C := RX13) (T := TX13) (N := 71) rfl iwX13_mark_X13 (Nat.le_of_ble_eq_true rfl) (by decide +kernel) dX13_mark_74 (by repeat (first | with_reducible assumption | (with_reducible refine sv_us.trans ?_; exact rfl) | with_reducible refine (sv_un (by omega)).trans ?_)) (by repeat (first | with_reducible assumption | (with_reducible refine (sv_ls (by first | omega | (simp only [List.length_set]; omega))).trans ?_; exact rfl) | with_reducible refine (List.getElem?_set_ne (by decide)).trans ?_)) ?_
      refine v_iload_n dX13_mark_77 rfl 1 rfl ?_
      refine v_zaldS (v := bI (MK i)) dX13_mark_78 (by repeat (first | with_reducible assumption | (with_reducible refine sv_us.trans ?_; exact rfl) | with_reducible refine (sv_un (by omega)).trans ?_)) (vp_in_nI (by omega) (by omega)) (by rw [nI_clamp (by omega)]; exact am) ?_
      refine v_if_ne (tgt := 87) dX13_mark_79 (by decide) (fun c_79 => ?_) (fun c_79 => ?_)
      · refine v_iconst (v := 1) dX13_mark_87 (by decide) ?_
        refine v_goto (tgt := 92) dX13_mark_88 (by decide) ?_
        refine v_zast (y := 1) dX13_mark_92 (by repeat (first | with_reducible assumption | (with_reducible refine sv_us.trans ?_; exact rfl) | with_reducible refine (sv_un (by omega)).trans ?_)) (vp_in_nI (by omega) (by omega)) rfl ?_
        refine v_iload_n dX13_mark_93 rfl 2 rfl ?_
        refine v_if_ne (tgt := 102) dX13_mark_94 (by decide) (fun c_94 => ?_) (fun c_94 => ?_)
        · refine v_iconst (v := 1) dX13_mark_102 (by decide) ?_
          refine v_goto (tgt := 107) dX13_mark_103 (by decide) ?_
          refine v_istore_n (L' := [(2, _), (4, _), (3, _), (1, _), (0, _)]) dX13_mark_107 rfl (Nat.le_of_ble_eq_true rfl) rfl ?_
          refine v_iinc (j := 2) (L' := [(3, _), (2, _), (4, _), (1, _), (0, _)]) (v := nI (i + 1)) dX13_mark_108 rfl (nI_1 _) (Nat.le_of_ble_eq_true rfl) rfl ?_
          refine v_goto (tgt := 4) dX13_mark_111 (by decide) ?_
          refine v_sub (L' := [(3, _), (2, _), (1, _), (0, _)]) [0, 1, 3, 4] rfl ?_
          rw [nI_clamp (show i < 2 ^ 31 by omega)]
          have tk9 : (FL.take (i + 1)).any (fun y => alk y x 7) = ((FL.take i).any (fun y => alk y x 7) || alk (FL.getD i []) x 7) := (by
            rw [tk_s9 [] hi, List.any_append]
            show (_ || (alk (FL.getD i []) x 7 || false)) = _
            rw [Bool.or_false])
          have hA : ∀ nv : Int32, nv = bI (MK i || alk (FL.getD i []) x 7) → ∀ i9, i9 < FL.length → upd mt i nv i9 = bI (MK i9 || (decide (i9 < i + 1) && alk (FL.getD i9 []) x 7)) := (by
            intro nv hnv i9 q9
            by_cases e9 : i9 = i
            · subst e9
              rw [decide_eq_true (Nat.lt_succ_self i9), Bool.true_and]
              exact (if_pos rfl).trans hnv
            · refine (if_neg e9).trans ((a2 i9 q9).trans ?_)
              congr 3
              exact decide_eq_decide.mpr (by omega))
          have hh := fun nv hnv => ih (i + 1) (va_up h (b + 260) (some (.inl (G.2.2.1 2, 1500, .inl (upd mt i nv))))) (upd mt i nv) (by omega) sv_us (hA nv hnv) (fun a p => (sv_un p).trans (fr a p))
          rw [tk9] at hh
          cases hm9_ : MK i <;> cases ha9 : alk (FL.getD i []) x 7 <;> cases hf9 : (FL.take i).any (fun y => alk y x 7) <;> first
            | (rw [hm9_] at c_79; exact absurd rfl c_79)
            | (rw [hm9_] at c_79; exact absurd c_79 bI_tn)
            | (rw [ha9] at c_84; exact absurd rfl c_84)
            | (rw [ha9] at c_84; exact absurd c_84 bI_tn)
            | (rw [hf9] at c_94; exact absurd rfl c_94)
            | (rw [hf9] at c_94; exact absurd c_94 bI_tn)
            | (rw [ha9] at c_99; exact absurd rfl c_99)
            | (rw [ha9] at c_99; exact absurd c_99 bI_tn)
            | (rw [hm9_, ha9, hf9] at hh; exact hh 1 rfl)
            | (rw [hm9_, ha9, hf9] at hh; exact hh 0 rfl)
        · refine v_iload dX13_mark_97 0 rfl ?_
          refine v_if_eq (tgt := 106) dX13_mark_99 (by decide) (fun c_99 => ?_) (fun c_99 => ?_)
          · refine v_iconst (v := 0) dX13_mark_106 (by decide) ?_
            refine v_istore_n (L' := [(2, _), (4, _), (3, _), (1, _), (0, _)]) dX13_mark_107 rfl (Nat.le_of_ble_eq_true rfl) rfl ?_
            refine v_iinc (j := 2) (L' := [(3, _), (2, _), (4, _), (1, _), (0, _)]) (v := nI (i + 1)) dX13_mark_108 rfl (nI_1 _) (Nat.le_of_ble_eq_true rfl) rfl ?_
            refine v_goto (tgt := 4) dX13_mark_111 (by decide) ?_
            refine v_sub (L' := [(3, _), (2, _), (1, _), (0, _)]) [0, 1, 3, 4] rfl ?_
            rw [nI_clamp (show i < 2 ^ 31 by omega)]
            have tk9 : (FL.take (i + 1)).any (fun y => alk y x 7) = ((FL.take i).any (fun y => alk y x 7) || alk (FL.getD i []) x 7) := (by
              rw [tk_s9 [] hi, List.any_append]
              show (_ || (alk (FL.getD i []) x 7 || false)) = _
              rw [Bool.or_false])
            have hA : ∀ nv : Int32, nv = bI (MK i || alk (FL.getD i []) x 7) → ∀ i9, i9 < FL.length → upd mt i nv i9 = bI (MK i9 || (decide (i9 < i + 1) && alk (FL.getD i9 []) x 7)) := (by
              intro nv hnv i9 q9
              by_cases e9 : i9 = i
              · subst e9
                rw [decide_eq_true (Nat.lt_succ_self i9), Bool.true_and]
                exact (if_pos rfl).trans hnv
              · refine (if_neg e9).trans ((a2 i9 q9).trans ?_)
                congr 3
                exact decide_eq_decide.mpr (by omega))
            have hh := fun nv hnv => ih (i + 1) (va_up h (b + 260) (some (.inl (G.2.2.1 2, 1500, .inl (upd mt i nv))))) (upd mt i nv) (by omega) sv_us (hA nv hnv) (fun a p => (sv_un p).trans (fr a p))
            rw [tk9] at hh
            cases hm9_ : MK i <;> cases ha9 : alk (FL.getD i []) x 7 <;> cases hf9 : (FL.take i).any (fun y => alk y x 7) <;> first
              | (rw [hm9_] at c_79; exact absurd rfl c_79)
              | (rw [hm9_] at c_79; exact absurd c_79 bI_tn)
              | (rw [ha9] at c_84; exact absurd rfl c_84)
              | (rw [ha9] at c_84; exact absurd c_84 bI_tn)
              | (rw [hf9] at c_94; exact absurd rfl c_94)
              | (rw [hf9] at c_94; exact absurd c_94 bI_tn)
              | (rw [ha9] at c_99; exact absurd rfl c_99)
              | (rw [ha9] at c_99; exact absurd c_99 bI_tn)
              | (rw [hm9_, ha9, hf9] at hh; exact hh 1 rfl)
              | (rw [hm9_, ha9, hf9] at hh; exact hh 0 rfl)
          · refine v_iconst (v := 1) dX13_mark_102 (by decide) ?_
            refine v_goto (tgt := 107) dX13_mark_103 (by decide) ?_
            refine v_istore_n (L' := [(2, _), (4, _), (3, _), (1, _), (0, _)]) dX13_mark_107 rfl (Nat.le_of_ble_eq_true rfl) rfl ?_
            refine v_iinc (j := 2) (L' := [(3, _), (2, _), (4, _), (1, _), (0, _)]) (v := nI (i + 1)) dX13_mark_108 rfl (nI_1 _) (Nat.le_of_ble_eq_true rfl) rfl ?_
            refine v_goto (tgt := 4) dX13_mark_111 (by decide) ?_
            refine v_sub (L' := [(3, _), (2, _), (1, _), (0, _)]) [0, 1, 3, 4] rfl ?_
            rw [nI_clamp (show i < 2 ^ 31 by omega)]
            have tk9 : (FL.take (i + 1)).any (fun y => alk y x 7) = ((FL.take i).any (fun y => alk y x 7) || alk (FL.getD i []) x 7) := (by
              rw [tk_s9 [] hi, List.any_append]
              show (_ || (alk (FL.getD i []) x 7 || false)) = _
              rw [Bool.or_false])
            have hA : ∀ nv : Int32, nv = bI (MK i || alk (FL.getD i []) x 7) → ∀ i9, i9 < FL.length → upd mt i nv i9 = bI (MK i9 || (decide (i9 < i + 1) && alk (FL.getD i9 []) x 7)) := (by
              intro nv hnv i9 q9
              by_cases e9 : i9 = i
              · subst e9
                rw [decide_eq_true (Nat.lt_succ_self i9), Bool.true_and]
                exact (if_pos rfl).trans hnv
              · refine (if_neg e9).trans ((a2 i9 q9).trans ?_)
                congr 3
                exact decide_eq_decide.mpr (by omega))
            have hh := fun nv hnv => ih (i + 1) (va_up h (b + 260) (some (.inl (G.2.2.1 2, 1500, .inl (upd mt i nv))))) (upd mt i nv) (by omega) sv_us (hA nv hnv) (fun a p => (sv_un p).trans (fr a p))
            rw [tk9] at hh
            cases hm9_ : MK i <;> cases ha9 : alk (FL.getD i []) x 7 <;> cases hf9 : (FL.take i).any (fun y => alk y x 7) <;> first
              | (rw [hm9_] at c_79; exact absurd rfl c_79)
              | (rw [hm9_] at c_79; exact absurd c_79 bI_tn)
              | (rw [ha9] at c_84; exact absurd rfl c_84)
              | (rw [ha9] at c_84; exact absurd c_84 bI_tn)
              | (rw [hf9] at c_94; exact absurd rfl c_94)
              | (rw [hf9] at c_94; exact absurd c_94 bI_tn)
              | (rw [ha9] at c_99; exact absurd rfl c_99)
              | (rw [ha9] at c_99; exact absurd c_99 bI_tn)
              | (rw [hm9_, ha9, hf9] at hh; exact hh 1 rfl)
              | (rw [hm9_, ha9, hf9] at hh; exact hh 0 rfl)
      · refine v_iload dX13_mark_82 0 rfl ?_
        refine v_if_eq (tgt := 91) dX13_mark_84 (by decide) (fun c_84 => ?_) (fun c_84 => ?_)
        · refine v_iconst (v := 0) dX13_mark_91 (by decide) ?_
          refine v_zast (y := 0) dX13_mark_92 (by repeat (first | with_reducible assumption | (with_reducible refine sv_us.trans ?_; exact rfl) | with_reducible refine (sv_un (by omega)).trans ?_)) (vp_in_nI (by omega) (by omega)) rfl ?_
          refine v_iload_n dX13_mark_93 rfl 2 rfl ?_
          refine v_if_ne (tgt := 102) dX13_mark_94 (by decide) (fun c_94 => ?_) (fun c_94 => ?_)
          · refine v_iconst (v := 1) dX13_mark_102 (by decide) ?_
            refine v_goto (tgt := 107) dX13_mark_103 (by decide) ?_
            refine v_istore_n (L' := [(2, _), (4, _), (3, _), (1, _), (0, _)]) dX13_mark_107 rfl (Nat.le_of_ble_eq_true rfl) rfl ?_
            refine v_iinc (j := 2) (L' := [(3, _), (2, _), (4, _), (1, _), (0, _)]) (v := nI (i + 1)) dX13_mark_108 rfl (nI_1 _) (Nat.le_of_ble_eq_true rfl) rfl ?_
            refine v_goto (tgt := 4) dX13_mark_111 (by decide) ?_
            refine v_sub (L' := [(3, _), (2, _), (1, _), (0, _)]) [0, 1, 3, 4] rfl ?_
            rw [nI_clamp (show i < 2 ^ 31 by omega)]
            have tk9 : (FL.take (i + 1)).any (fun y => alk y x 7) = ((FL.take i).any (fun y => alk y x 7) || alk (FL.getD i []) x 7) := (by
              rw [tk_s9 [] hi, List.any_append]
              show (_ || (alk (FL.getD i []) x 7 || false)) = _
              rw [Bool.or_false])
            have hA : ∀ nv : Int32, nv = bI (MK i || alk (FL.getD i []) x 7) → ∀ i9, i9 < FL.length → upd mt i nv i9 = bI (MK i9 || (decide (i9 < i + 1) && alk (FL.getD i9 []) x 7)) := (by
              intro nv hnv i9 q9
              by_cases e9 : i9 = i
              · subst e9
                rw [decide_eq_true (Nat.lt_succ_self i9), Bool.true_and]
                exact (if_pos rfl).trans hnv
              · refine (if_neg e9).trans ((a2 i9 q9).trans ?_)
                congr 3
                exact decide_eq_decide.mpr (by omega))
            have hh := fun nv hnv => ih (i + 1) (va_up h (b + 260) (some (.inl (G.2.2.1 2, 1500, .inl (upd mt i nv))))) (upd mt i nv) (by omega) sv_us (hA nv hnv) (fun a p => (sv_un p).trans (fr a p))
            rw [tk9] at hh
            cases hm9_ : MK i <;> cases ha9 : alk (FL.getD i []) x 7 <;> cases hf9 : (FL.take i).any (fun y => alk y x 7) <;> first
              | (rw [hm9_] at c_79; exact absurd rfl c_79)
              | (rw [hm9_] at c_79; exact absurd c_79 bI_tn)
              | (rw [ha9] at c_84; exact absurd rfl c_84)
              | (rw [ha9] at c_84; exact absurd c_84 bI_tn)
              | (rw [hf9] at c_94; exact absurd rfl c_94)
              | (rw [hf9] at c_94; exact absurd c_94 bI_tn)
              | (rw [ha9] at c_99; exact absurd rfl c_99)
              | (rw [ha9] at c_99; exact absurd c_99 bI_tn)
              | (rw [hm9_, ha9, hf9] at hh; exact hh 1 rfl)
              | (rw [hm9_, ha9, hf9] at hh; exact hh 0 rfl)
          · refine v_iload dX13_mark_97 0 rfl ?_
            refine v_if_eq (tgt := 106) dX13_mark_99 (by decide) (fun c_99 => ?_) (fun c_99 => ?_)
            · refine v_iconst (v := 0) dX13_mark_106 (by decide) ?_
              refine v_istore_n (L' := [(2, _), (4, _), (3, _), (1, _), (0, _)]) dX13_mark_107 rfl (Nat.le_of_ble_eq_true rfl) rfl ?_
              refine v_iinc (j := 2) (L' := [(3, _), (2, _), (4, _), (1, _), (0, _)]) (v := nI (i + 1)) dX13_mark_108 rfl (nI_1 _) (Nat.le_of_ble_eq_true rfl) rfl ?_
              refine v_goto (tgt := 4) dX13_mark_111 (by decide) ?_
              refine v_sub (L' := [(3, _), (2, _), (1, _), (0, _)]) [0, 1, 3, 4] rfl ?_
              rw [nI_clamp (show i < 2 ^ 31 by omega)]
              have tk9 : (FL.take (i + 1)).any (fun y => alk y x 7) = ((FL.take i).any (fun y => alk y x 7) || alk (FL.getD i []) x 7) := (by
                rw [tk_s9 [] hi, List.any_append]
                show (_ || (alk (FL.getD i []) x 7 || false)) = _
                rw [Bool.or_false])
              have hA : ∀ nv : Int32, nv = bI (MK i || alk (FL.getD i []) x 7) → ∀ i9, i9 < FL.length → upd mt i nv i9 = bI (MK i9 || (decide (i9 < i + 1) && alk (FL.getD i9 []) x 7)) := (by
                intro nv hnv i9 q9
                by_cases e9 : i9 = i
                · subst e9
                  rw [decide_eq_true (Nat.lt_succ_self i9), Bool.true_and]
                  exact (if_pos rfl).trans hnv
                · refine (if_neg e9).trans ((a2 i9 q9).trans ?_)
                  congr 3
                  exact decide_eq_decide.mpr (by omega))
              have hh := fun nv hnv => ih (i + 1) (va_up h (b + 260) (some (.inl (G.2.2.1 2, 1500, .inl (upd mt i nv))))) (upd mt i nv) (by omega) sv_us (hA nv hnv) (fun a p => (sv_un p).trans (fr a p))
              rw [tk9] at hh
              cases hm9_ : MK i <;> cases ha9 : alk (FL.getD i []) x 7 <;> cases hf9 : (FL.take i).any (fun y => alk y x 7) <;> first
                | (rw [hm9_] at c_79; exact absurd rfl c_79)
                | (rw [hm9_] at c_79; exact absurd c_79 bI_tn)
                | (rw [ha9] at c_84; exact absurd rfl c_84)
                | (rw [ha9] at c_84; exact absurd c_84 bI_tn)
                | (rw [hf9] at c_94; exact absurd rfl c_94)
                | (rw [hf9] at c_94; exact absurd c_94 bI_tn)
                | (rw [ha9] at c_99; exact absurd rfl c_99)
                | (rw [ha9] at c_99; exact absurd c_99 bI_tn)
                | (rw [hm9_, ha9, hf9] at hh; exact hh 1 rfl)
                | (rw [hm9_, ha9, hf9] at hh; exact hh 0 rfl)
            · refine v_iconst (v := 1) dX13_mark_102 (by decide) ?_
              refine v_goto (tgt := 107) dX13_mark_103 (by decide) ?_
              refine v_istore_n (L' := [(2, _), (4, _), (3, _), (1, _), (0, _)]) dX13_mark_107 rfl (Nat.le_of_ble_eq_true rfl) rfl ?_
              refine v_iinc (j := 2) (L' := [(3, _), (2, _), (4, _), (1, _), (0, _)]) (v := nI (i + 1)) dX13_mark_108 rfl (nI_1 _) (Nat.le_of_ble_eq_true rfl) rfl ?_
              refine v_goto (tgt := 4) dX13_mark_111 (by decide) ?_
              refine v_sub (L' := [(3, _), (2, _), (1, _), (0, _)]) [0, 1, 3, 4] rfl ?_
              rw [nI_clamp (show i < 2 ^ 31 by omega)]
              have tk9 : (FL.take (i + 1)).any (fun y => alk y x 7) = ((FL.take i).any (fun y => alk y x 7) || alk (FL.getD i []) x 7) := (by
                rw [tk_s9 [] hi, List.any_append]
                show (_ || (alk (FL.getD i []) x 7 || false)) = _
                rw [Bool.or_false])
              have hA : ∀ nv : Int32, nv = bI (MK i || alk (FL.getD i []) x 7) → ∀ i9, i9 < FL.length → upd mt i nv i9 = bI (MK i9 || (decide (i9 < i + 1) && alk (FL.getD i9 []) x 7)) := (by
                intro nv hnv i9 q9
                by_cases e9 : i9 = i
                · subst e9
                  rw [decide_eq_true (Nat.lt_succ_self i9), Bool.true_and]
                  exact (if_pos rfl).trans hnv
                · refine (if_neg e9).trans ((a2 i9 q9).trans ?_)
                  congr 3
                  exact decide_eq_decide.mpr (by omega))
              have hh := fun nv hnv => ih (i + 1) (va_up h (b + 260) (some (.inl (G.2.2.1 2, 1500, .inl (upd mt i nv))))) (upd mt i nv) (by omega) sv_us (hA nv hnv) (fun a p => (sv_un p).trans (fr a p))
              rw [tk9] at hh
              cases hm9_ : MK i <;> cases ha9 : alk (FL.getD i []) x 7 <;> cases hf9 : (FL.take i).any (fun y => alk y x 7) <;> first
                | (rw [hm9_] at c_79; exact absurd rfl c_79)
                | (rw [hm9_] at c_79; exact absurd c_79 bI_tn)
                | (rw [ha9] at c_84; exact absurd rfl c_84)
                | (rw [ha9] at c_84; exact absurd c_84 bI_tn)
                | (rw [hf9] at c_94; exact absurd rfl c_94)
                | (rw [hf9] at c_94; exact absurd c_94 bI_tn)
                | (rw [ha9] at c_99; exact absurd rfl c_99)
                | (rw [ha9] at c_99; exact absurd c_99 bI_tn)
                | (rw [hm9_, ha9, hf9] at hh; exact hh 1 rfl)
                | (rw [hm9_, ha9, hf9] at hh; exact hh 0 rfl)
        · refine v_iconst (v := 1) dX13_mark_87 (by decide) ?_
          refine v_goto (tgt := 92) dX13_mark_88 (by decide) ?_
          refine v_zast (y := 1) dX13_mark_92 (by repeat (first | with_reducible assumption | (with_reducible refine sv_us.trans ?_; exact rfl) | with_reducible refine (sv_un (by omega)).trans ?_)) (vp_in_nI (by omega) (by omega)) rfl ?_
          refine v_iload_n dX13_mark_93 rfl 2 rfl ?_
          refine v_if_ne (tgt := 102) dX13_mark_94 (by decide) (fun c_94 => ?_) (fun c_94 => ?_)
          · refine v_iconst (v := 1) dX13_mark_102 (by decide) ?_
            refine v_goto (tgt := 107) dX13_mark_103 (by decide) ?_
            refine v_istore_n (L' := [(2, _), (4, _), (3, _), (1, _), (0, _)]) dX13_mark_107 rfl (Nat.le_of_ble_eq_true rfl) rfl ?_
            refine v_iinc (j := 2) (L' := [(3, _), (2, _), (4, _), (1, _), (0, _)]) (v := nI (i + 1)) dX13_mark_108 rfl (nI_1 _) (Nat.le_of_ble_eq_true rfl) rfl ?_
            refine v_goto (tgt := 4) dX13_mark_111 (by decide) ?_
            refine v_sub (L' := [(3, _), (2, _), (1, _), (0, _)]) [0, 1, 3, 4] rfl ?_
            rw [nI_clamp (show i < 2 ^ 31 by omega)]
            have tk9 : (FL.take (i + 1)).any (fun y => alk y x 7) = ((FL.take i).any (fun y => alk y x 7) || alk (FL.getD i []) x 7) := (by
              rw [tk_s9 [] hi, List.any_append]
              show (_ || (alk (FL.getD i []) x 7 || false)) = _
              rw [Bool.or_false])
            have hA : ∀ nv : Int32, nv = bI (MK i || alk (FL.getD i []) x 7) → ∀ i9, i9 < FL.length → upd mt i nv i9 = bI (MK i9 || (decide (i9 < i + 1) && alk (FL.getD i9 []) x 7)) := (by
              intro nv hnv i9 q9
              by_cases e9 : i9 = i
              · subst e9
                rw [decide_eq_true (Nat.lt_succ_self i9), Bool.true_and]
                exact (if_pos rfl).trans hnv
              · refine (if_neg e9).trans ((a2 i9 q9).trans ?_)
                congr 3
                exact decide_eq_decide.mpr (by omega))
            have hh := fun nv hnv => ih (i + 1) (va_up h (b + 260) (some (.inl (G.2.2.1 2, 1500, .inl (upd mt i nv))))) (upd mt i nv) (by omega) sv_us (hA nv hnv) (fun a p => (sv_un p).trans (fr a p))
            rw [tk9] at hh
            cases hm9_ : MK i <;> cases ha9 : alk (FL.getD i []) x 7 <;> cases hf9 : (FL.take i).any (fun y => alk y x 7) <;> first
              | (rw [hm9_] at c_79; exact absurd rfl c_79)
              | (rw [hm9_] at c_79; exact absurd c_79 bI_tn)
              | (rw [ha9] at c_84; exact absurd rfl c_84)
              | (rw [ha9] at c_84; exact absurd c_84 bI_tn)
              | (rw [hf9] at c_94; exact absurd rfl c_94)
              | (rw [hf9] at c_94; exact absurd c_94 bI_tn)
              | (rw [ha9] at c_99; exact absurd rfl c_99)
              | (rw [ha9] at c_99; exact absurd c_99 bI_tn)
              | (rw [hm9_, ha9, hf9] at hh; exact hh 1 rfl)
              | (rw [hm9_, ha9, hf9] at hh; exact hh 0 rfl)
          · refine v_iload dX13_mark_97 0 rfl ?_
            refine v_if_eq (tgt := 106) dX13_mark_99 (by decide) (fun c_99 => ?_) (fun c_99 => ?_)
            · refine v_iconst (v := 0) dX13_mark_106 (by decide) ?_
              refine v_istore_n (L' := [(2, _), (4, _), (3, _), (1, _), (0, _)]) dX13_mark_107 rfl (Nat.le_of_ble_eq_true rfl) rfl ?_
              refine v_iinc (j := 2) (L' := [(3, _), (2, _), (4, _), (1, _), (0, _)]) (v := nI (i + 1)) dX13_mark_108 rfl (nI_1 _) (Nat.le_of_ble_eq_true rfl) rfl ?_
              refine v_goto (tgt := 4) dX13_mark_111 (by decide) ?_
              refine v_sub (L' := [(3, _), (2, _), (1, _), (0, _)]) [0, 1, 3, 4] rfl ?_
              rw [nI_clamp (show i < 2 ^ 31 by omega)]
              have tk9 : (FL.take (i + 1)).any (fun y => alk y x 7) = ((FL.take i).any (fun y => alk y x 7) || alk (FL.getD i []) x 7) := (by
                rw [tk_s9 [] hi, List.any_append]
                show (_ || (alk (FL.getD i []) x 7 || false)) = _
                rw [Bool.or_false])
              have hA : ∀ nv : Int32, nv = bI (MK i || alk (FL.getD i []) x 7) → ∀ i9, i9 < FL.length → upd mt i nv i9 = bI (MK i9 || (decide (i9 < i + 1) && alk (FL.getD i9 []) x 7)) := (by
                intro nv hnv i9 q9
                by_cases e9 : i9 = i
                · subst e9
                  rw [decide_eq_true (Nat.lt_succ_self i9), Bool.true_and]
                  exact (if_pos rfl).trans hnv
                · refine (if_neg e9).trans ((a2 i9 q9).trans ?_)
                  congr 3
                  exact decide_eq_decide.mpr (by omega))
              have hh := fun nv hnv => ih (i + 1) (va_up h (b + 260) (some (.inl (G.2.2.1 2, 1500, .inl (upd mt i nv))))) (upd mt i nv) (by omega) sv_us (hA nv hnv) (fun a p => (sv_un p).trans (fr a p))
              rw [tk9] at hh
              cases hm9_ : MK i <;> cases ha9 : alk (FL.getD i []) x 7 <;> cases hf9 : (FL.take i).any (fun y => alk y x 7) <;> first
                | (rw [hm9_] at c_79; exact absurd rfl c_79)
                | (rw [hm9_] at c_79; exact absurd c_79 bI_tn)
                | (rw [ha9] at c_84; exact absurd rfl c_84)
                | (rw [ha9] at c_84; exact absurd c_84 bI_tn)
                | (rw [hf9] at c_94; exact absurd rfl c_94)
                | (rw [hf9] at c_94; exact absurd c_94 bI_tn)
                | (rw [ha9] at c_99; exact absurd rfl c_99)
                | (rw [ha9] at c_99; exact absurd c_99 bI_tn)
                | (rw [hm9_, ha9, hf9] at hh; exact hh 1 rfl)
                | (rw [hm9_, ha9, hf9] at hh; exact hh 0 rfl)
            · refine v_iconst (v := 1) dX13_mark_102 (by decide) ?_
              refine v_goto (tgt := 107) dX13_mark_103 (by decide) ?_
              refine v_istore_n (L' := [(2, _), (4, _), (3, _), (1, _), (0, _)]) dX13_mark_107 rfl (Nat.le_of_ble_eq_true rfl) rfl ?_
              refine v_iinc (j := 2) (L' := [(3, _), (2, _), (4, _), (1, _), (0, _)]) (v := nI (i + 1)) dX13_mark_108 rfl (nI_1 _) (Nat.le_of_ble_eq_true rfl) rfl ?_
              refine v_goto (tgt := 4) dX13_mark_111 (by decide) ?_
              refine v_sub (L' := [(3, _), (2, _), (1, _), (0, _)]) [0, 1, 3, 4] rfl ?_
              rw [nI_clamp (show i < 2 ^ 31 by omega)]
              have tk9 : (FL.take (i + 1)).any (fun y => alk y x 7) = ((FL.take i).any (fun y => alk y x 7) || alk (FL.getD i []) x 7) := (by
                rw [tk_s9 [] hi, List.any_append]
                show (_ || (alk (FL.getD i []) x 7 || false)) = _
                rw [Bool.or_false])
              have hA : ∀ nv : Int32, nv = bI (MK i || alk (FL.getD i []) x 7) → ∀ i9, i9 < FL.length → upd mt i nv i9 = bI (MK i9 || (decide (i9 < i + 1) && alk (FL.getD i9 []) x 7)) := (by
                intro nv hnv i9 q9
                by_cases e9 : i9 = i
                · subst e9
                  rw [decide_eq_true (Nat.lt_succ_self i9), Bool.true_and]
                  exact (if_pos rfl).trans hnv
                · refine (if_neg e9).trans ((a2 i9 q9).trans ?_)
                  congr 3
                  exact decide_eq_decide.mpr (by omega))
              have hh := fun nv hnv => ih (i + 1) (va_up h (b + 260) (some (.inl (G.2.2.1 2, 1500, .inl (upd mt i nv))))) (upd mt i nv) (by omega) sv_us (hA nv hnv) (fun a p => (sv_un p).trans (fr a p))
              rw [tk9] at hh
              cases hm9_ : MK i <;> cases ha9 : alk (FL.getD i []) x 7 <;> cases hf9 : (FL.take i).any (fun y => alk y x 7) <;> first
                | (rw [hm9_] at c_79; exact absurd rfl c_79)
                | (rw [hm9_] at c_79; exact absurd c_79 bI_tn)
                | (rw [ha9] at c_84; exact absurd rfl c_84)
                | (rw [ha9] at c_84; exact absurd c_84 bI_tn)
                | (rw [hf9] at c_94; exact absurd rfl c_94)
                | (rw [hf9] at c_94; exact absurd c_94 bI_tn)
                | (rw [ha9] at c_99; exact absurd rfl c_99)
                | (rw [ha9] at c_99; exact absurd c_99 bI_tn)
                | (rw [hm9_, ha9, hf9] at hh; exact hh 1 rfl)
                | (rw [hm9_, ha9, hf9] at hh; exact hh 0 rfl)

set_option maxHeartbeats 4000000 in
set_option maxRecDepth 100000 in
theorem m_mark (G : sv_G) (z b nc np pl : Nat) (hb : sv_h) (fs0 : List Value) (hq0 : mfq_ b nc np pl fs0) (hm0 : hb (b + 220) = some (.inr (11, fs0))) (FL : List (List Int64)) (hF15 : FL.length ≤ 1500) (f64 : fs0[64]? = some (.int (nI FL.length))) (ft : Nat → Int64) (A59 : ab_J G hb (b + 259) 10500 ft) (hft : ∀ k9 j9, k9 < FL.length → j9 < 7 → ft (7 * k9 + j9) = (FL.getD k9 []).getD j9 0) (r : Nat) (hr : r < 1500) (gt : Nat → Int64) (t41 : ab_J G hb (b + 241) 36048 gt) (x : List Int64) (hx : ∀ j, j < 7 → gt (12 * r + j) = x.getD j 0) (MK : Nat → Bool) (mt : Nat → Int32) (A60 : ab_Z G hb (b + 260) 1500 mt) (hmt : ∀ i9, i9 < FL.length → mt i9 = bI (MK i9)) : CT G mX13_mark [.ref (b + 220), .int (nI (12 * r))] hb z (fun v h1 z1 => v = some (.int (bI (FL.any (fun y => alk y x 7)))) ∧ z1 = z ∧ (∃ mt1, ab_Z G h1 (b + 260) 1500 mt1 ∧ ∀ i9, i9 < FL.length → mt1 i9 = bI (MK i9 || alk (FL.getD i9 []) x 7)) ∧ ∀ a, a ≠ b + 260 → h1 a = hb a) := by
  refine CT.of (by decide +kernel) rfl rfl (Nat.le_of_ble_eq_true rfl) ?_
  refine v_iconst (v := 0) dX13_mark_0 (by decide) ?_
  refine v_istore_n (L' := [(2, _), (0, _), (1, _)]) dX13_mark_1 rfl (Nat.le_of_ble_eq_true rfl) rfl ?_
  refine v_iconst (v := 0) dX13_mark_2 (by decide) ?_
  refine v_istore_n (L' := [(3, _), (2, _), (0, _), (1, _)]) dX13_mark_3 rfl (Nat.le_of_ble_eq_true rfl) rfl ?_
  refine v_sub (L' := [(3, _), (2, _), (1, _), (0, _)]) [0, 1, 3, 2] rfl ?_
  refine l_mk G _ _ b nc np pl hb fs0 hq0 hm0 FL hF15 f64 ft A59 hft r hr gt t41 x hx MK (fun h2 mt2 v1 v2 v3 => ?_) FL.length 0 hb mt (Nat.zero_add _) A60 (fun i9 q9 => (hmt i9 q9).trans (by rw [decide_eq_false (Nat.not_lt_zero i9), Bool.false_and, Bool.or_false])) (fun _ _ => rfl)
  rw [List.take_length]
  exact ⟨rfl, rfl, ⟨mt2, v1, fun i9 q9 => (v2 i9 q9).trans (by rw [decide_eq_true q9, Bool.true_and])⟩, v3⟩

