section GU
variable {gu : Nat → Int64}
theorem iwX13_keepFlat_X13 : ∀ w ∈ wsX130, w ∈ wsX13_keepFlat := by decide +kernel
set_option maxRecDepth 20000 in
theorem ggX13_keepFlat_X13_isWaived : GoodIn wsX13_keepFlat wsX13_isWaived := goodIn_r _ [9, 10, 11, 12, 4, 13, 14, 15, 16, 17, 18, 19, 20, 21, 22, 23, 24, 25, 26, 27, 28, 29, 30, 31, 32, 33, 34, 35, 36, 37, 38, 39, 40, 41, 42, 43, 44, 45, 46, 47, 48, 49, 50, 51, 52, 53, 54, 55, 56, 57, 58, 59, 60, 61, 62, 63, 64, 65, 66, 67, 68, 69, 70, 71, 72, 73, 74, 75, 76, 77, 78, 79, 80, 81, 82, 83] (by decide +kernel) (by decide +kernel)
set_option maxRecDepth 20000 in
theorem gX13_keepFlat_X13_isWaived : GoodIn wsX13_keepFlat (wsV RX13 327 RX13 yX13_isWaived wsX13_isWaived) := goodIn_app (goodIn_of _ (by decide +kernel)) ggX13_keepFlat_X13_isWaived
theorem dX13_keepFlat_0 : decode cX13_keepFlat 0 = .ok (.aload_n 0, 1) := by decide +kernel
theorem dX13_keepFlat_1 : decode cX13_keepFlat 1 = .ok (.iconst 0, 1) := by decide +kernel
theorem dX13_keepFlat_2 : decode cX13_keepFlat 2 = .ok (.putfield 362, 3) := by decide +kernel
theorem dX13_keepFlat_5 : decode cX13_keepFlat 5 = .ok (.iconst 0, 1) := by decide +kernel
theorem dX13_keepFlat_6 : decode cX13_keepFlat 6 = .ok (.istore_n 1, 1) := by decide +kernel
theorem dX13_keepFlat_7 : decode cX13_keepFlat 7 = .ok (.iload_n 1, 1) := by decide +kernel
theorem dX13_keepFlat_8 : decode cX13_keepFlat 8 = .ok (.aload_n 0, 1) := by decide +kernel
theorem dX13_keepFlat_9 : decode cX13_keepFlat 9 = .ok (.getfield 257, 3) := by decide +kernel
theorem dX13_keepFlat_12 : decode cX13_keepFlat 12 = .ok (.if_icmp .ge 72, 3) := by decide +kernel
theorem dX13_keepFlat_15 : decode cX13_keepFlat 15 = .ok (.aload_n 0, 1) := by decide +kernel
theorem dX13_keepFlat_16 : decode cX13_keepFlat 16 = .ok (.bipush 12, 2) := by decide +kernel
theorem dX13_keepFlat_18 : decode cX13_keepFlat 18 = .ok (.iload_n 1, 1) := by decide +kernel
theorem dX13_keepFlat_19 : decode cX13_keepFlat 19 = .ok (.imul, 1) := by decide +kernel
theorem dX13_keepFlat_20 : decode cX13_keepFlat 20 = .ok (.invokevirtual 327, 3) := by decide +kernel
theorem dX13_keepFlat_23 : decode cX13_keepFlat 23 = .ok (.ifCond .eq 6, 3) := by decide +kernel
theorem dX13_keepFlat_26 : decode cX13_keepFlat 26 = .ok (.goto 52, 3) := by decide +kernel
theorem dX13_keepFlat_29 : decode cX13_keepFlat 29 = .ok (.iconst 0, 1) := by decide +kernel
theorem dX13_keepFlat_30 : decode cX13_keepFlat 30 = .ok (.istore_n 2, 1) := by decide +kernel
theorem dX13_keepFlat_31 : decode cX13_keepFlat 31 = .ok (.iload_n 2, 1) := by decide +kernel
theorem dX13_keepFlat_32 : decode cX13_keepFlat 32 = .ok (.bipush 7, 2) := by decide +kernel
theorem dX13_keepFlat_34 : decode cX13_keepFlat 34 = .ok (.if_icmp .ge 34, 3) := by decide +kernel
theorem dX13_keepFlat_37 : decode cX13_keepFlat 37 = .ok (.aload_n 0, 1) := by decide +kernel
theorem dX13_keepFlat_38 : decode cX13_keepFlat 38 = .ok (.getfield 131, 3) := by decide +kernel
theorem dX13_keepFlat_41 : decode cX13_keepFlat 41 = .ok (.bipush 7, 2) := by decide +kernel
theorem dX13_keepFlat_43 : decode cX13_keepFlat 43 = .ok (.aload_n 0, 1) := by decide +kernel
theorem dX13_keepFlat_44 : decode cX13_keepFlat 44 = .ok (.getfield 362, 3) := by decide +kernel
theorem dX13_keepFlat_47 : decode cX13_keepFlat 47 = .ok (.imul, 1) := by decide +kernel
theorem dX13_keepFlat_48 : decode cX13_keepFlat 48 = .ok (.iload_n 2, 1) := by decide +kernel
theorem dX13_keepFlat_49 : decode cX13_keepFlat 49 = .ok (.iadd, 1) := by decide +kernel
theorem dX13_keepFlat_50 : decode cX13_keepFlat 50 = .ok (.aload_n 0, 1) := by decide +kernel
theorem dX13_keepFlat_51 : decode cX13_keepFlat 51 = .ok (.getfield 72, 3) := by decide +kernel
theorem dX13_keepFlat_54 : decode cX13_keepFlat 54 = .ok (.bipush 12, 2) := by decide +kernel
theorem dX13_keepFlat_56 : decode cX13_keepFlat 56 = .ok (.iload_n 1, 1) := by decide +kernel
theorem dX13_keepFlat_57 : decode cX13_keepFlat 57 = .ok (.imul, 1) := by decide +kernel
theorem dX13_keepFlat_58 : decode cX13_keepFlat 58 = .ok (.iload_n 2, 1) := by decide +kernel
theorem dX13_keepFlat_59 : decode cX13_keepFlat 59 = .ok (.iadd, 1) := by decide +kernel
theorem dX13_keepFlat_60 : decode cX13_keepFlat 60 = .ok (.laload, 1) := by decide +kernel
theorem dX13_keepFlat_61 : decode cX13_keepFlat 61 = .ok (.lastore, 1) := by decide +kernel
theorem dX13_keepFlat_62 : decode cX13_keepFlat 62 = .ok (.iinc 2 1, 3) := by decide +kernel
theorem dX13_keepFlat_65 : decode cX13_keepFlat 65 = .ok (.goto (-34), 3) := by decide +kernel
theorem dX13_keepFlat_68 : decode cX13_keepFlat 68 = .ok (.aload_n 0, 1) := by decide +kernel
theorem dX13_keepFlat_69 : decode cX13_keepFlat 69 = .ok (.dup, 1) := by decide +kernel
theorem dX13_keepFlat_70 : decode cX13_keepFlat 70 = .ok (.getfield 362, 3) := by decide +kernel
theorem dX13_keepFlat_73 : decode cX13_keepFlat 73 = .ok (.iconst 1, 1) := by decide +kernel
theorem dX13_keepFlat_74 : decode cX13_keepFlat 74 = .ok (.iadd, 1) := by decide +kernel
theorem dX13_keepFlat_75 : decode cX13_keepFlat 75 = .ok (.putfield 362, 3) := by decide +kernel
theorem dX13_keepFlat_78 : decode cX13_keepFlat 78 = .ok (.iinc 1 1, 3) := by decide +kernel
theorem dX13_keepFlat_81 : decode cX13_keepFlat 81 = .ok (.goto (-74), 3) := by decide +kernel
theorem dX13_keepFlat_84 : decode cX13_keepFlat 84 = .ok (.return_, 1) := by decide +kernel

abbrev mX13_keepFlat : sv_M := (cX13_keepFlat, 3, yX13_keepFlat, wsX13_keepFlat, none, { frames := 4, cells := 0, slots := 0, locals := 100 }, [])
theorem tk_s9 {α : Type} (d : α) {l : List α} {x : Nat} (h : x < l.length) : l.take (x + 1) = l.take x ++ [l.getD x d] := by
  rw [List.take_succ, List.getD_eq_getElem?_getD, List.getElem?_eq_getElem h]; rfl
theorem sv_7m (r : Nat) : 7 * nI r = nI (7 * r) := by rw [show (7 : Int32) = nI 7 from rfl, sv_nm2]
set_option maxHeartbeats 4000000 in
set_option maxRecDepth 100000 in
theorem l_kfI (G : sv_G) (Qr : Option Value → sv_h → Nat → Prop) (z b nc np pl : Nat) (hb : sv_h) (fs0 : List Value) (hq0 : mfq_ b nc np pl fs0) (hm0 : hb (b + 220) = some (.inr (11, fs0))) (E : List (List Int64)) (hE15 : E.length ≤ 1500) (T : mT_ gu G hb b fs0 E) (nw : Nat) (hnw : nw ≤ 40) (h33 : fs0[33]? = some (.int (nI nw))) (rl : Int32) (h58 : fs0[58]? = some (.int rl)) (wr wf : Nat → Int64) (w42 : ab_J G hb (b + 242) 320 wf) (hwr : ∀ k, k < nw → ∀ j, j < 8 → wf (8 * k + ab_wc j) = wr (8 * k + j)) (i : Nat) (hi : i < E.length) (hn : ((E.take i).filter (fun x => !cvB wr nw rl x)).length < 1500) (fs : List Value) (hl : fs.length = 71) (hE : fsE [64] fs0 fs) (f64 : fs[64]? = some (.int (nI ((E.take i).filter (fun x => !cvB wr nw rl x)).length))) (hk : ∀ (h : sv_h) (ft : Nat → Int64), h (b + 220) = some (.inr (11, fs)) → ab_J G h (b + 259) 10500 ft → (∀ k9 j9, k9 < ((E.take i).filter (fun x => !cvB wr nw rl x)).length → j9 < 7 → ft (7 * k9 + j9) = (((E.take i).filter (fun x => !cvB wr nw rl x)).getD k9 []).getD j9 0) → (∀ j9, j9 < 7 → ft (7 * ((E.take i).filter (fun x => !cvB wr nw rl x)).length + j9) = (E.getD i []).getD j9 0) → (∀ a, a ≠ b + 220 → a ≠ b + 259 → h a = hb a) → V G mX13_keepFlat (sv_MQ G mX13_keepFlat Qr) 68 [(1, .int (nI i)), (0, .ref (b + 220))] [] h z 0 0) : ∀ (e j : Nat) (h : sv_h) (ft : Nat → Int64), j + e = 7 → h (b + 220) = some (.inr (11, fs)) → ab_J G h (b + 259) 10500 ft → (∀ k9 j9, k9 < ((E.take i).filter (fun x => !cvB wr nw rl x)).length → j9 < 7 → ft (7 * k9 + j9) = (((E.take i).filter (fun x => !cvB wr nw rl x)).getD k9 []).getD j9 0) → (∀ j9, j9 < j → ft (7 * ((E.take i).filter (fun x => !cvB wr nw rl x)).length + j9) = (E.getD i []).getD j9 0) → (∀ a, a ≠ b + 220 → a ≠ b + 259 → h a = hb a) → V G mX13_keepFlat (sv_MQ G mX13_keepFlat Qr) 31 [(2, .int (nI j)), (1, .int (nI i)), (0, .ref (b + 220))] [] h z 0 0 := by
  intro e
  induction e with
  | zero =>
    intro j h ft hje hm9 a1 a2 a3 fr
    have hlen : fs.length = 71 := hl
    have hqf := hq0.to (S := [64]) hl hE (by decide)
    obtain ⟨t28, t29, gt, t41, tg, _⟩ := id T
    rw [Nat.min_eq_left hE15] at t28
    have tg := tg hE15
    have f_many : fs[28]? = some (.int (nI E.length)) := (hE 28 (by decide)).trans t28
    have f_beside := f64
    have w241 : ab_J G h (b + 241) 36048 gt := (fr _ (by omega) (by omega)).trans t41
    have f_told := hqf.f_told
    have f_flatTold := hqf.f_flatTold
    have e9 : j = 7 := by omega
    subst e9
    refine v_iload_n dX13_keepFlat_31 rfl 0 rfl ?_
    refine v_bipush (v := 7) dX13_keepFlat_32 (by decide) ?_
    refine v_icmp_ge (tgt := 68) dX13_keepFlat_34 (by decide) (fun c_34 => ?_) (fun c_34 => ?_)
    · refine v_sub (L' := [(1, _), (0, _)]) [1, 2] rfl ?_
      exact hk h ft hm9 a1 a2 a3 fr
    · exact absurd (by decide) c_34
  | succ e ih =>
    intro j h ft hje hm9 a1 a2 a3 fr
    have hlen : fs.length = 71 := hl
    have hqf := hq0.to (S := [64]) hl hE (by decide)
    obtain ⟨t28, t29, gt, t41, tg, _⟩ := id T
    rw [Nat.min_eq_left hE15] at t28
    have tg := tg hE15
    have f_many : fs[28]? = some (.int (nI E.length)) := (hE 28 (by decide)).trans t28
    have f_beside := f64
    have w241 : ab_J G h (b + 241) 36048 gt := (fr _ (by omega) (by omega)).trans t41
    have f_told := hqf.f_told
    have f_flatTold := hqf.f_flatTold
    have hj : j < 7 := by omega
    refine v_iload_n dX13_keepFlat_31 rfl 0 rfl ?_
    refine v_bipush (v := 7) dX13_keepFlat_32 (by decide) ?_
    refine v_icmp_ge (tgt := 68) dX13_keepFlat_34 (by decide) (fun c_34 => ?_) (fun c_34 => ?_)
    · exact absurd c_34 (nI_ge (b := 7) hj (by omega))
    · refine v_aload_n dX13_keepFlat_37 rfl 2 rfl ?_
      refine v_getf 65 (ci := 11) (C := RX13) (T := TX13) (N := 71) rfl iwX13_keepFlat_X13 (Nat.le_of_ble_eq_true rfl) (by decide +kernel) dX13_keepFlat_38 (by repeat (first | with_reducible assumption | (with_reducible refine sv_us.trans ?_; exact rfl) | with_reducible refine (sv_un (by omega)).trans ?_)) (by repeat (first | with_reducible assumption | (with_reducible refine (sv_ls (by first | omega | (simp only [List.length_set]; omega))).trans ?_; exact rfl) | with_reducible refine (List.getElem?_set_ne (by decide)).trans ?_)) ?_
      refine v_bipush (v := 7) dX13_keepFlat_41 (by decide) ?_
      refine v_aload_n dX13_keepFlat_43 rfl 2 rfl ?_
      refine v_getf 64 (ci := 11) (C := RX13) (T := TX13) (N := 71) rfl iwX13_keepFlat_X13 (Nat.le_of_ble_eq_true rfl) (by decide +kernel) dX13_keepFlat_44 (by repeat (first | with_reducible assumption | (with_reducible refine sv_us.trans ?_; exact rfl) | with_reducible refine (sv_un (by omega)).trans ?_)) (by repeat (first | with_reducible assumption | (with_reducible refine (sv_ls (by first | omega | (simp only [List.length_set]; omega))).trans ?_; exact rfl) | with_reducible refine (List.getElem?_set_ne (by decide)).trans ?_)) ?_
      refine v_imul dX13_keepFlat_47 ?_
      refine v_iload_n dX13_keepFlat_48 rfl 0 rfl ?_
      refine v_iadd dX13_keepFlat_49 ?_
      refine v_aload_n dX13_keepFlat_50 rfl 2 rfl ?_
      refine v_getf 27 (ci := 11) (C := RX13) (T := TX13) (N := 71) rfl iwX13_keepFlat_X13 (Nat.le_of_ble_eq_true rfl) (by decide +kernel) dX13_keepFlat_51 (by repeat (first | with_reducible assumption | (with_reducible refine sv_us.trans ?_; exact rfl) | with_reducible refine (sv_un (by omega)).trans ?_)) (by repeat (first | with_reducible assumption | (with_reducible refine (sv_ls (by first | omega | (simp only [List.length_set]; omega))).trans ?_; exact rfl) | with_reducible refine (List.getElem?_set_ne (by decide)).trans ?_)) ?_
      refine v_bipush (v := 12) dX13_keepFlat_54 (by decide) ?_
      refine v_iload_n dX13_keepFlat_56 rfl 1 rfl ?_
      refine v_imul dX13_keepFlat_57 ?_
      refine v_iload_n dX13_keepFlat_58 rfl 0 rfl ?_
      refine v_iadd dX13_keepFlat_59 ?_
      rw [sv_12m, nI_add]
      refine v_laldS (v := (E.getD i []).getD j 0) dX13_keepFlat_60 (by repeat (first | with_reducible assumption | (with_reducible refine sv_us.trans ?_; exact rfl) | with_reducible refine (sv_un (by omega)).trans ?_)) (vp_in_nI (by omega) (by omega)) (by rw [nI_clamp (by omega)]; exact tg i hi j (by omega)) ?_
      rw [sv_7m, nI_add]
      refine v_last dX13_keepFlat_61 (by repeat (first | with_reducible assumption | (with_reducible refine sv_us.trans ?_; exact rfl) | with_reducible refine (sv_un (by omega)).trans ?_)) (vp_in_nI (by omega) (by omega)) ?_
      refine v_iinc (j := 0) (L' := [(2, _), (1, _), (0, _)]) (v := nI (j + 1)) dX13_keepFlat_62 rfl (nI_1 _) (Nat.le_of_ble_eq_true rfl) rfl ?_
      refine v_goto (tgt := 31) dX13_keepFlat_65 (by decide) ?_
      refine v_sub (L' := [(2, _), (1, _), (0, _)]) [0, 1, 2] rfl ?_
      rw [nI_clamp (show 7 * ((E.take i).filter (fun x => !cvB wr nw rl x)).length + j < 2 ^ 31 by omega)]
      refine ih (j + 1) _ (vp_updL ft (7 * ((E.take i).filter (fun x => !cvB wr nw rl x)).length + j) ((E.getD i []).getD j 0)) (by omega) ((sv_un (by omega)).trans hm9) sv_us (fun k9 j9 q1 q2 => (pk_uLn (by omega)).trans (a2 k9 j9 q1 q2)) (fun j9 q => ?_) (fun a p1 p2 => (sv_un p2).trans (fr a p1 p2))
      by_cases e9 : j9 = j
      · subst e9; exact pk_uLs
      · exact (pk_uLn (by omega)).trans (a3 j9 (by omega))

set_option maxHeartbeats 4000000 in
set_option maxRecDepth 100000 in
theorem l_kf (G : sv_G) (Qr : Option Value → sv_h → Nat → Prop) (z b nc np pl : Nat) (hb : sv_h) (fs0 : List Value) (hq0 : mfq_ b nc np pl fs0) (hm0 : hb (b + 220) = some (.inr (11, fs0))) (E : List (List Int64)) (hE15 : E.length ≤ 1500) (T : mT_ gu G hb b fs0 E) (nw : Nat) (hnw : nw ≤ 40) (h33 : fs0[33]? = some (.int (nI nw))) (rl : Int32) (h58 : fs0[58]? = some (.int rl)) (wr wf : Nat → Int64) (w42 : ab_J G hb (b + 242) 320 wf) (hwr : ∀ k, k < nw → ∀ j, j < 8 → wf (8 * k + ab_wc j) = wr (8 * k + j)) (hk : ∀ (h : sv_h) (fs : List Value) (ft : Nat → Int64), h (b + 220) = some (.inr (11, fs)) → fs.length = 71 → fsE [64] fs0 fs → fs[64]? = some (.int (nI ((E.take E.length).filter (fun x => !cvB wr nw rl x)).length)) → ab_J G h (b + 259) 10500 ft → (∀ k9 j9, k9 < ((E.take E.length).filter (fun x => !cvB wr nw rl x)).length → j9 < 7 → ft (7 * k9 + j9) = (((E.take E.length).filter (fun x => !cvB wr nw rl x)).getD k9 []).getD j9 0) → (∀ a, a ≠ b + 220 → a ≠ b + 259 → h a = hb a) → Qr none h z) : ∀ (e i : Nat) (h : sv_h) (fs : List Value) (ft : Nat → Int64), i + e = E.length → h (b + 220) = some (.inr (11, fs)) → fs.length = 71 → fsE [64] fs0 fs → fs[64]? = some (.int (nI ((E.take i).filter (fun x => !cvB wr nw rl x)).length)) → ab_J G h (b + 259) 10500 ft → (∀ k9 j9, k9 < ((E.take i).filter (fun x => !cvB wr nw rl x)).length → j9 < 7 → ft (7 * k9 + j9) = (((E.take i).filter (fun x => !cvB wr nw rl x)).getD k9 []).getD j9 0) → (∀ a, a ≠ b + 220 → a ≠ b + 259 → h a = hb a) → V G mX13_keepFlat (sv_MQ G mX13_keepFlat Qr) 7 [(1, .int (nI i)), (0, .ref (b + 220))] [] h z 0 0 := by
  intro e
  induction e with
  | zero =>
    intro i h fs ft hie hm9 hl hE f64 a1 a2 fr
    have hlen : fs.length = 71 := hl
    have hqf := hq0.to (S := [64]) hl hE (by decide)
    obtain ⟨t28, t29, gt, t41, tg, _⟩ := id T
    rw [Nat.min_eq_left hE15] at t28
    have tg := tg hE15
    have f_many : fs[28]? = some (.int (nI E.length)) := (hE 28 (by decide)).trans t28
    have f_beside := f64
    have w241 : ab_J G h (b + 241) 36048 gt := (fr _ (by omega) (by omega)).trans t41
    have f_told := hqf.f_told
    have f_flatTold := hqf.f_flatTold
    have e9 : i = E.length := by omega
    subst e9
    refine v_iload_n dX13_keepFlat_7 rfl 0 rfl ?_
    refine v_aload_n dX13_keepFlat_8 rfl 1 rfl ?_
    refine v_getf 28 (ci := 11) (C := RX13) (T := TX13) (N := 71) rfl iwX13_keepFlat_X13 (Nat.le_of_ble_eq_true rfl) (by decide +kernel) dX13_keepFlat_9 (by repeat (first | with_reducible assumption | (with_reducible refine sv_us.trans ?_; exact rfl) | with_reducible refine (sv_un (by omega)).trans ?_)) (by repeat (first | with_reducible assumption | (with_reducible refine (sv_ls (by first | omega | (simp only [List.length_set]; omega))).trans ?_; exact rfl) | with_reducible refine (List.getElem?_set_ne (by decide)).trans ?_)) ?_
    refine v_icmp_ge (tgt := 84) dX13_keepFlat_12 (by decide) (fun c_12 => ?_) (fun c_12 => ?_)
    · exact v_ret rfl dX13_keepFlat_84 (Nat.le_of_ble_eq_true rfl) (Nat.le_of_ble_eq_true rfl) (hk h fs ft hm9 hl hE f64 a1 a2 fr)
    · exact absurd (nI_le (Nat.le_refl _) (by omega)) c_12
  | succ e ih =>
    intro i h fs ft hie hm9 hl hE f64 a1 a2 fr
    have hlen : fs.length = 71 := hl
    have hqf := hq0.to (S := [64]) hl hE (by decide)
    obtain ⟨t28, t29, gt, t41, tg, _⟩ := id T
    rw [Nat.min_eq_left hE15] at t28
    have tg := tg hE15
    have f_many : fs[28]? = some (.int (nI E.length)) := (hE 28 (by decide)).trans t28
    have f_beside := f64
    have w241 : ab_J G h (b + 241) 36048 gt := (fr _ (by omega) (by omega)).trans t41
    have f_told := hqf.f_told
    have f_flatTold := hqf.f_flatTold
    have hi : i < E.length := by omega
    have hn : ((E.take i).filter (fun x => !cvB wr nw rl x)).length ≤ i := (by have q := List.length_filter_le (fun x => !cvB wr nw rl x) (E.take i); rw [List.length_take] at q; omega)
    refine v_iload_n dX13_keepFlat_7 rfl 0 rfl ?_
    refine v_aload_n dX13_keepFlat_8 rfl 1 rfl ?_
    refine v_getf 28 (ci := 11) (C := RX13) (T := TX13) (N := 71) rfl iwX13_keepFlat_X13 (Nat.le_of_ble_eq_true rfl) (by decide +kernel) dX13_keepFlat_9 (by repeat (first | with_reducible assumption | (with_reducible refine sv_us.trans ?_; exact rfl) | with_reducible refine (sv_un (by omega)).trans ?_)) (by repeat (first | with_reducible assumption | (with_reducible refine (sv_ls (by first | omega | (simp only [List.length_set]; omega))).trans ?_; exact rfl) | with_reducible refine (List.getElem?_set_ne (by decide)).trans ?_)) ?_
    refine v_icmp_ge (tgt := 84) dX13_keepFlat_12 (by decide) (fun c_12 => ?_) (fun c_12 => ?_)
    · exact absurd c_12 (nI_ge hi (by omega))
    · refine v_aload_n dX13_keepFlat_15 rfl 1 rfl ?_
      refine v_bipush (v := 12) dX13_keepFlat_16 (by decide) ?_
      refine v_iload_n dX13_keepFlat_18 rfl 0 rfl ?_
      refine v_imul dX13_keepFlat_19 ?_
      refine v_callVq (M' := mX13_isWaived) (n := 1) (As := [_]) (ci := 11) (r := (RX13, TX13, 71)) gX13_keepFlat_X13_isWaived rfl (by decide +kernel) ⟨(Nat.le_of_ble_eq_true rfl), (Nat.le_of_ble_eq_true rfl)⟩ rfl rfl dX13_keepFlat_20 rfl ⟨(Nat.le_of_ble_eq_true rfl), (Nat.le_of_ble_eq_true rfl)⟩ (Nat.le_of_ble_eq_true rfl) (by repeat (first | with_reducible assumption | (with_reducible refine sv_us.trans ?_; exact rfl) | with_reducible refine (sv_un (by omega)).trans ?_)) rfl (m_isWaivedM G _ b nc np pl h fs hqf hm9 nw hnw ((hE 33 (by decide)).trans h33) rl ((hE 58 (by decide)).trans h58) wr wf ((fr _ (by omega) (by omega)).trans w42) hwr gt w241 i (by omega) (E.getD i []) (tg i hi) _ (sv_12m i)) (fun v9 h9 y9 hq => v_pq hq ?_)
      refine v_if_eq (tgt := 29) dX13_keepFlat_23 (by decide) (fun c_23 => ?_) (fun c_23 => ?_)
      · refine v_iconst (v := 0) dX13_keepFlat_29 (by decide) ?_
        refine v_istore_n (L' := [(2, _), (1, _), (0, _)]) dX13_keepFlat_30 rfl (Nat.le_of_ble_eq_true rfl) rfl ?_
        refine v_sub (L' := [(2, _), (1, _), (0, _)]) [0, 1, 2] rfl ?_
        refine l_kfI G Qr _ b nc np pl hb fs0 hq0 hm0 E hE15 T nw hnw h33 rl h58 wr wf w42 hwr i hi (by omega) fs hl hE f64 (fun h2 ft2 v1 v2 v3 v4 v5 => ?_) 7 0 h ft rfl hm9 a1 a2 (fun j9 q => absurd q (Nat.not_lt_zero j9)) fr
        refine v_aload_n dX13_keepFlat_68 rfl 1 rfl ?_
        refine v_dup dX13_keepFlat_69 rfl ?_
        refine v_getf 64 (ci := 11) (C := RX13) (T := TX13) (N := 71) rfl iwX13_keepFlat_X13 (Nat.le_of_ble_eq_true rfl) (by decide +kernel) dX13_keepFlat_70 (by repeat (first | with_reducible assumption | (with_reducible refine sv_us.trans ?_; exact rfl) | with_reducible refine (sv_un (by omega)).trans ?_)) (by repeat (first | with_reducible assumption | (with_reducible refine (sv_ls (by first | omega | (simp only [List.length_set]; omega))).trans ?_; exact rfl) | with_reducible refine (List.getElem?_set_ne (by decide)).trans ?_)) ?_
        refine v_iconst (v := 1) dX13_keepFlat_73 (by decide) ?_
        refine v_iadd dX13_keepFlat_74 ?_
        rw [show nI ((E.take i).filter (fun x => !cvB wr nw rl x)).length + 1 = nI (((E.take i).filter (fun x => !cvB wr nw rl x)).length + 1) from nI_1 _]
        refine v_putf 64 (fs' := _) (ci := 11) (C := RX13) (T := TX13) (N := 71) (ty := .int) rfl iwX13_keepFlat_X13 tyX13 tyX13_ok nmX13 (Nat.le_of_ble_eq_true rfl) (by decide +kernel) rfl rfl dX13_keepFlat_75 rfl rfl (by repeat (first | with_reducible assumption | (with_reducible refine sv_us.trans ?_; exact rfl) | with_reducible refine (sv_un (by omega)).trans ?_)) (by first | omega | (simp only [List.length_set]; omega)) rfl ?_
        refine v_iinc (j := 0) (L' := [(1, _), (0, _)]) (v := nI (i + 1)) dX13_keepFlat_78 rfl (nI_1 _) (Nat.le_of_ble_eq_true rfl) rfl ?_
        refine v_goto (tgt := 7) dX13_keepFlat_81 (by decide) ?_
        refine v_sub (L' := [(1, _), (0, _)]) [0, 1] rfl ?_
        have w9 : ¬ cvB wr nw rl (E.getD i []) = true := fun q => (by rw [if_pos q] at c_23; exact absurd c_23 (by decide))
        have e8 : ((E.take (i + 1)).filter (fun x => !cvB wr nw rl x)) = ((E.take i).filter (fun x => !cvB wr nw rl x)) ++ [E.getD i []] := (by
          rw [tk_s9 [] hi, List.filter_append, List.filter_cons_of_pos (by rw [Bool.eq_false_iff.mpr w9]; rfl)]; rfl)
        have n8 : (((E.take i).filter (fun x => !cvB wr nw rl x)) ++ [E.getD i []]).length = ((E.take i).filter (fun x => !cvB wr nw rl x)).length + 1 := List.length_append
        refine ih (i + 1) _ (fs.set 64 (.int (nI (((E.take i).filter (fun x => !cvB wr nw rl x)).length + 1)))) ft2 (by omega) sv_us (by rw [List.length_set]; exact hl) (hE.st (by decide)) ?_ ((sv_un (by omega)).trans v2) ?_ (fun a p1 p2 => (sv_un p1).trans (v5 a p1 p2))
        · rw [e8, n8]; exact sv_ls (by omega)
        · rw [e8, n8]
          intro k9 j9 q1 q2
          by_cases e9 : k9 = ((E.take i).filter (fun x => !cvB wr nw rl x)).length
          · rw [e9, gA_e]; exact v4 j9 q2
          · rw [gA_l _ (by omega)]; exact v3 k9 j9 (by omega) q2
      · refine v_goto (tgt := 78) dX13_keepFlat_26 (by decide) ?_
        refine v_iinc (j := 0) (L' := [(1, _), (0, _)]) (v := nI (i + 1)) dX13_keepFlat_78 rfl (nI_1 _) (Nat.le_of_ble_eq_true rfl) rfl ?_
        refine v_goto (tgt := 7) dX13_keepFlat_81 (by decide) ?_
        refine v_sub (L' := [(1, _), (0, _)]) [0, 1] rfl ?_
        have w9 : cvB wr nw rl (E.getD i []) = true := Decidable.of_not_not (fun q => c_23 (if_neg q))
        have e8 : ((E.take (i + 1)).filter (fun x => !cvB wr nw rl x)) = ((E.take i).filter (fun x => !cvB wr nw rl x)) := (by
          rw [tk_s9 [] hi, List.filter_append, List.filter_cons_of_neg (by rw [w9]; decide)]
          exact List.append_nil _)
        refine ih (i + 1) h fs ft (by omega) hm9 hl hE ?_ a1 ?_ fr
        · rw [e8]; exact f64
        · rw [e8]; exact a2

set_option maxHeartbeats 4000000 in
set_option maxRecDepth 100000 in
theorem m_keepFlat (G : sv_G) (z b nc np pl : Nat) (hb : sv_h) (fs0 : List Value) (hq0 : mfq_ b nc np pl fs0) (hm0 : hb (b + 220) = some (.inr (11, fs0))) (E : List (List Int64)) (hE15 : E.length ≤ 1500) (T : mT_ gu G hb b fs0 E) (nw : Nat) (hnw : nw ≤ 40) (h33 : fs0[33]? = some (.int (nI nw))) (rl : Int32) (h58 : fs0[58]? = some (.int rl)) (wr wf : Nat → Int64) (w42 : ab_J G hb (b + 242) 320 wf) (hwr : ∀ k, k < nw → ∀ j, j < 8 → wf (8 * k + ab_wc j) = wr (8 * k + j)) (ft0 : Nat → Int64) (A59 : ab_J G hb (b + 259) 10500 ft0) : CT G mX13_keepFlat [.ref (b + 220)] hb z (fun v9 h1 z1 => v9 = none ∧ z1 = z ∧ ∃ fs1 ft, h1 (b + 220) = some (.inr (11, fs1)) ∧ fs1.length = 71 ∧ fsE [64] fs0 fs1 ∧ fs1[64]? = some (.int (nI (E.filter (fun x => !cvB wr nw rl x)).length)) ∧ ab_J G h1 (b + 259) 10500 ft ∧ (∀ k9 j9, k9 < (E.filter (fun x => !cvB wr nw rl x)).length → j9 < 7 → ft (7 * k9 + j9) = ((E.filter (fun x => !cvB wr nw rl x)).getD k9 []).getD j9 0) ∧ ∀ a, a ≠ b + 220 → a ≠ b + 259 → h1 a = hb a) := by
  refine CT.of (by decide +kernel) rfl rfl (Nat.le_of_ble_eq_true rfl) ?_
  have hlen : fs0.length = 71 := hq0.1
  refine v_aload_n dX13_keepFlat_0 rfl 0 rfl ?_
  refine v_iconst (v := 0) dX13_keepFlat_1 (by decide) ?_
  refine v_putf 64 (fs' := _) (ci := 11) (C := RX13) (T := TX13) (N := 71) (ty := .int) rfl iwX13_keepFlat_X13 tyX13 tyX13_ok nmX13 (Nat.le_of_ble_eq_true rfl) (by decide +kernel) rfl rfl dX13_keepFlat_2 rfl rfl (by repeat (first | with_reducible assumption | (with_reducible refine sv_us.trans ?_; exact rfl) | with_reducible refine (sv_un (by omega)).trans ?_)) (by first | omega | (simp only [List.length_set]; omega)) rfl ?_
  refine v_iconst (v := 0) dX13_keepFlat_5 (by decide) ?_
  refine v_istore_n (L' := [(1, _), (0, _)]) dX13_keepFlat_6 rfl (Nat.le_of_ble_eq_true rfl) rfl ?_
  refine v_sub (L' := [(1, _), (0, _)]) [0, 1] rfl ?_
  refine l_kf G _ _ b nc np pl hb fs0 hq0 hm0 E hE15 T nw hnw h33 rl h58 wr wf w42 hwr (fun h2 fs2 ft2 v1 v2 v3 v4 v5 v6 v7 => ?_) E.length 0 _ (fs0.set 64 (.int 0)) ft0 (Nat.zero_add _) sv_us (by rw [List.length_set]; exact hq0.1) (fsE.rf.st (by decide)) (sv_ls (by omega)) ((sv_un (by omega)).trans A59) (fun k9 j9 q => absurd q (Nat.not_lt_zero k9)) (fun a p1 p2 => sv_un p1)
  rw [List.take_length] at v4 v6
  exact ⟨rfl, rfl, fs2, ft2, v1, v2, v3, v4, v5, v6, v7⟩

end GU
