theorem ab_Lay.poly {G : sv_G} {h h1 : sv_h} {b z : Nat} {k : Int32} {nc np pl : Nat} {sz sz' : Nat → Nat} {t t' : Nat → Nat → Int32} {u u' : Nat → Nat → Nat → Int32} {pa ma : Nat → Nat} (H : ab_Lay G h b k nc np pl sz t u pa ma) (A : ab_ad b np pl z pa ma) {p : Nat} (hp : p < np)
    (hpoly : ab_poly G h1 (pa p) (t' 0 p) (t' 1 p) (sz' p) (t' 2 p) (u' 0 p) (u' 1 p)) (e : ∀ a, b + 1 ≤ a → a < b + 8 → h1 a = h a) (e2 : ∀ a, b + 262 ≤ a → a < z → (a < pa p ∨ pa p + 5 ≤ a) → h1 a = h a)
    (ht : ∀ c i, (c < 3 → i ≠ p) → t' c i = t c i) (hs : ∀ i, i ≠ p → sz' i = sz i) (hu : ∀ c i, i ≠ p → u' c i = u c i) : ab_Lay G h1 b k nc np pl sz' t' u' pa ma := by
  obtain ⟨p1, ⟨f2, p2, q2⟩, ⟨f3, p3, q3⟩, ⟨f4, p4, q4⟩, ⟨f5, p5, q5⟩, ⟨f6, p6⟩, ⟨f7, p7⟩, p8, p9⟩ := H
  obtain ⟨a0, a1, a2, a3, a4⟩ := A
  have no : ∀ {c : Nat} {i : Nat}, ¬ c < 3 → (c < 3 → i ≠ p) := fun q r => absurd r q
  refine ⟨(e _ (by omega) (by omega)).trans p1, ⟨f2, (e _ (by omega) (by omega)).trans p2, q2⟩, ⟨f3, (e _ (by omega) (by omega)).trans p3, fun i hi => (q3 i hi).trans (ht 3 i (no (by decide))).symm⟩, ⟨f4, (e _ (by omega) (by omega)).trans p4, fun i hi => (q4 i hi).trans (ht 4 i (no (by decide))).symm⟩, ⟨f5, (e _ (by omega) (by omega)).trans p5, q5⟩, ⟨f6, (e _ (by omega) (by omega)).trans p6⟩, ⟨f7, (e _ (by omega) (by omega)).trans p7⟩, fun p' hp' => ?_, fun i hi => ?_⟩
  · by_cases q : p' = p
    · rw [q]; exact hpoly
    · rw [ht 0 p' (fun _ => q), ht 1 p' (fun _ => q), ht 2 p' (fun _ => q), hs p' q, hu 0 p' q, hu 1 p' q]
      refine (p8 p' hp').kept (fun a q1 q2 => e2 a (by have := a1 p' hp'; omega) (by have := a1 p' hp'; omega) ?_)
      rcases Nat.lt_or_gt_of_ne q with q' | q'
      · have := a3 p' p q' hp; omega
      · have := a3 p p' q' hp'; omega
  · rw [ht 5 i (no (by decide)), ht 6 i (no (by decide)), ht 7 i (no (by decide))]
    exact (e2 _ (a2 i hi).1 (a2 i hi).2 (a4 p i hp hi)).trans (p9 i hi)
/-- one entry of a table changes -/
def ab_t (t : Nat → Nat → Int32) (c i : Nat) (x : Int32) : Nat → Nat → Int32 := fun c' i' => if c' = c ∧ i' = i then x else t c' i'
theorem ab_t_eq {t : Nat → Nat → Int32} {c i : Nat} {x : Int32} : ab_t t c i x c i = x := by simp [ab_t]
theorem ab_t_ne {t : Nat → Nat → Int32} {c i c' i' : Nat} {x : Int32} (h : c' ≠ c ∨ i' ≠ i) : ab_t t c i x c' i' = t c' i' := by
  unfold ab_t
  exact if_neg (fun q => h.elim (fun r => r q.1) (fun r => r q.2))
theorem sv_j2i {x : Int64} (h1 : ¬ x < -1000000) (h2 : x ≤ 1000000) : x.toInt32.toInt64 = x := by
  rw [← Int64.toInt_inj, Int32.toInt_toInt64, Int64.toInt_toInt32]
  rw [Int64.lt_iff_toInt_lt] at h1
  rw [Int64.le_iff_toInt_le] at h2
  rw [show (-1000000 : Int64).toInt = -1000000 by decide] at h1
  rw [show (1000000 : Int64).toInt = 1000000 by decide] at h2
  exact Int.bmod_eq_of_le (by omega) (by omega)
set_option maxHeartbeats 4000000 in
set_option maxRecDepth 100000 in
theorem c_voltage (G : sv_G) (hl0 : G.1.stackTraces = false) (h : sv_h) (z b p q : Nat) (x : Int64) (ly tp rd ck wv ru la fo fl lo : Nat) (rc lr lf : Int32) (hb : h b = some (.inr (10, [.ref ly, .ref tp, .ref rd, .ref ck, .ref wv, .ref ru, .int rc, .int lr, .int lf, .ref la, .ref fo, .ref fl, .ref lo]))) (po hd hs mo he nh : Nat) (k cs pn pl : Int32) (hly : h ly = some (.inr (1, [.int k, .int cs, .ref po, .int pn, .ref hd, .ref hs, .ref mo, .int pl, .ref he, .ref nh]))) (hg : 0 ≤ nI p ∧ nI p < pn) (hx1 : ¬ x < -1000000) (hx2 : x ≤ 1000000) (f : Nat → Option Nat) (hpo : h po = some (.inl (G.2.2.1 4, 64, .inr (.inr (.inr (.inr f)))))) (hp : p < 64) (hfp : f p = some q) (hm la0 nn vo rt ar : Int32) (q1 q2 q3 q4 : Nat) (hpq : h q = some (.inr (3, [.int hm, .int la0, .ref q1, .ref q2, .int nn, .int vo, .int rt, .int ar, .ref q3, .ref q4]))) : CX G mX12_voltage [.ref b, .int (nI p), .long x] h z (fun v h1 z1 => v = some (.int (if vo.toInt64 = x then 0 else 1)) ∧ h1 = va_up h q (some (.inr (3, [.int hm, .int la0, .ref q1, .ref q2, .int nn, .int x.toInt32, .int rt, .int ar, .ref q3, .ref q4]))) ∧ z1 = z) (fun _ _ _ => False) := by
  refine CX.of (by decide +kernel) rfl rfl (Nat.le_of_ble_eq_true rfl) ?_
  refine v_aload_n dX12_voltage_0 rfl 0 rfl ?_
  refine v_getf 0 (ci := 10) (C := RX12) (T := TX12) (N := 13) rfl iwX12_voltage_X12 (Nat.le_of_ble_eq_true rfl) (by decide +kernel) dX12_voltage_1 (by repeat (first | (with_reducible refine sv_us.trans ?_; exact rfl) | with_reducible assumption | with_reducible refine (sv_un (by omega)).trans ?_)) rfl ?_
  refine v_iload_n dX12_voltage_4 rfl 1 rfl ?_
  refine v_callV (M' := mX3_hasPolygon) (n := 1) (As := [_]) (ci := 1) (r := (RX3, TX3, 10)) gX12_voltage_X3_hasPolygon rfl (by decide +kernel) ⟨(Nat.le_of_ble_eq_true rfl), (Nat.le_of_ble_eq_true rfl)⟩ rfl rfl dX12_voltage_5 rfl ⟨(Nat.le_of_ble_eq_true rfl), (Nat.le_of_ble_eq_true rfl)⟩ (Nat.le_of_ble_eq_true rfl) (by repeat (first | (with_reducible refine sv_us.trans ?_; exact rfl) | with_reducible assumption | with_reducible refine (sv_un (by omega)).trans ?_)) rfl (c_hasPolygon G _ _ _ _ _ _ _ _ _ _ _ _ _ _ hly) (fun v h1 z1 hq => ?_)
  rw [if_pos hg] at hq
  obtain ⟨rfl, rfl, rfl⟩ := hq
  refine v_if_ne (tgt := 21) dX12_voltage_8 (by decide) (fun c_8 => ?_) (fun c_8 => ?_)
  · refine v_lload_n dX12_voltage_21 rfl 2 rfl ?_
    refine v_ldc2 (v := (-1000000)) (by decide +kernel) dX12_voltage_22 ?_
    refine v_lcmp_lt (tgt := 37) dX12_voltage_25 dX12_voltage_26 (by decide) (fun c_26 => ?_) (fun c_26 => ?_)
    · exact absurd c_26 hx1
    · refine v_lload_n dX12_voltage_29 rfl 2 rfl ?_
      refine v_ldc2 (v := (1000000)) (by decide +kernel) dX12_voltage_30 ?_
      refine v_lcmp_le (tgt := 47) dX12_voltage_33 dX12_voltage_34 (by decide) (fun c_34 => ?_) (fun c_34 => ?_)
      · refine v_aload_n dX12_voltage_47 rfl 0 rfl ?_
        refine v_getf 0 (ci := 10) (C := RX12) (T := TX12) (N := 13) rfl iwX12_voltage_X12 (Nat.le_of_ble_eq_true rfl) (by decide +kernel) dX12_voltage_48 (by repeat (first | (with_reducible refine sv_us.trans ?_; exact rfl) | with_reducible assumption | with_reducible refine (sv_un (by omega)).trans ?_)) rfl ?_
        refine v_getf 2 (ci := 1) (C := RX3) (T := TX3) (N := 10) rfl iwX12_voltage_X3 (Nat.le_of_ble_eq_true rfl) (by decide +kernel) dX12_voltage_51 (by repeat (first | (with_reducible refine sv_us.trans ?_; exact rfl) | with_reducible assumption | with_reducible refine (sv_un (by omega)).trans ?_)) rfl ?_
        refine v_iload_n dX12_voltage_54 rfl 1 rfl ?_
        refine v_aaldS (t := 4) (q := q) dX12_voltage_55 (fun _ => rfl) (by repeat (first | (with_reducible refine sv_us.trans ?_; exact rfl) | with_reducible assumption | with_reducible refine (sv_un (by omega)).trans ?_)) (vp_in_nI hp (by omega)) (by rw [nI_clamp (by omega)]; exact hfp) ?_
        refine v_astore (L' := [(4, _), (0, _), (1, _), (2, _)]) dX12_voltage_56 (Nat.le_of_ble_eq_true rfl) rfl ?_
        refine v_aload dX12_voltage_58 0 rfl ?_
        refine v_getf 5 (ci := 3) (C := RX5) (T := TX5) (N := 10) rfl iwX12_voltage_X5 (Nat.le_of_ble_eq_true rfl) (by decide +kernel) dX12_voltage_60 (by repeat (first | (with_reducible refine sv_us.trans ?_; exact rfl) | with_reducible assumption | with_reducible refine (sv_un (by omega)).trans ?_)) rfl ?_
        refine v_i2l dX12_voltage_63 rfl ?_
        refine v_lload_n dX12_voltage_64 rfl 3 rfl ?_
        refine v_lcmp_eq (tgt := 73) dX12_voltage_65 dX12_voltage_66 (by decide) (fun c_66 => ?_) (fun c_66 => ?_)
        · refine v_iconst (v := 0) dX12_voltage_73 (by decide) ?_
          refine v_istore (L' := [(5, _), (4, _), (0, _), (1, _), (2, _)]) dX12_voltage_74 (Nat.le_of_ble_eq_true rfl) rfl ?_
          refine v_aload dX12_voltage_76 1 rfl ?_
          refine v_lload_n dX12_voltage_78 rfl 4 rfl ?_
          refine v_l2i dX12_voltage_79 rfl ?_
          refine v_putf 5 (fs' := [_, _, _, _, _, _, _, _, _, _]) (ci := 3) (C := RX5) (T := TX5) (N := 10) (ty := .int) rfl iwX12_voltage_X5 tyX5 tyX5_ok nmX5 (Nat.le_of_ble_eq_true rfl) (by decide +kernel) rfl rfl dX12_voltage_80 rfl rfl (by repeat (first | (with_reducible refine sv_us.trans ?_; exact rfl) | with_reducible assumption | with_reducible refine (sv_un (by omega)).trans ?_)) (Nat.le_of_ble_eq_true rfl) rfl ?_
          refine v_iload dX12_voltage_83 0 rfl ?_
          exact v_xret (v_iret rfl dX12_voltage_85 (Nat.le_of_ble_eq_true rfl) (Nat.le_of_ble_eq_true rfl) rfl ⟨by first | rw [if_pos c_66] | rw [if_neg c_66], rfl, rfl⟩)
        · refine v_iconst (v := 1) dX12_voltage_69 (by decide) ?_
          refine v_goto (tgt := 74) dX12_voltage_70 (by decide) ?_
          refine v_istore (L' := [(5, _), (4, _), (0, _), (1, _), (2, _)]) dX12_voltage_74 (Nat.le_of_ble_eq_true rfl) rfl ?_
          refine v_aload dX12_voltage_76 1 rfl ?_
          refine v_lload_n dX12_voltage_78 rfl 4 rfl ?_
          refine v_l2i dX12_voltage_79 rfl ?_
          refine v_putf 5 (fs' := [_, _, _, _, _, _, _, _, _, _]) (ci := 3) (C := RX5) (T := TX5) (N := 10) (ty := .int) rfl iwX12_voltage_X5 tyX5 tyX5_ok nmX5 (Nat.le_of_ble_eq_true rfl) (by decide +kernel) rfl rfl dX12_voltage_80 rfl rfl (by repeat (first | (with_reducible refine sv_us.trans ?_; exact rfl) | with_reducible assumption | with_reducible refine (sv_un (by omega)).trans ?_)) (Nat.le_of_ble_eq_true rfl) rfl ?_
          refine v_iload dX12_voltage_83 0 rfl ?_
          exact v_xret (v_iret rfl dX12_voltage_85 (Nat.le_of_ble_eq_true rfl) (Nat.le_of_ble_eq_true rfl) rfl ⟨by first | rw [if_pos c_66] | rw [if_neg c_66], rfl, rfl⟩)
      · exact absurd hx2 c_34
  · exact absurd c_8 (by decide)

set_option maxHeartbeats 4000000 in
set_option maxRecDepth 100000 in
theorem c_voltage_a (G : sv_G) (hl0 : G.1.stackTraces = false) (h : sv_h) (z b : Nat) (c : Int32) (x : Int64) (ly tp rd ck wv ru la fo fl lo : Nat) (rc lr lf : Int32) (hb : h b = some (.inr (10, [.ref ly, .ref tp, .ref rd, .ref ck, .ref wv, .ref ru, .int rc, .int lr, .int lf, .ref la, .ref fo, .ref fl, .ref lo]))) (po hd hs mo he nh : Nat) (k cs pn pl : Int32) (hly : h ly = some (.inr (1, [.int k, .int cs, .ref po, .int pn, .ref hd, .ref hs, .ref mo, .int pl, .ref he, .ref nh]))) (hg : 0 ≤ c ∧ c < pn) (hx : ¬ (¬ x < -1000000 ∧ x ≤ 1000000)) : CX G mX12_voltage [.ref b, .int c, .long x] h z (fun _ _ _ => False) (fun E h1 z1 => E = "java/lang/IllegalArgumentException" ∧ h1 = h) := by
  refine CX.of (by decide +kernel) rfl rfl (Nat.le_of_ble_eq_true rfl) ?_
  refine v_aload_n dX12_voltage_0 rfl 0 rfl ?_
  refine v_getf 0 (ci := 10) (C := RX12) (T := TX12) (N := 13) rfl iwX12_voltage_X12 (Nat.le_of_ble_eq_true rfl) (by decide +kernel) dX12_voltage_1 (by repeat (first | (with_reducible refine sv_us.trans ?_; exact rfl) | with_reducible assumption | with_reducible refine (sv_un (by omega)).trans ?_)) rfl ?_
  refine v_iload_n dX12_voltage_4 rfl 1 rfl ?_
  refine v_callV (M' := mX3_hasPolygon) (n := 1) (As := [_]) (ci := 1) (r := (RX3, TX3, 10)) gX12_voltage_X3_hasPolygon rfl (by decide +kernel) ⟨(Nat.le_of_ble_eq_true rfl), (Nat.le_of_ble_eq_true rfl)⟩ rfl rfl dX12_voltage_5 rfl ⟨(Nat.le_of_ble_eq_true rfl), (Nat.le_of_ble_eq_true rfl)⟩ (Nat.le_of_ble_eq_true rfl) (by repeat (first | (with_reducible refine sv_us.trans ?_; exact rfl) | with_reducible assumption | with_reducible refine (sv_un (by omega)).trans ?_)) rfl (c_hasPolygon G _ _ _ _ _ _ _ _ _ _ _ _ _ _ hly) (fun v h1 z1 hq => ?_)
  rw [if_pos hg] at hq
  obtain ⟨rfl, rfl, rfl⟩ := hq
  refine v_if_ne (tgt := 21) dX12_voltage_8 (by decide) (fun c_8 => ?_) (fun c_8 => ?_)
  · refine v_lload_n dX12_voltage_21 rfl 2 rfl ?_
    refine v_ldc2 (v := (-1000000)) (by decide +kernel) dX12_voltage_22 ?_
    refine v_lcmp_lt (tgt := 37) dX12_voltage_25 dX12_voltage_26 (by decide) (fun c_26 => ?_) (fun c_26 => ?_)
    · exact v_throw (ik := 155) (is := 168) (ic := 159) (cls := "java/lang/IllegalArgumentException") (text := "no such voltage") (names := ["java/lang/RuntimeException", "java/lang/Exception"]) hl0 rfl (by decide +kernel) (by decide +kernel) (by decide +kernel) (by decide +kernel) (by decide +kernel) (by decide +kernel) (by decide +kernel) sv_bwA (by decide +kernel) dX12_voltage_37 dX12_voltage_40 dX12_voltage_41 dX12_voltage_43 dX12_voltage_46 rfl (Nat.le_of_ble_eq_true rfl) (Nat.le_of_ble_eq_true rfl) (Nat.le_of_ble_eq_true rfl) (Nat.le_of_ble_eq_true rfl) (fun z9 hz9 => ⟨rfl, rfl⟩)
    · refine v_lload_n dX12_voltage_29 rfl 2 rfl ?_
      refine v_ldc2 (v := (1000000)) (by decide +kernel) dX12_voltage_30 ?_
      refine v_lcmp_le (tgt := 47) dX12_voltage_33 dX12_voltage_34 (by decide) (fun c_34 => ?_) (fun c_34 => ?_)
      · exact absurd ⟨c_26, c_34⟩ hx
      · exact v_throw (ik := 155) (is := 168) (ic := 159) (cls := "java/lang/IllegalArgumentException") (text := "no such voltage") (names := ["java/lang/RuntimeException", "java/lang/Exception"]) hl0 rfl (by decide +kernel) (by decide +kernel) (by decide +kernel) (by decide +kernel) (by decide +kernel) (by decide +kernel) (by decide +kernel) sv_bwA (by decide +kernel) dX12_voltage_37 dX12_voltage_40 dX12_voltage_41 dX12_voltage_43 dX12_voltage_46 rfl (Nat.le_of_ble_eq_true rfl) (Nat.le_of_ble_eq_true rfl) (Nat.le_of_ble_eq_true rfl) (Nat.le_of_ble_eq_true rfl) (fun z9 hz9 => ⟨rfl, rfl⟩)
  · exact absurd c_8 (by decide)

set_option maxHeartbeats 4000000 in
set_option maxRecDepth 100000 in
theorem m_voltage (G : sv_G) (h : sv_h) (z m : Nat) (fs : List Value) (hlen : fs.length = 71) (hm : h m = some (.inr (11, fs))) (p A : Nat) (pn : Int32) (x : Int64) (f : Nat → Int64) (f_polygons : fs[3]? = some (.int pn)) (f_volts : fs[6]? = some (.ref A)) (hA : h A = some (.inl (G.2.2.1 1, 64, .inr (.inl f)))) (hne : m ≠ A) (hg : 0 ≤ nI p ∧ nI p < pn) (hp : p < 64) (hx1 : ¬ x < -1000000) (hx2 : x ≤ 1000000) : CT G mX13_voltage [.ref m, .int (nI p), .long x] h z (fun v h1 z1 => z1 = z ∧ ((f p = x ∧ v = some (.int 0) ∧ h1 = va_up h m (some (.inr (11, fs.set 0 (.int 0))))) ∨ (¬ f p = x ∧ v = some (.int 1) ∧ h1 = va_up (va_up h m (some (.inr (11, fs.set 0 (.int 0))))) A (some (.inl (G.2.2.1 1, 64, .inr (.inl (vp_updL f p x)))))))) := by
  refine CT.of (by decide +kernel) rfl rfl (Nat.le_of_ble_eq_true rfl) ?_
  refine v_aload_n dX13_voltage_0 rfl 0 rfl ?_
  refine v_aload_n dX13_voltage_1 rfl 0 rfl ?_
  refine v_iload_n dX13_voltage_2 rfl 1 rfl ?_
  refine v_callV (M' := mX13_isPolygon) (n := 1) (As := [_]) (ci := 11) (r := (RX13, TX13, 71)) gX13_voltage_X13_isPolygon rfl (by decide +kernel) ⟨(Nat.le_of_ble_eq_true rfl), (Nat.le_of_ble_eq_true rfl)⟩ rfl rfl dX13_voltage_3 rfl ⟨(Nat.le_of_ble_eq_true rfl), (Nat.le_of_ble_eq_true rfl)⟩ (Nat.le_of_ble_eq_true rfl) (by repeat (first | (with_reducible refine sv_us.trans ?_; exact rfl) | with_reducible assumption | with_reducible refine (sv_un (by omega)).trans ?_)) rfl (m_isPolygon G _ _ _ _ hlen hm _ _ f_polygons) (fun v h1 z1 hq => ?_)
  rw [if_pos hg] at hq
  obtain ⟨rfl, rfl, rfl⟩ := hq
  refine v_if_ne (tgt := 13) dX13_voltage_6 (by decide) (fun c_6 => ?_) (fun c_6 => ?_)
  · refine v_lload_n dX13_voltage_13 rfl 2 rfl ?_
    refine v_ldc2 (v := (-1000000)) (by decide +kernel) dX13_voltage_14 ?_
    refine v_lcmp_lt (tgt := 29) dX13_voltage_17 dX13_voltage_18 (by decide) (fun c_18 => ?_) (fun c_18 => ?_)
    · exact absurd c_18 hx1
    · refine v_lload_n dX13_voltage_21 rfl 2 rfl ?_
      refine v_ldc2 (v := (1000000)) (by decide +kernel) dX13_voltage_22 ?_
      refine v_lcmp_le (tgt := 33) dX13_voltage_25 dX13_voltage_26 (by decide) (fun c_26 => ?_) (fun c_26 => ?_)
      · refine v_iconst (v := 0) dX13_voltage_33 (by decide) ?_
        refine v_putf 0 (fs' := _) (ci := 11) (C := RX13) (T := TX13) (N := 71) (ty := .int) rfl iwX13_voltage_X13 tyX13 tyX13_ok nmX13 (Nat.le_of_ble_eq_true rfl) (by decide +kernel) rfl rfl dX13_voltage_34 rfl rfl (by repeat (first | (with_reducible refine sv_us.trans ?_; exact rfl) | with_reducible assumption | with_reducible refine (sv_un (by omega)).trans ?_)) (by first | omega | (simp only [List.length_set]; omega)) rfl ?_
        refine v_aload_n dX13_voltage_37 rfl 0 rfl ?_
        refine v_getf 0 (ci := 11) (C := RX13) (T := TX13) (N := 71) rfl iwX13_voltage_X13 (Nat.le_of_ble_eq_true rfl) (by decide +kernel) dX13_voltage_38 (by repeat (first | (with_reducible refine sv_us.trans ?_; exact rfl) | with_reducible assumption | with_reducible refine (sv_un (by omega)).trans ?_)) (by repeat (first | with_reducible assumption | (with_reducible refine (sv_ls (by first | omega | (simp only [List.length_set]; omega))).trans ?_; exact rfl) | with_reducible refine (List.getElem?_set_ne (by decide)).trans ?_)) ?_
        refine v_if_gt (tgt := 55) dX13_voltage_41 (by decide) (fun c_41 => ?_) (fun c_41 => ?_)
        · exact absurd c_41 (by decide)
        · refine v_aload_n dX13_voltage_44 rfl 0 rfl ?_
          refine v_getf 6 (ci := 11) (C := RX13) (T := TX13) (N := 71) rfl iwX13_voltage_X13 (Nat.le_of_ble_eq_true rfl) (by decide +kernel) dX13_voltage_45 (by repeat (first | (with_reducible refine sv_us.trans ?_; exact rfl) | with_reducible assumption | with_reducible refine (sv_un (by omega)).trans ?_)) (by repeat (first | with_reducible assumption | (with_reducible refine (sv_ls (by first | omega | (simp only [List.length_set]; omega))).trans ?_; exact rfl) | with_reducible refine (List.getElem?_set_ne (by decide)).trans ?_)) ?_
          refine v_iload_n dX13_voltage_48 rfl 1 rfl ?_
          refine v_laldS (v := f p) dX13_voltage_49 (by repeat (first | (with_reducible refine sv_us.trans ?_; exact rfl) | with_reducible assumption | with_reducible refine (sv_un (by omega)).trans ?_)) (vp_in_nI hp (by omega)) (by rw [nI_clamp (by omega)]) ?_
          refine v_lload_n dX13_voltage_50 rfl 2 rfl ?_
          refine v_lcmp_ne (tgt := 57) dX13_voltage_51 dX13_voltage_52 (by decide) (fun c_52 => ?_) (fun c_52 => ?_)
          · refine v_aload_n dX13_voltage_57 rfl 0 rfl ?_
            refine v_getf 6 (ci := 11) (C := RX13) (T := TX13) (N := 71) rfl iwX13_voltage_X13 (Nat.le_of_ble_eq_true rfl) (by decide +kernel) dX13_voltage_58 (by repeat (first | (with_reducible refine sv_us.trans ?_; exact rfl) | with_reducible assumption | with_reducible refine (sv_un (by omega)).trans ?_)) (by repeat (first | with_reducible assumption | (with_reducible refine (sv_ls (by first | omega | (simp only [List.length_set]; omega))).trans ?_; exact rfl) | with_reducible refine (List.getElem?_set_ne (by decide)).trans ?_)) ?_
            refine v_iload_n dX13_voltage_61 rfl 1 rfl ?_
            refine v_lload_n dX13_voltage_62 rfl 2 rfl ?_
            refine v_last dX13_voltage_63 (by repeat (first | (with_reducible refine sv_us.trans ?_; exact rfl) | with_reducible assumption | with_reducible refine (sv_un (by omega)).trans ?_)) (vp_in_nI hp (by omega)) ?_
            refine v_iconst (v := 1) dX13_voltage_64 (by decide) ?_
            exact v_iret rfl dX13_voltage_65 (Nat.le_of_ble_eq_true rfl) (Nat.le_of_ble_eq_true rfl) rfl ⟨rfl, Or.inr ⟨c_52, rfl, by rw [nI_clamp (by omega)]⟩⟩
          · refine v_iconst (v := 0) dX13_voltage_55 (by decide) ?_
            exact v_iret rfl dX13_voltage_56 (Nat.le_of_ble_eq_true rfl) (Nat.le_of_ble_eq_true rfl) rfl ⟨rfl, Or.inl ⟨c_52, rfl, rfl⟩⟩
      · exact absurd hx2 c_26
  · exact absurd c_6 (by decide)

set_option maxHeartbeats 4000000 in
set_option maxRecDepth 100000 in
theorem m_voltage_a (G : sv_G) (h : sv_h) (z m : Nat) (fs : List Value) (hlen : fs.length = 71) (hm : h m = some (.inr (11, fs))) (c pn : Int32) (x : Int64) (f_polygons : fs[3]? = some (.int pn)) (hg : 0 ≤ c ∧ c < pn) (hx : ¬ (¬ x < -1000000 ∧ x ≤ 1000000)) : CT G mX13_voltage [.ref m, .int c, .long x] h z (fun v h1 z1 => v = some (.int 0) ∧ h1 = va_up h m (some (.inr (11, fs.set 0 (.int 2)))) ∧ z1 = z) := by
  refine CT.of (by decide +kernel) rfl rfl (Nat.le_of_ble_eq_true rfl) ?_
  refine v_aload_n dX13_voltage_0 rfl 0 rfl ?_
  refine v_aload_n dX13_voltage_1 rfl 0 rfl ?_
  refine v_iload_n dX13_voltage_2 rfl 1 rfl ?_
  refine v_callV (M' := mX13_isPolygon) (n := 1) (As := [_]) (ci := 11) (r := (RX13, TX13, 71)) gX13_voltage_X13_isPolygon rfl (by decide +kernel) ⟨(Nat.le_of_ble_eq_true rfl), (Nat.le_of_ble_eq_true rfl)⟩ rfl rfl dX13_voltage_3 rfl ⟨(Nat.le_of_ble_eq_true rfl), (Nat.le_of_ble_eq_true rfl)⟩ (Nat.le_of_ble_eq_true rfl) (by repeat (first | (with_reducible refine sv_us.trans ?_; exact rfl) | with_reducible assumption | with_reducible refine (sv_un (by omega)).trans ?_)) rfl (m_isPolygon G _ _ _ _ hlen hm _ _ f_polygons) (fun v h1 z1 hq => ?_)
  rw [if_pos hg] at hq
  obtain ⟨rfl, rfl, rfl⟩ := hq
  refine v_if_ne (tgt := 13) dX13_voltage_6 (by decide) (fun c_6 => ?_) (fun c_6 => ?_)
  · refine v_lload_n dX13_voltage_13 rfl 2 rfl ?_
    refine v_ldc2 (v := (-1000000)) (by decide +kernel) dX13_voltage_14 ?_
    refine v_lcmp_lt (tgt := 29) dX13_voltage_17 dX13_voltage_18 (by decide) (fun c_18 => ?_) (fun c_18 => ?_)
    · refine v_iconst (v := 2) dX13_voltage_29 (by decide) ?_
      refine v_goto (tgt := 34) dX13_voltage_30 (by decide) ?_
      refine v_putf 0 (fs' := _) (ci := 11) (C := RX13) (T := TX13) (N := 71) (ty := .int) rfl iwX13_voltage_X13 tyX13 tyX13_ok nmX13 (Nat.le_of_ble_eq_true rfl) (by decide +kernel) rfl rfl dX13_voltage_34 rfl rfl (by repeat (first | (with_reducible refine sv_us.trans ?_; exact rfl) | with_reducible assumption | with_reducible refine (sv_un (by omega)).trans ?_)) (by first | omega | (simp only [List.length_set]; omega)) rfl ?_
      refine v_aload_n dX13_voltage_37 rfl 0 rfl ?_
      refine v_getf 0 (ci := 11) (C := RX13) (T := TX13) (N := 71) rfl iwX13_voltage_X13 (Nat.le_of_ble_eq_true rfl) (by decide +kernel) dX13_voltage_38 (by repeat (first | (with_reducible refine sv_us.trans ?_; exact rfl) | with_reducible assumption | with_reducible refine (sv_un (by omega)).trans ?_)) (by repeat (first | with_reducible assumption | (with_reducible refine (sv_ls (by first | omega | (simp only [List.length_set]; omega))).trans ?_; exact rfl) | with_reducible refine (List.getElem?_set_ne (by decide)).trans ?_)) ?_
      refine v_if_gt (tgt := 55) dX13_voltage_41 (by decide) (fun c_41 => ?_) (fun c_41 => ?_)
      · refine v_iconst (v := 0) dX13_voltage_55 (by decide) ?_
        exact v_iret rfl dX13_voltage_56 (Nat.le_of_ble_eq_true rfl) (Nat.le_of_ble_eq_true rfl) rfl ⟨rfl, rfl, rfl⟩
      · exact absurd (by decide) c_41
    · refine v_lload_n dX13_voltage_21 rfl 2 rfl ?_
      refine v_ldc2 (v := (1000000)) (by decide +kernel) dX13_voltage_22 ?_
      refine v_lcmp_le (tgt := 33) dX13_voltage_25 dX13_voltage_26 (by decide) (fun c_26 => ?_) (fun c_26 => ?_)
      · exact absurd ⟨c_18, c_26⟩ hx
      · refine v_iconst (v := 2) dX13_voltage_29 (by decide) ?_
        refine v_goto (tgt := 34) dX13_voltage_30 (by decide) ?_
        refine v_putf 0 (fs' := _) (ci := 11) (C := RX13) (T := TX13) (N := 71) (ty := .int) rfl iwX13_voltage_X13 tyX13 tyX13_ok nmX13 (Nat.le_of_ble_eq_true rfl) (by decide +kernel) rfl rfl dX13_voltage_34 rfl rfl (by repeat (first | (with_reducible refine sv_us.trans ?_; exact rfl) | with_reducible assumption | with_reducible refine (sv_un (by omega)).trans ?_)) (by first | omega | (simp only [List.length_set]; omega)) rfl ?_
        refine v_aload_n dX13_voltage_37 rfl 0 rfl ?_
        refine v_getf 0 (ci := 11) (C := RX13) (T := TX13) (N := 71) rfl iwX13_voltage_X13 (Nat.le_of_ble_eq_true rfl) (by decide +kernel) dX13_voltage_38 (by repeat (first | (with_reducible refine sv_us.trans ?_; exact rfl) | with_reducible assumption | with_reducible refine (sv_un (by omega)).trans ?_)) (by repeat (first | with_reducible assumption | (with_reducible refine (sv_ls (by first | omega | (simp only [List.length_set]; omega))).trans ?_; exact rfl) | with_reducible refine (List.getElem?_set_ne (by decide)).trans ?_)) ?_
        refine v_if_gt (tgt := 55) dX13_voltage_41 (by decide) (fun c_41 => ?_) (fun c_41 => ?_)
        · refine v_iconst (v := 0) dX13_voltage_55 (by decide) ?_
          exact v_iret rfl dX13_voltage_56 (Nat.le_of_ble_eq_true rfl) (Nat.le_of_ble_eq_true rfl) rfl ⟨rfl, rfl, rfl⟩
        · exact absurd (by decide) c_41
  · exact absurd c_6 (by decide)

theorem sv_updL_eq {f : Nat → Int64} {k : Nat} {x : Int64} : vp_updL f k x k = x := by simp [vp_updL]
theorem sv_updL_ne {f : Nat → Int64} {k j : Nat} {x : Int64} (h : j ≠ k) : vp_updL f k x j = f j := by simp [vp_updL, h]
theorem ab_ok.volt {nc np pl : Nat} {sz : Nat → Nat} {t : Nat → Nat → Int32} {u : Nat → Nat → Nat → Int32} (H : ab_ok nc np pl sz t u) {p : Nat} {x : Int32} (h1 : (-1000000 : Int32) ≤ x) (h2 : x ≤ 1000000) : ab_ok nc np pl sz (ab_t t 2 p x) u := by
  obtain ⟨a1, a2, a3, a4, a5, a6⟩ := H
  refine ⟨a1, a2, a3, fun p' hp => ?_, fun i hi => ?_, ?_⟩
  · obtain ⟨b1, b2, b3, b4, b5⟩ := a4 p' hp
    rw [ab_t_ne (c' := 0) (Or.inl (by decide))]
    by_cases q : p' = p
    · rw [q, ab_t_eq]; rw [q] at b1 b2 b5; exact ⟨b1, b2, h1, h2, b5⟩
    · rw [ab_t_ne (c' := 2) (Or.inr q)]; exact ⟨b1, b2, b3, b4, b5⟩
  · rw [ab_t_ne (c' := 3) (Or.inl (by decide)), ab_t_ne (c' := 4) (Or.inl (by decide)), ab_t_ne (c' := 5) (Or.inl (by decide)), ab_t_ne (c' := 6) (Or.inl (by decide)), ab_t_ne (c' := 7) (Or.inl (by decide))]
    exact a5 i hi
  · obtain ⟨rk, hr⟩ := a6
    refine ⟨rk, fun i hi => ?_⟩
    rw [ab_t_ne (c' := 3) (Or.inl (by decide)), ab_t_ne (c' := 4) (Or.inl (by decide))]
    exact hr i hi
theorem sv_j2r {x : Int64} (h1 : ¬ x < -1000000) (h2 : x ≤ 1000000) : (-1000000 : Int32) ≤ x.toInt32 ∧ x.toInt32 ≤ 1000000 := by
  have e := sv_j2i h1 h2
  rw [← Int64.toInt_inj, Int32.toInt_toInt64] at e
  rw [Int64.lt_iff_toInt_lt] at h1
  rw [Int64.le_iff_toInt_le] at h2
  rw [show (-1000000 : Int64).toInt = -1000000 by decide] at h1
  rw [show (1000000 : Int64).toInt = 1000000 by decide] at h2
  rw [Int32.le_iff_toInt_le, Int32.le_iff_toInt_le, show (-1000000 : Int32).toInt = -1000000 by decide, show (1000000 : Int32).toInt = 1000000 by decide, e]
  omega
theorem g_voltage (G : sv_G) (hl0 : G.1.stackTraces = false) (b : Nat) (c : Int32) (x : Int64) : OpZ G mX12_voltage mX13_voltage b (b + 220) (b + 261) ["java/lang/IndexOutOfBoundsException", "java/lang/IllegalArgumentException"] [.int c, .long x] (ab_Inv G b) (ab_Inv G b) := by
  refine OpZ.of fun h z hi => ?_
  obtain ⟨k, nc, np, pl, sz, t, u, pa, ma, tn, tp, nr, r, ru, rd, nl, lr, la, fo, fl, nw, wr, lX, lq, lf, mf, fs, ⟨gok, gLay, gAd, gML⟩, ⟨gTp, gMTp⟩, ⟨gRu, gRd, gRl, gRr, gMR⟩, ⟨gLa, gFo, gFl, gLo, gMLa⟩, ⟨gWv, gMWv⟩, ⟨gDk, glq, gmf, glf⟩, ⟨gm, gfs⟩, ⟨gCk, gSc, go⟩⟩ := id hi
  obtain ⟨gru, i1, i2, i3, i4, i5, i6, i7, i8, i9, gla, gfo, gfl⟩ := id gDk.2
  have gz := gAd.1
  obtain ⟨f0, ho⟩ := id go
  obtain ⟨l1, ⟨fp, l2, l3⟩, l4, l5, l6, l7, l8, l9, l10⟩ := id gLay
  have hnp : np ≤ 64 := gok.2.1
  by_cases hg : 0 ≤ c ∧ c < nI np
  · by_cases hx : ¬ x < -1000000 ∧ x ≤ 1000000
    · obtain ⟨p, hp, rfl⟩ := sv_idx (by omega) hg
      obtain ⟨rt, ar, fx, fy, ff, fo', w1, w2, w3, w4, w5, w6, w7⟩ := l9 p hp
      obtain ⟨⟨m0, n0, o0⟩, ⟨m1, n1, o1⟩, ⟨m2, n2, o2⟩, ⟨m3, n3, o3⟩, ⟨m4, n4, o4⟩, ⟨m5, n5, o5⟩, ⟨m6, n6, o6⟩, ⟨m7, n7, o7⟩, ⟨m8, n8, o8⟩, ⟨m9, n9, o9⟩, ⟨m10, n10, o10⟩⟩ := id gML
      have hpa := gAd.2.1 p hp
      intro h0 z0 hpt
      obtain ⟨rfl, rfl⟩ := hpt
      refine ⟨_, _, c_voltage G hl0 h0 z0 b p (pa p) x _ _ _ _ _ _ _ _ _ _ _ _ _ gDk.1 _ _ _ _ _ _ _ _ _ _ l1 hg hx.1 hx.2 fp l2 (by omega) (l3 p hp) _ _ _ _ _ _ _ _ _ _ w1, fun v h1 z1 hq => ?_, fun E h1 z1 hq => hq.elim⟩
      obtain ⟨rfl, rfl, rfl⟩ := hq
      refine ⟨_, rfl, ⟨f0, (sv_un (by omega)).trans ho⟩, by omega, ⟨_, (sv_un (by omega)).trans gm⟩, fun h2 g e1 e2 e3 => ?_⟩
      have hm2 : h2 (b + 220) = some (.inr (11, fs)) := (e3 _ (by omega)).trans ((sv_un (by omega)).trans gm)
      refine ⟨_, m_voltage G _ _ _ _ gfs.1 hm2 p (b + 223) _ x m2 gfs.f_polygons gfs.f_volts ((e3 _ (by omega)).trans ((sv_un (by omega)).trans n2)) (by omega) hg (by omega) hx.1 hx.2, fun v2 h3 z3 hq2 => ?_⟩
      have hv := o2 p hp
      have hr := sv_j2r hx.1 hx.2
      obtain ⟨rfl, hq2⟩ := hq2
      have e4 : ∃ f2, h3 (b + 223) = some (.inl (G.2.2.1 1, 64, .inr (.inl f2))) ∧ (∀ j, j < np → f2 j = (ab_t t 2 p x.toInt32 2 j).toInt64) := by
        rcases hq2 with ⟨r1, r2, rfl⟩ | ⟨r1, r2, rfl⟩
        · refine ⟨m2, (sv_un (by omega)).trans ((e3 _ (by omega)).trans ((sv_un (by omega)).trans n2)), fun j hj => ?_⟩
          by_cases q : j = p
          · rw [q, ab_t_eq, sv_j2i hx.1 hx.2]; exact r1
          · rw [ab_t_ne (Or.inr q)]; exact o2 j hj
        · refine ⟨vp_updL m2 p x, sv_us, fun j hj => ?_⟩
          by_cases q : j = p
          · rw [q, ab_t_eq, sv_j2i hx.1 hx.2, sv_updL_eq]
          · rw [ab_t_ne (Or.inr q), sv_updL_ne q]; exact o2 j hj
      have e5 : v2 = some (.int (if (t 2 p).toInt64 = x then 0 else 1)) := by
        rcases hq2 with ⟨r1, r2, rfl⟩ | ⟨r1, r2, rfl⟩
        · rw [if_pos (hv.symm.trans r1)]; exact r2
        · rw [if_neg (fun q => r1 (hv.trans q))]; exact r2
      have e6 : ∀ a, a ≠ pa p → a ≠ b + 220 → a ≠ b + 223 → a ≠ b + 261 → h3 a = h0 a := by
        intro a q1 q2 q3 q4
        rcases hq2 with ⟨r1, r2, rfl⟩ | ⟨r1, r2, rfl⟩
        · exact (sv_un q2).trans ((e3 a q4).trans (sv_un q1))
        · exact (sv_un q3).trans ((sv_un q2).trans ((e3 a q4).trans (sv_un q1)))
      have e7 : h3 (b + 220) = some (.inr (11, fs.set 0 (.int 0))) := by
        rcases hq2 with ⟨r1, r2, rfl⟩ | ⟨r1, r2, rfl⟩
        · exact sv_us
        · exact (sv_un (by omega)).trans sv_us
      have e8 : h3 (b + 261) = some (.inl (G.2.2.1 1, 1, .inr (.inl g))) := by
        rcases hq2 with ⟨r1, r2, rfl⟩ | ⟨r1, r2, rfl⟩
        · exact (sv_un (by omega)).trans e1
        · exact (sv_un (by omega)).trans ((sv_un (by omega)).trans e1)
      have e9 : h3 (pa p) = some (.inr (3, [.int (t 0 p), .int (t 1 p), .ref (pa p + 1), .ref (pa p + 2), .int (nI (sz p)), .int x.toInt32, .int rt, .int ar, .ref (pa p + 3), .ref (pa p + 4)])) := by
        rcases hq2 with ⟨r1, r2, rfl⟩ | ⟨r1, r2, rfl⟩
        · exact (sv_un (by omega)).trans ((e3 _ (by omega)).trans sv_us)
        · exact (sv_un (by omega)).trans ((sv_un (by omega)).trans ((e3 _ (by omega)).trans sv_us))
      clear hq2
      obtain ⟨f2, e4, e4'⟩ := e4
      refine ⟨e5, ⟨_, e7, by rw [List.length_set]; exact gfs.1, sv_ls (by rw [gfs.1]; decide)⟩, e8, ?_⟩
      have gLay' : ab_Lay G h3 b k nc np pl sz (ab_t t 2 p x.toInt32) u pa ma := by
        refine gLay.poly gAd hp ?_ (fun a q1 q2 => e6 a (by omega) (by omega) (by omega) (by omega)) (fun a q1 q2 q3 => e6 a (by omega) (by omega) (by omega) (by omega)) (fun c' i' hc => ?_) (fun _ _ => rfl) (fun _ _ _ => rfl)
        · rw [ab_t_ne (c' := 0) (Or.inl (by decide)), ab_t_ne (c' := 1) (Or.inl (by decide)), ab_t_eq]
          exact ⟨rt, ar, fx, fy, ff, fo', e9, (e6 _ (by omega) (by omega) (by omega) (by omega)).trans w2, (e6 _ (by omega) (by omega) (by omega) (by omega)).trans w3, (e6 _ (by omega) (by omega) (by omega) (by omega)).trans w4, (e6 _ (by omega) (by omega) (by omega) (by omega)).trans w5, w6, w7⟩
        · refine ab_t_ne ?_
          by_cases q : c' = 2
          · exact Or.inr (hc (by omega))
          · exact Or.inl q
      have gML' : ab_MLay G h3 b nc np pl sz (ab_t t 2 p x.toInt32) u := ⟨⟨m0, (e6 _ (by omega) (by omega) (by omega) (by omega)).trans n0, fun i hi => by rw [ab_t_ne (Or.inl (by decide))]; exact o0 i hi⟩, ⟨m1, (e6 _ (by omega) (by omega) (by omega) (by omega)).trans n1, fun i hi => by rw [ab_t_ne (Or.inl (by decide))]; exact o1 i hi⟩, ⟨f2, e4, e4'⟩, ⟨m3, (e6 _ (by omega) (by omega) (by omega) (by omega)).trans n3, o3⟩, ⟨m4, (e6 _ (by omega) (by omega) (by omega) (by omega)).trans n4, o4⟩, ⟨m5, (e6 _ (by omega) (by omega) (by omega) (by omega)).trans n5, o5⟩, ⟨m6, (e6 _ (by omega) (by omega) (by omega) (by omega)).trans n6, fun i hi => by rw [ab_t_ne (Or.inl (by decide))]; exact o6 i hi⟩, ⟨m7, (e6 _ (by omega) (by omega) (by omega) (by omega)).trans n7, fun i hi => by rw [ab_t_ne (Or.inl (by decide))]; exact o7 i hi⟩, ⟨m8, (e6 _ (by omega) (by omega) (by omega) (by omega)).trans n8, fun i hi => by rw [ab_t_ne (Or.inl (by decide))]; exact o8 i hi⟩, ⟨m9, (e6 _ (by omega) (by omega) (by omega) (by omega)).trans n9, fun i hi => by rw [ab_t_ne (Or.inl (by decide))]; exact o9 i hi⟩, ⟨m10, (e6 _ (by omega) (by omega) (by omega) (by omega)).trans n10, fun i hi => by rw [ab_t_ne (Or.inl (by decide))]; exact o10 i hi⟩⟩
      exact ⟨k, nc, np, pl, sz, (ab_t t 2 p x.toInt32), u, pa, ma, tn, tp, nr, r, ru, rd, nl, lr, la, fo, fl, nw, wr, lX, lq, lf, mf, _, ⟨gok.volt hr.1 hr.2, gLay', gAd, gML'⟩, ⟨gTp.kept (fun a q1 q2 => e6 a (by omega) (by omega) (by omega) (by omega)), gMTp.kept (fun a q1 q2 => e6 a (by omega) (by omega) (by omega) (by omega))⟩, ⟨gRu.kept (by omega) (fun a q1 q2 => e6 a (by omega) (by omega) (by omega) (by omega)), gRd.kept (by omega) (fun a q1 q2 => e6 a (by omega) (by omega) (by omega) (by omega)), gRl.kept (fun a q1 q2 => e6 a (by omega) (by omega) (by omega) (by omega)), gRr.kept (fun a q1 q2 => e6 a (by omega) (by omega) (by omega) (by omega)), gMR.kept (fun a q1 q2 => e6 a (by omega) (by omega) (by omega) (by omega))⟩, ⟨gLa.kept (fun a q1 q2 => e6 a (by omega) (by omega) (by omega) (by omega)), gFo.kept (fun a q1 q2 => e6 a (by omega) (by omega) (by omega) (by omega)), gFl.kept (fun a q1 q2 => e6 a (by omega) (by omega) (by omega) (by omega)), gLo.kept (fun a q1 q2 => e6 a (by omega) (by omega) (by omega) (by omega)), gMLa.kept (fun a q1 q2 => e6 a (by omega) (by omega) (by omega) (by omega))⟩, ⟨gWv.kept (fun a q1 q2 => e6 a (by omega) (by omega) (by omega) (by omega)), gMWv.kept (fun a q1 q2 => e6 a (by omega) (by omega) (by omega) (by omega))⟩, ⟨gDk.kept (fun a q1 q2 => e6 a (by omega) (by omega) (by omega) (by omega)), glq, gmf, glf⟩, ⟨e7, gfs.code _⟩, ⟨gCk.kept (fun a q1 q2 => e6 a (by omega) (by omega) (by omega) (by omega)), gSc.kept (fun a q1 q2 => e6 a (by omega) (by omega) (by omega) (by omega)), ⟨_, e8⟩⟩⟩
    · exact at_refZ 1 hi rfl (c_voltage_a G hl0 h z b c x _ _ _ _ _ _ _ _ _ _ _ _ _ gDk.1 _ _ _ _ _ _ _ _ _ _ l1 hg hx) gm gfs.1 (fun z1 => m_voltage_a G _ _ _ _ gfs.1 gm c _ x gfs.f_polygons hg hx)
  · exact at_refZ 0 hi rfl (c_voltage_o G hl0 h z b _ _ _ _ _ _ _ _ _ _ _ _ _ gDk.1 c x _ _ _ _ _ _ _ _ _ _ l1 hg) gm gfs.1 (fun z1 => m_voltage_o G _ _ _ _ gfs.1 gm c x _ gfs.f_polygons hg)
