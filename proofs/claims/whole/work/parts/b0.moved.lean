theorem iwX10_addMoved_X10 : ∀ w ∈ wsX100, w ∈ wsX10_addMoved := by decide +kernel
set_option maxRecDepth 20000 in
theorem ggX10_addMoved_X10_value : GoodIn wsX10_addMoved wsX10_value := goodIn_r _ [21, 11, 10, 40, 41, 42, 43, 44, 45, 46] (by decide +kernel) (by decide +kernel)
set_option maxRecDepth 20000 in
theorem gX10_addMoved_X10_value : GoodIn wsX10_addMoved (wsV RX10 40 RX10 yX10_value wsX10_value) := goodIn_app (goodIn_of _ (by decide +kernel)) ggX10_addMoved_X10_value
set_option maxRecDepth 20000 in
theorem ggX10_addMoved_X4_xOf : GoodIn wsX10_addMoved wsX4_xOf := goodIn_r _ [26, 27, 28, 29, 47, 48, 49, 50] (by decide +kernel) (by decide +kernel)
set_option maxRecDepth 20000 in
theorem gX10_addMoved_X4_xOf : GoodIn wsX10_addMoved (wsV RX10 44 RX4 yX4_xOf wsX4_xOf) := goodIn_app (goodIn_of _ (by decide +kernel)) ggX10_addMoved_X4_xOf
set_option maxRecDepth 20000 in
theorem ggX10_addMoved_X4_yOf : GoodIn wsX10_addMoved wsX4_yOf := goodIn_r _ [33, 27, 28, 34, 47, 48, 49, 50] (by decide +kernel) (by decide +kernel)
set_option maxRecDepth 20000 in
theorem gX10_addMoved_X4_yOf : GoodIn wsX10_addMoved (wsV RX10 50 RX4 yX4_yOf wsX4_yOf) := goodIn_app (goodIn_of _ (by decide +kernel)) ggX10_addMoved_X4_yOf
set_option maxRecDepth 20000 in
theorem ggX10_addMoved_X10_add : GoodIn wsX10_addMoved wsX10_add := goodIn_r _ [38, 12, 9, 11, 1, 13, 14, 15, 16, 10, 39, 40, 41, 42, 43, 44, 45, 46] (by decide +kernel) (by decide +kernel)
set_option maxRecDepth 20000 in
theorem gX10_addMoved_X10_add : GoodIn wsX10_addMoved (wsV RX10 61 RX10 yX10_add wsX10_add) := goodIn_app (goodIn_of _ (by decide +kernel)) ggX10_addMoved_X10_add
theorem dX10_addMoved_0 : decode cX10_addMoved 0 = .ok (.aload_n 1, 1) := by decide +kernel
theorem dX10_addMoved_1 : decode cX10_addMoved 1 = .ok (.iload_n 2, 1) := by decide +kernel
theorem dX10_addMoved_2 : decode cX10_addMoved 2 = .ok (.iconst 0, 1) := by decide +kernel
theorem dX10_addMoved_3 : decode cX10_addMoved 3 = .ok (.invokevirtual 40, 3) := by decide +kernel
theorem dX10_addMoved_6 : decode cX10_addMoved 6 = .ok (.l2i, 1) := by decide +kernel
theorem dX10_addMoved_7 : decode cX10_addMoved 7 = .ok (.istore 4, 2) := by decide +kernel
theorem dX10_addMoved_9 : decode cX10_addMoved 9 = .ok (.aload_n 1, 1) := by decide +kernel
theorem dX10_addMoved_10 : decode cX10_addMoved 10 = .ok (.iload_n 2, 1) := by decide +kernel
theorem dX10_addMoved_11 : decode cX10_addMoved 11 = .ok (.iconst 1, 1) := by decide +kernel
theorem dX10_addMoved_12 : decode cX10_addMoved 12 = .ok (.invokevirtual 40, 3) := by decide +kernel
theorem dX10_addMoved_15 : decode cX10_addMoved 15 = .ok (.l2i, 1) := by decide +kernel
theorem dX10_addMoved_16 : decode cX10_addMoved 16 = .ok (.istore 5, 2) := by decide +kernel
theorem dX10_addMoved_18 : decode cX10_addMoved 18 = .ok (.aload_n 1, 1) := by decide +kernel
theorem dX10_addMoved_19 : decode cX10_addMoved 19 = .ok (.iload_n 2, 1) := by decide +kernel
theorem dX10_addMoved_20 : decode cX10_addMoved 20 = .ok (.iconst 2, 1) := by decide +kernel
theorem dX10_addMoved_21 : decode cX10_addMoved 21 = .ok (.invokevirtual 40, 3) := by decide +kernel
theorem dX10_addMoved_24 : decode cX10_addMoved 24 = .ok (.l2i, 1) := by decide +kernel
theorem dX10_addMoved_25 : decode cX10_addMoved 25 = .ok (.istore 6, 2) := by decide +kernel
theorem dX10_addMoved_27 : decode cX10_addMoved 27 = .ok (.aload_n 1, 1) := by decide +kernel
theorem dX10_addMoved_28 : decode cX10_addMoved 28 = .ok (.iload_n 2, 1) := by decide +kernel
theorem dX10_addMoved_29 : decode cX10_addMoved 29 = .ok (.iconst 3, 1) := by decide +kernel
theorem dX10_addMoved_30 : decode cX10_addMoved 30 = .ok (.invokevirtual 40, 3) := by decide +kernel
theorem dX10_addMoved_33 : decode cX10_addMoved 33 = .ok (.l2i, 1) := by decide +kernel
theorem dX10_addMoved_34 : decode cX10_addMoved 34 = .ok (.istore 7, 2) := by decide +kernel
theorem dX10_addMoved_36 : decode cX10_addMoved 36 = .ok (.aload_n 0, 1) := by decide +kernel
theorem dX10_addMoved_37 : decode cX10_addMoved 37 = .ok (.aload_n 1, 1) := by decide +kernel
theorem dX10_addMoved_38 : decode cX10_addMoved 38 = .ok (.iload_n 2, 1) := by decide +kernel
theorem dX10_addMoved_39 : decode cX10_addMoved 39 = .ok (.bipush 7, 2) := by decide +kernel
theorem dX10_addMoved_41 : decode cX10_addMoved 41 = .ok (.invokevirtual 40, 3) := by decide +kernel
theorem dX10_addMoved_44 : decode cX10_addMoved 44 = .ok (.l2i, 1) := by decide +kernel
theorem dX10_addMoved_45 : decode cX10_addMoved 45 = .ok (.putfield 31, 3) := by decide +kernel
theorem dX10_addMoved_48 : decode cX10_addMoved 48 = .ok (.aload_n 3, 1) := by decide +kernel
theorem dX10_addMoved_49 : decode cX10_addMoved 49 = .ok (.iload 4, 2) := by decide +kernel
theorem dX10_addMoved_51 : decode cX10_addMoved 51 = .ok (.iload 5, 2) := by decide +kernel
theorem dX10_addMoved_53 : decode cX10_addMoved 53 = .ok (.invokevirtual 44, 3) := by decide +kernel
theorem dX10_addMoved_56 : decode cX10_addMoved 56 = .ok (.istore 8, 2) := by decide +kernel
theorem dX10_addMoved_58 : decode cX10_addMoved 58 = .ok (.aload_n 3, 1) := by decide +kernel
theorem dX10_addMoved_59 : decode cX10_addMoved 59 = .ok (.iload 4, 2) := by decide +kernel
theorem dX10_addMoved_61 : decode cX10_addMoved 61 = .ok (.iload 5, 2) := by decide +kernel
theorem dX10_addMoved_63 : decode cX10_addMoved 63 = .ok (.invokevirtual 50, 3) := by decide +kernel
theorem dX10_addMoved_66 : decode cX10_addMoved 66 = .ok (.istore 9, 2) := by decide +kernel
theorem dX10_addMoved_68 : decode cX10_addMoved 68 = .ok (.aload_n 3, 1) := by decide +kernel
theorem dX10_addMoved_69 : decode cX10_addMoved 69 = .ok (.iload 6, 2) := by decide +kernel
theorem dX10_addMoved_71 : decode cX10_addMoved 71 = .ok (.iload 7, 2) := by decide +kernel
theorem dX10_addMoved_73 : decode cX10_addMoved 73 = .ok (.invokevirtual 44, 3) := by decide +kernel
theorem dX10_addMoved_76 : decode cX10_addMoved 76 = .ok (.istore 10, 2) := by decide +kernel
theorem dX10_addMoved_78 : decode cX10_addMoved 78 = .ok (.aload_n 3, 1) := by decide +kernel
theorem dX10_addMoved_79 : decode cX10_addMoved 79 = .ok (.iload 6, 2) := by decide +kernel
theorem dX10_addMoved_81 : decode cX10_addMoved 81 = .ok (.iload 7, 2) := by decide +kernel
theorem dX10_addMoved_83 : decode cX10_addMoved 83 = .ok (.invokevirtual 50, 3) := by decide +kernel
theorem dX10_addMoved_86 : decode cX10_addMoved 86 = .ok (.istore 11, 2) := by decide +kernel
theorem dX10_addMoved_88 : decode cX10_addMoved 88 = .ok (.aload_n 0, 1) := by decide +kernel
theorem dX10_addMoved_89 : decode cX10_addMoved 89 = .ok (.iload 8, 2) := by decide +kernel
theorem dX10_addMoved_91 : decode cX10_addMoved 91 = .ok (.iload 10, 2) := by decide +kernel
theorem dX10_addMoved_93 : decode cX10_addMoved 93 = .ok (.invokestatic 53, 3) := by decide +kernel
theorem dX10_addMoved_96 : decode cX10_addMoved 96 = .ok (.iload 9, 2) := by decide +kernel
theorem dX10_addMoved_98 : decode cX10_addMoved 98 = .ok (.iload 11, 2) := by decide +kernel
theorem dX10_addMoved_100 : decode cX10_addMoved 100 = .ok (.invokestatic 53, 3) := by decide +kernel
theorem dX10_addMoved_103 : decode cX10_addMoved 103 = .ok (.iload 8, 2) := by decide +kernel
theorem dX10_addMoved_105 : decode cX10_addMoved 105 = .ok (.iload 10, 2) := by decide +kernel
theorem dX10_addMoved_107 : decode cX10_addMoved 107 = .ok (.invokestatic 58, 3) := by decide +kernel
theorem dX10_addMoved_110 : decode cX10_addMoved 110 = .ok (.iload 9, 2) := by decide +kernel
theorem dX10_addMoved_112 : decode cX10_addMoved 112 = .ok (.iload 11, 2) := by decide +kernel
theorem dX10_addMoved_114 : decode cX10_addMoved 114 = .ok (.invokestatic 58, 3) := by decide +kernel
theorem dX10_addMoved_117 : decode cX10_addMoved 117 = .ok (.aload_n 1, 1) := by decide +kernel
theorem dX10_addMoved_118 : decode cX10_addMoved 118 = .ok (.iload_n 2, 1) := by decide +kernel
theorem dX10_addMoved_119 : decode cX10_addMoved 119 = .ok (.iconst 4, 1) := by decide +kernel
theorem dX10_addMoved_120 : decode cX10_addMoved 120 = .ok (.invokevirtual 40, 3) := by decide +kernel
theorem dX10_addMoved_123 : decode cX10_addMoved 123 = .ok (.l2i, 1) := by decide +kernel
theorem dX10_addMoved_124 : decode cX10_addMoved 124 = .ok (.aload_n 1, 1) := by decide +kernel
theorem dX10_addMoved_125 : decode cX10_addMoved 125 = .ok (.iload_n 2, 1) := by decide +kernel
theorem dX10_addMoved_126 : decode cX10_addMoved 126 = .ok (.iconst 5, 1) := by decide +kernel
theorem dX10_addMoved_127 : decode cX10_addMoved 127 = .ok (.invokevirtual 40, 3) := by decide +kernel
theorem dX10_addMoved_130 : decode cX10_addMoved 130 = .ok (.l2i, 1) := by decide +kernel
theorem dX10_addMoved_131 : decode cX10_addMoved 131 = .ok (.aload_n 1, 1) := by decide +kernel
theorem dX10_addMoved_132 : decode cX10_addMoved 132 = .ok (.iload_n 2, 1) := by decide +kernel
theorem dX10_addMoved_133 : decode cX10_addMoved 133 = .ok (.bipush 6, 2) := by decide +kernel
theorem dX10_addMoved_135 : decode cX10_addMoved 135 = .ok (.invokevirtual 40, 3) := by decide +kernel
theorem dX10_addMoved_138 : decode cX10_addMoved 138 = .ok (.invokevirtual 61, 3) := by decide +kernel
theorem dX10_addMoved_141 : decode cX10_addMoved 141 = .ok (.aload_n 0, 1) := by decide +kernel
theorem dX10_addMoved_142 : decode cX10_addMoved 142 = .ok (.getfield 27, 3) := by decide +kernel
theorem dX10_addMoved_145 : decode cX10_addMoved 145 = .ok (.ifCond .ne 43, 3) := by decide +kernel
theorem dX10_addMoved_148 : decode cX10_addMoved 148 = .ok (.aload_n 1, 1) := by decide +kernel
theorem dX10_addMoved_149 : decode cX10_addMoved 149 = .ok (.getfield 13, 3) := by decide +kernel
theorem dX10_addMoved_152 : decode cX10_addMoved 152 = .ok (.iload_n 2, 1) := by decide +kernel
theorem dX10_addMoved_153 : decode cX10_addMoved 153 = .ok (.iaload, 1) := by decide +kernel
theorem dX10_addMoved_154 : decode cX10_addMoved 154 = .ok (.bipush 12, 2) := by decide +kernel
theorem dX10_addMoved_156 : decode cX10_addMoved 156 = .ok (.imul, 1) := by decide +kernel
theorem dX10_addMoved_157 : decode cX10_addMoved 157 = .ok (.bipush 8, 2) := by decide +kernel
theorem dX10_addMoved_159 : decode cX10_addMoved 159 = .ok (.iadd, 1) := by decide +kernel
theorem dX10_addMoved_160 : decode cX10_addMoved 160 = .ok (.istore 12, 2) := by decide +kernel
theorem dX10_addMoved_162 : decode cX10_addMoved 162 = .ok (.aload_n 1, 1) := by decide +kernel
theorem dX10_addMoved_163 : decode cX10_addMoved 163 = .ok (.getfield 9, 3) := by decide +kernel
theorem dX10_addMoved_166 : decode cX10_addMoved 166 = .ok (.iload 12, 2) := by decide +kernel
theorem dX10_addMoved_168 : decode cX10_addMoved 168 = .ok (.aload_n 0, 1) := by decide +kernel
theorem dX10_addMoved_169 : decode cX10_addMoved 169 = .ok (.getfield 9, 3) := by decide +kernel
theorem dX10_addMoved_172 : decode cX10_addMoved 172 = .ok (.aload_n 0, 1) := by decide +kernel
theorem dX10_addMoved_173 : decode cX10_addMoved 173 = .ok (.getfield 20, 3) := by decide +kernel
theorem dX10_addMoved_176 : decode cX10_addMoved 176 = .ok (.iconst 1, 1) := by decide +kernel
theorem dX10_addMoved_177 : decode cX10_addMoved 177 = .ok (.isub, 1) := by decide +kernel
theorem dX10_addMoved_178 : decode cX10_addMoved 178 = .ok (.bipush 12, 2) := by decide +kernel
theorem dX10_addMoved_180 : decode cX10_addMoved 180 = .ok (.imul, 1) := by decide +kernel
theorem dX10_addMoved_181 : decode cX10_addMoved 181 = .ok (.bipush 8, 2) := by decide +kernel
theorem dX10_addMoved_183 : decode cX10_addMoved 183 = .ok (.iadd, 1) := by decide +kernel
theorem dX10_addMoved_184 : decode cX10_addMoved 184 = .ok (.iconst 4, 1) := by decide +kernel
theorem dX10_addMoved_185 : decode cX10_addMoved 185 = .ok (.invokestatic 34, 3) := by decide +kernel
theorem dX10_addMoved_188 : decode cX10_addMoved 188 = .ok (.return_, 1) := by decide +kernel

abbrev mX10_addMoved : sv_M := (cX10_addMoved, 13, yX10_addMoved, wsX10_addMoved, none, { frames := 4, cells := 0, slots := 0, locals := 150 }, [])
/-- the list at t tells L, in this order -/
def tO (G : sv_G) (h : sv_h) (t : Nat) (L : List (List Int64)) : Prop := ∃ (x : Nat) (ro : Nat → Int64) (od st : Nat → Int32) (us ov hm : Int32) (w : Nat → Nat), L.length ≤ 1500 ∧ ab_told G h t x ro od st us (nI L.length) ov hm ∧ ∀ k, k < L.length → w k < 1500 ∧ od k = nI (w k) ∧ ∀ j, j < 12 → ro (12 * w k + j) = (L.getD k []).getD j 0
theorem tE.tO {G : sv_G} {h : sv_h} {t : Nat} {hm : Int32} {E : List (List Int64)} (H : tE G h t hm E) (hl : E.length ≤ 1500) : tO G h t E := by
  obtain ⟨x, ro, od, st, us, sz, ov, T, D⟩ := H
  rcases D with ⟨d1, d2, d3, d4, d5⟩ | ⟨d1, _⟩
  · subst d3
    exact ⟨x, ro, od, st, us, ov, hm, fun k => k, hl, T, fun k hk => ⟨by show k < 1500; omega, (d5 k hk).1, (d5 k hk).2⟩⟩
  · omega
theorem tO.kept {G : sv_G} {h h1 : sv_h} {t : Nat} {L : List (List Int64)} (H : tO G h t L) (fr : ∀ a, t ≤ a → a < t + 4 → h1 a = h a) : tO G h1 t L := by
  obtain ⟨x, ro, od, st, us, ov, hm, w, d1, T, d2⟩ := H
  exact ⟨x, ro, od, st, us, ov, hm, w, d1, T.kept fr, d2⟩
theorem c_tOv (G : sv_G) (h : sv_h) (z t : Nat) (L : List (List Int64)) (H : tO G h t L) (k j : Nat) (hk : k < L.length) (hj : j < 12) {jv : Int32} (e : jv = nI j) : CT G mX10_value [.ref t, .int (nI k), .int jv] h z (fun v h1 z1 => v = some (.long ((L.getD k []).getD j 0)) ∧ h1 = h ∧ z1 = z) := by
  subst e
  obtain ⟨x, ro, od, st, us, ov, hm, w, d1, ⟨t0, t1, t2, t3, t4⟩, d2⟩ := H
  obtain ⟨a1, a2, a3⟩ := d2 k hk
  rw [← a3 j hj]
  exact c_Told_value G h z t k j (w k) _ _ _ _ _ _ _ ro od t1 t2 t3 (by omega) hj a1 a2
/-- a row as it lies behind a move -/
def mvR (M : mvT) (l : List Int64) : List Int64 :=
  [jN (min (mvA M ((l.getD 0 0).toInt, (l.getD 1 0).toInt)).1 (mvA M ((l.getD 2 0).toInt, (l.getD 3 0).toInt)).1), jN (min (mvA M ((l.getD 0 0).toInt, (l.getD 1 0).toInt)).2 (mvA M ((l.getD 2 0).toInt, (l.getD 3 0).toInt)).2),
   jN (max (mvA M ((l.getD 0 0).toInt, (l.getD 1 0).toInt)).1 (mvA M ((l.getD 2 0).toInt, (l.getD 3 0).toInt)).1), jN (max (mvA M ((l.getD 0 0).toInt, (l.getD 1 0).toInt)).2 (mvA M ((l.getD 2 0).toInt, (l.getD 3 0).toInt)).2),
   l.getD 4 0, l.getD 5 0, l.getD 6 0, l.getD 7 0, l.getD 8 0, l.getD 9 0, l.getD 10 0, l.getD 11 0]
/-- no number of a row but its measure is large -/
def rok (l : List Int64) : Prop := ∀ j, j < 12 → j ≠ 6 → -400000 ≤ (l.getD j 0).toInt ∧ (l.getD j 0).toInt ≤ 400000
theorem l2i_iN (x : Int64) : x.toInt32 = iN x.toInt := (Int32.ofInt_int64ToInt x).symm
theorem i2l_jN (x : Int64) (h : -400000 ≤ x.toInt ∧ x.toInt ≤ 400000) : (iN x.toInt).toInt64 = x := (iN_64 (by omega) (by omega)).trans (jN_of x)
theorem nI_s1 (n : Nat) : nI (n + 1) - 1 = nI n := by
  rw [← nI_1, Int32.add_sub_cancel]
theorem sv_12a (i j : Nat) : nI i * 12 + nI j = nI (12 * i + j) := by rw [show (12 : Int32) = nI 12 from rfl, sv_nm2, nI_add, Nat.mul_comm]
set_option maxHeartbeats 4000000 in
set_option maxRecDepth 100000 in
theorem t_am141 (G : sv_G) (Qr : Option Value → sv_h → Nat → Prop) (h3 : sv_h) (z t1 t2 k : Nat) (hd : t1 + 4 ≤ t2 ∨ t2 + 4 ≤ t1) (L : List (List Int64)) (H1 : tO G h3 t1 L) (hk : k < L.length) (hm : Int32) (E : List (List Int64)) (r r2 : List Int64) (H3 : tE G h3 t2 hm (E ++ [r])) (hr : ∀ j, j < 8 → r2.getD j 0 = r.getD j 0) (hr2 : ∀ j, 8 ≤ j → j < 12 → r2.getD j 0 = (L.getD k []).getD j 0) (hkk : ∀ h4, tE G h4 t2 hm (E ++ [r2]) → (∀ w, ¬ (t2 ≤ w ∧ w < t2 + 4) → h4 w = h3 w) → Qr none h4 z) : V G mX10_addMoved (sv_MQ G mX10_addMoved Qr) 141 [(0, .ref t2), (1, .ref t1), (2, .int (nI k))] [] h3 z 0 0 := by
  obtain ⟨x, ro, od, st, us, sz, ov, ⟨q0, q1, q2, q3, q4⟩, DD⟩ := H3
  obtain ⟨x1, ro1, od1, st1, us1, ov1, hm1, w, d1, ⟨r0, r1, r2_, r3, r4⟩, d2⟩ := H1
  obtain ⟨a1, a2, a3⟩ := d2 k hk
  refine v_aload_n dX10_addMoved_141 rfl 0 rfl ?_
  refine v_getf 5 (ci := 8) (C := RX10) (T := TX10) (N := 7) rfl iwX10_addMoved_X10 (Nat.le_of_ble_eq_true rfl) (by decide +kernel) dX10_addMoved_142 (by first | with_reducible assumption) rfl ?_
  refine v_if_ne (tgt := 188) dX10_addMoved_145 (by decide) (fun c_145 => ?_) (fun c_145 => ?_)
  · exact v_ret rfl dX10_addMoved_188 (Nat.le_of_ble_eq_true rfl) (Nat.le_of_ble_eq_true rfl) (by
          first
            | (have c9 : ¬ ov = 0 := c_145
               rcases DD with ⟨e1, e2, e3, e4, e5⟩ | ⟨e1, e2, e3⟩
               · exact absurd e4 c9
               · exact hkk h3 ⟨x, ro, od, st, us, sz, ov, ⟨q0, q1, q2, q3, q4⟩, Or.inr ⟨by rw [List.length_append] at e1 ⊢; exact e1, e2, e3⟩⟩ (fun _ _ => rfl))
            | (refine hkk _ ⟨x, va_cpy ro1 ro (12 * w k + 8) (12 * E.length + 8) 4, od, st, nI (E.length + 1), sz, ov, ⟨q0, (sv_un (by omega)).trans q1, ?_, (sv_un (by omega)).trans q3, (sv_un (by omega)).trans q4⟩, Or.inl ⟨by rw [List.length_append]; exact e1, by rw [List.length_append]; rfl, by rw [List.length_append]; rw [List.length_append] at e3; exact e3, e4, fun k9 hk9 => ?_⟩⟩ (fun a p => sv_un (by omega))
               · refine sv_us.trans ?_
                 rw [nI_clamp (by omega), nI_clamp (by omega)]
                 rfl
               · rw [List.length_append, show [r2].length = 1 from rfl] at hk9
                 obtain ⟨f1, f2⟩ := e5 k9 (by rw [List.length_append, show [r].length = 1 from rfl]; exact hk9)
                 refine ⟨f1, fun j hj => ?_⟩
                 unfold va_cpy
                 by_cases g1 : k9 = E.length
                 · subst g1
                   rw [gd_n]
                   have f3 := f2 j hj
                   rw [gd_n] at f3
                   by_cases g2 : j < 8
                   · rw [if_neg (by omega), hr j g2]; exact f3
                   · rw [if_pos (by omega), hr2 j (by omega) hj, show 12 * w k + 8 + (12 * E.length + j - (12 * E.length + 8)) = 12 * w k + j by omega]
                     exact a3 j hj
                 · rw [if_neg (by omega), gd_l E r2 [] (by omega)]
                   have f3 := f2 j hj
                   rw [gd_l E r [] (by omega)] at f3
                   exact f3))
  · have hov : ov = 0 := c_145
    rcases DD with ⟨e1, e2, e3, e4, e5⟩ | ⟨e1, e2, e3⟩
    rotate_left
    · exact absurd (e3.symm.trans hov) (by decide)
    rw [List.length_append, show [r].length = 1 from rfl] at e1 e2
    subst e2
    refine v_aload_n dX10_addMoved_148 rfl 1 rfl ?_
    refine v_getf 2 (ci := 8) (C := RX10) (T := TX10) (N := 7) rfl iwX10_addMoved_X10 (Nat.le_of_ble_eq_true rfl) (by decide +kernel) dX10_addMoved_149 (by first | with_reducible assumption) rfl ?_
    refine v_iload_n dX10_addMoved_152 rfl 2 rfl ?_
    refine v_ialdS (v := nI (w k)) dX10_addMoved_153 (by first | with_reducible assumption) (vp_in_nI (by omega) (by omega)) (by rw [nI_clamp (by omega)]; exact a2) ?_
    refine v_bipush (v := 12) dX10_addMoved_154 (by decide) ?_
    refine v_imul dX10_addMoved_156 ?_
    refine v_bipush (v := 8) dX10_addMoved_157 (by decide) ?_
    refine v_iadd dX10_addMoved_159 ?_
    rw [show (8 : Int32) = nI 8 from rfl, sv_12a]
    refine v_istore (L' := [(12, _), (0, _), (1, _), (2, _)]) dX10_addMoved_160 (Nat.le_of_ble_eq_true rfl) rfl ?_
    refine v_aload_n dX10_addMoved_162 rfl 2 rfl ?_
    refine v_getf 0 (ci := 8) (C := RX10) (T := TX10) (N := 7) rfl iwX10_addMoved_X10 (Nat.le_of_ble_eq_true rfl) (by decide +kernel) dX10_addMoved_163 (by first | with_reducible assumption) rfl ?_
    refine v_iload dX10_addMoved_166 0 rfl ?_
    refine v_aload_n dX10_addMoved_168 rfl 1 rfl ?_
    refine v_getf 0 (ci := 8) (C := RX10) (T := TX10) (N := 7) rfl iwX10_addMoved_X10 (Nat.le_of_ble_eq_true rfl) (by decide +kernel) dX10_addMoved_169 (by first | with_reducible assumption) rfl ?_
    refine v_aload_n dX10_addMoved_172 rfl 1 rfl ?_
    refine v_getf 1 (ci := 8) (C := RX10) (T := TX10) (N := 7) rfl iwX10_addMoved_X10 (Nat.le_of_ble_eq_true rfl) (by decide +kernel) dX10_addMoved_173 (by first | with_reducible assumption) rfl ?_
    refine v_iconst (v := 1) dX10_addMoved_176 (by decide) ?_
    refine v_isub dX10_addMoved_177 ?_
    rw [nI_s1]
    refine v_bipush (v := 12) dX10_addMoved_178 (by decide) ?_
    refine v_imul dX10_addMoved_180 ?_
    refine v_bipush (v := 8) dX10_addMoved_181 (by decide) ?_
    refine v_iadd dX10_addMoved_183 ?_
    rw [show (8 : Int32) = nI 8 from rfl, sv_12a]
    refine v_iconst (v := 4) dX10_addMoved_184 (by decide) ?_
    refine v_copyJ (by decide +kernel) (by decide +kernel) (by decide +kernel) (by decide +kernel) dX10_addMoved_185 (Nat.le_of_ble_eq_true rfl) (by decide +kernel) (by first | with_reducible assumption) (by first | with_reducible assumption) (nI_pos (by omega)) (nI_pos (by omega)) (by decide) (by rw [nI_clamp (by omega)]; show 12 * w k + 8 + 4 ≤ 18000; omega) (by rw [nI_clamp (by omega)]; show 12 * E.length + 8 + 4 ≤ 18000; omega) ?_
    exact v_ret rfl dX10_addMoved_188 (Nat.le_of_ble_eq_true rfl) (Nat.le_of_ble_eq_true rfl) (by
          first
            | (have c9 : ¬ ov = 0 := c_145
               rcases DD with ⟨e1, e2, e3, e4, e5⟩ | ⟨e1, e2, e3⟩
               · exact absurd e4 c9
               · exact hkk h3 ⟨x, ro, od, st, us, sz, ov, ⟨q0, q1, q2, q3, q4⟩, Or.inr ⟨by rw [List.length_append] at e1 ⊢; exact e1, e2, e3⟩⟩ (fun _ _ => rfl))
            | (refine hkk _ ⟨x, va_cpy ro1 ro (12 * w k + 8) (12 * E.length + 8) 4, od, st, nI (E.length + 1), sz, ov, ⟨q0, (sv_un (by omega)).trans q1, ?_, (sv_un (by omega)).trans q3, (sv_un (by omega)).trans q4⟩, Or.inl ⟨by rw [List.length_append]; exact e1, by rw [List.length_append]; rfl, by rw [List.length_append]; rw [List.length_append] at e3; exact e3, e4, fun k9 hk9 => ?_⟩⟩ (fun a p => sv_un (by omega))
               · refine sv_us.trans ?_
                 rw [nI_clamp (by omega), nI_clamp (by omega)]
                 rfl
               · rw [List.length_append, show [r2].length = 1 from rfl] at hk9
                 obtain ⟨f1, f2⟩ := e5 k9 (by rw [List.length_append, show [r].length = 1 from rfl]; exact hk9)
                 refine ⟨f1, fun j hj => ?_⟩
                 unfold va_cpy
                 by_cases g1 : k9 = E.length
                 · subst g1
                   rw [gd_n]
                   have f3 := f2 j hj
                   rw [gd_n] at f3
                   by_cases g2 : j < 8
                   · rw [if_neg (by omega), hr j g2]; exact f3
                   · rw [if_pos (by omega), hr2 j (by omega) hj, show 12 * w k + 8 + (12 * E.length + j - (12 * E.length + 8)) = 12 * w k + j by omega]
                     exact a3 j hj
                 · rw [if_neg (by omega), gd_l E r2 [] (by omega)]
                   have f3 := f2 j hj
                   rw [gd_l E r [] (by omega)] at f3
                   exact f3))

set_option maxHeartbeats 4000000 in
set_option maxRecDepth 100000 in
theorem c_addMoved (G : sv_G) (h : sv_h) (z t1 t2 k a : Nat) (hd : t1 + 4 ≤ t2 ∨ t2 + 4 ≤ t1) (L : List (List Int64)) (H1 : tO G h t1 L) (hk : k < L.length) (M : mvT) (hM : M.2.1 < 4) (hMx : -200000 ≤ M.2.2.1 ∧ M.2.2.1 ≤ 200000) (hMy : -200000 ≤ M.2.2.2 ∧ M.2.2.2 ≤ 200000) (ha : h a = mvC M) (hat : ¬ (t2 ≤ a ∧ a < t2 + 4)) (hm : Int32) (E : List (List Int64)) (H2 : tE G h t2 hm E) (hro : rok (L.getD k [])) : CT G mX10_addMoved [.ref t2, .ref t1, .int (nI k), .ref a] h z (fun v h1 z1 => v = none ∧ z1 = z ∧ (∃ hm1 : Int32, tE G h1 t2 hm1 (E ++ [mvR M (L.getD k [])])) ∧ ∀ w, ¬ (t2 ≤ w ∧ w < t2 + 4) → h1 w = h w) := by
  refine CT.of (by decide +kernel) rfl rfl (Nat.le_of_ble_eq_true rfl) ?_
  obtain ⟨x9, us9, sz9, ov9, ht9, hx9, hh9⟩ := H2.oh
  obtain ⟨fst1, ht1⟩ : ∃ fs, h t1 = some (.inr (8, fs)) := by
    obtain ⟨x, ro, od, st, us, ov, hm, w, d1, T, d2⟩ := H1
    exact ⟨_, T.2.1⟩
  have k0 := hro 0 (by decide) (by decide); have k1 := hro 1 (by decide) (by decide); have k2 := hro 2 (by decide) (by decide); have k3 := hro 3 (by decide) (by decide)
  have k4 := hro 4 (by decide) (by decide); have k5 := hro 5 (by decide) (by decide); have k7 := hro 7 (by decide) (by decide)
  have m0 := mvA_b (M := M) (p := (((L.getD k []).getD 0 0).toInt, ((L.getD k []).getD 1 0).toInt)) (A := 400000) (B := 200000) k0 k1 hMx hMy
  have m1 := mvA_b (M := M) (p := (((L.getD k []).getD 2 0).toInt, ((L.getD k []).getD 3 0).toInt)) (A := 400000) (B := 200000) k2 k3 hMx hMy
  refine v_aload_n dX10_addMoved_0 rfl 1 rfl ?_
  refine v_iload_n dX10_addMoved_1 rfl 2 rfl ?_
  refine v_iconst (v := 0) dX10_addMoved_2 (by decide) ?_
  refine v_callVq (M' := mX10_value) (n := 2) (As := [_, _]) (ci := 8) (r := (RX10, TX10, 7)) gX10_addMoved_X10_value rfl (by decide +kernel) ⟨(Nat.le_of_ble_eq_true rfl), (Nat.le_of_ble_eq_true rfl)⟩ rfl rfl dX10_addMoved_3 rfl ⟨(Nat.le_of_ble_eq_true rfl), (Nat.le_of_ble_eq_true rfl)⟩ (Nat.le_of_ble_eq_true rfl) (by repeat (first | with_reducible assumption | (with_reducible refine sv_us.trans ?_; exact rfl) | with_reducible refine (sv_un (by omega)).trans ?_)) rfl (c_tOv G _ _ t1 L H1 k 0 hk (by decide) (by decide)) (fun v9 h9 y9 hq => v_pq hq ?_)
  refine v_l2i dX10_addMoved_6 rfl ?_
  rw [l2i_iN]
  refine v_istore (L' := [(4, _), (0, _), (1, _), (2, _), (3, _)]) dX10_addMoved_7 (Nat.le_of_ble_eq_true rfl) rfl ?_
  refine v_aload_n dX10_addMoved_9 rfl 2 rfl ?_
  refine v_iload_n dX10_addMoved_10 rfl 3 rfl ?_
  refine v_iconst (v := 1) dX10_addMoved_11 (by decide) ?_
  refine v_callVq (M' := mX10_value) (n := 2) (As := [_, _]) (ci := 8) (r := (RX10, TX10, 7)) gX10_addMoved_X10_value rfl (by decide +kernel) ⟨(Nat.le_of_ble_eq_true rfl), (Nat.le_of_ble_eq_true rfl)⟩ rfl rfl dX10_addMoved_12 rfl ⟨(Nat.le_of_ble_eq_true rfl), (Nat.le_of_ble_eq_true rfl)⟩ (Nat.le_of_ble_eq_true rfl) (by repeat (first | with_reducible assumption | (with_reducible refine sv_us.trans ?_; exact rfl) | with_reducible refine (sv_un (by omega)).trans ?_)) rfl (c_tOv G _ _ t1 L H1 k 1 hk (by decide) (by decide)) (fun v9 h9 y9 hq => v_pq hq ?_)
  refine v_l2i dX10_addMoved_15 rfl ?_
  rw [l2i_iN]
  refine v_istore (L' := [(5, _), (4, _), (0, _), (1, _), (2, _), (3, _)]) dX10_addMoved_16 (Nat.le_of_ble_eq_true rfl) rfl ?_
  refine v_aload_n dX10_addMoved_18 rfl 3 rfl ?_
  refine v_iload_n dX10_addMoved_19 rfl 4 rfl ?_
  refine v_iconst (v := 2) dX10_addMoved_20 (by decide) ?_
  refine v_callVq (M' := mX10_value) (n := 2) (As := [_, _]) (ci := 8) (r := (RX10, TX10, 7)) gX10_addMoved_X10_value rfl (by decide +kernel) ⟨(Nat.le_of_ble_eq_true rfl), (Nat.le_of_ble_eq_true rfl)⟩ rfl rfl dX10_addMoved_21 rfl ⟨(Nat.le_of_ble_eq_true rfl), (Nat.le_of_ble_eq_true rfl)⟩ (Nat.le_of_ble_eq_true rfl) (by repeat (first | with_reducible assumption | (with_reducible refine sv_us.trans ?_; exact rfl) | with_reducible refine (sv_un (by omega)).trans ?_)) rfl (c_tOv G _ _ t1 L H1 k 2 hk (by decide) (by decide)) (fun v9 h9 y9 hq => v_pq hq ?_)
  refine v_l2i dX10_addMoved_24 rfl ?_
  rw [l2i_iN]
  refine v_istore (L' := [(6, _), (5, _), (4, _), (0, _), (1, _), (2, _), (3, _)]) dX10_addMoved_25 (Nat.le_of_ble_eq_true rfl) rfl ?_
  refine v_aload_n dX10_addMoved_27 rfl 4 rfl ?_
  refine v_iload_n dX10_addMoved_28 rfl 5 rfl ?_
  refine v_iconst (v := 3) dX10_addMoved_29 (by decide) ?_
  refine v_callVq (M' := mX10_value) (n := 2) (As := [_, _]) (ci := 8) (r := (RX10, TX10, 7)) gX10_addMoved_X10_value rfl (by decide +kernel) ⟨(Nat.le_of_ble_eq_true rfl), (Nat.le_of_ble_eq_true rfl)⟩ rfl rfl dX10_addMoved_30 rfl ⟨(Nat.le_of_ble_eq_true rfl), (Nat.le_of_ble_eq_true rfl)⟩ (Nat.le_of_ble_eq_true rfl) (by repeat (first | with_reducible assumption | (with_reducible refine sv_us.trans ?_; exact rfl) | with_reducible refine (sv_un (by omega)).trans ?_)) rfl (c_tOv G _ _ t1 L H1 k 3 hk (by decide) (by decide)) (fun v9 h9 y9 hq => v_pq hq ?_)
  refine v_l2i dX10_addMoved_33 rfl ?_
  rw [l2i_iN]
  refine v_istore (L' := [(7, _), (6, _), (5, _), (4, _), (0, _), (1, _), (2, _), (3, _)]) dX10_addMoved_34 (Nat.le_of_ble_eq_true rfl) rfl ?_
  refine v_aload_n dX10_addMoved_36 rfl 4 rfl ?_
  refine v_aload_n dX10_addMoved_37 rfl 5 rfl ?_
  refine v_iload_n dX10_addMoved_38 rfl 6 rfl ?_
  refine v_bipush (v := 7) dX10_addMoved_39 (by decide) ?_
  refine v_callVq (M' := mX10_value) (n := 2) (As := [_, _]) (ci := 8) (r := (RX10, TX10, 7)) gX10_addMoved_X10_value rfl (by decide +kernel) ⟨(Nat.le_of_ble_eq_true rfl), (Nat.le_of_ble_eq_true rfl)⟩ rfl rfl dX10_addMoved_41 rfl ⟨(Nat.le_of_ble_eq_true rfl), (Nat.le_of_ble_eq_true rfl)⟩ (Nat.le_of_ble_eq_true rfl) (by repeat (first | with_reducible assumption | (with_reducible refine sv_us.trans ?_; exact rfl) | with_reducible refine (sv_un (by omega)).trans ?_)) rfl (c_tOv G _ _ t1 L H1 k 7 hk (by decide) (by decide)) (fun v9 h9 y9 hq => v_pq hq ?_)
  refine v_l2i dX10_addMoved_44 rfl ?_
  rw [l2i_iN]
  refine v_putf 6 (fs' := [_, _, _, _, _, _, _]) (ci := 8) (C := RX10) (T := TX10) (N := 7) (ty := .int) rfl iwX10_addMoved_X10 tyX10 tyX10_ok nmX10 (Nat.le_of_ble_eq_true rfl) (by decide +kernel) rfl rfl dX10_addMoved_45 rfl rfl (by repeat (first | with_reducible assumption | (with_reducible refine sv_us.trans ?_; exact rfl) | with_reducible refine (sv_un (by omega)).trans ?_)) (Nat.le_of_ble_eq_true rfl) rfl ?_
  have H1b : tO G (va_up h t2 (some (.inr (8, [.ref (t2 + 1), .int us9, .ref (t2 + 2 + x9), .ref (t2 + 3 - x9), .int sz9, .int ov9, .int (iN ((L.getD k []).getD 7 0).toInt)])))) t1 L := H1.kept (fun a p1 p2 => sv_un (by omega))
  have H2b : tE G (va_up h t2 (some (.inr (8, [.ref (t2 + 1), .int us9, .ref (t2 + 2 + x9), .ref (t2 + 3 - x9), .int sz9, .int ov9, .int (iN ((L.getD k []).getD 7 0).toInt)])))) t2 (iN ((L.getD k []).getD 7 0).toInt) E := hh9 _ _ sv_us (fun a p => sv_un p)
  have hab : (va_up h t2 (some (.inr (8, [.ref (t2 + 1), .int us9, .ref (t2 + 2 + x9), .ref (t2 + 3 - x9), .int sz9, .int ov9, .int (iN ((L.getD k []).getD 7 0).toInt)])))) a = mvC M := (sv_un (by omega)).trans ha
  have ht1b : (va_up h t2 (some (.inr (8, [.ref (t2 + 1), .int us9, .ref (t2 + 2 + x9), .ref (t2 + 3 - x9), .int sz9, .int ov9, .int (iN ((L.getD k []).getD 7 0).toInt)])))) t1 = some (.inr (8, fst1)) := (sv_un (by omega)).trans ht1
  have ht2b : (va_up h t2 (some (.inr (8, [.ref (t2 + 1), .int us9, .ref (t2 + 2 + x9), .ref (t2 + 3 - x9), .int sz9, .int ov9, .int (iN ((L.getD k []).getD 7 0).toInt)])))) t2 = some (.inr (8, [.ref (t2 + 1), .int us9, .ref (t2 + 2 + x9), .ref (t2 + 3 - x9), .int sz9, .int ov9, .int (iN ((L.getD k []).getD 7 0).toInt)])) := sv_us
  refine v_aload_n dX10_addMoved_48 rfl 7 rfl ?_
  refine v_iload dX10_addMoved_49 3 rfl ?_
  refine v_iload dX10_addMoved_51 2 rfl ?_
  refine v_callVq (M' := mX4_xOf) (n := 2) (As := [_, _]) (ci := 2) (r := (RX4, TX4, 4)) gX10_addMoved_X4_xOf rfl (by decide +kernel) ⟨(Nat.le_of_ble_eq_true rfl), (Nat.le_of_ble_eq_true rfl)⟩ rfl rfl dX10_addMoved_53 rfl ⟨(Nat.le_of_ble_eq_true rfl), (Nat.le_of_ble_eq_true rfl)⟩ (Nat.le_of_ble_eq_true rfl) (by repeat (first | with_reducible assumption | (with_reducible refine sv_us.trans ?_; exact rfl) | with_reducible refine (sv_un (by omega)).trans ?_)) rfl (c_xOf G _ _ a M hM hab _ _) (fun v9 h9 y9 hq => v_pq hq ?_)
  refine v_istore (L' := [(8, _), (7, _), (6, _), (5, _), (4, _), (0, _), (1, _), (2, _), (3, _)]) dX10_addMoved_56 (Nat.le_of_ble_eq_true rfl) rfl ?_
  refine v_aload_n dX10_addMoved_58 rfl 8 rfl ?_
  refine v_iload dX10_addMoved_59 4 rfl ?_
  refine v_iload dX10_addMoved_61 3 rfl ?_
  refine v_callVq (M' := mX4_yOf) (n := 2) (As := [_, _]) (ci := 2) (r := (RX4, TX4, 4)) gX10_addMoved_X4_yOf rfl (by decide +kernel) ⟨(Nat.le_of_ble_eq_true rfl), (Nat.le_of_ble_eq_true rfl)⟩ rfl rfl dX10_addMoved_63 rfl ⟨(Nat.le_of_ble_eq_true rfl), (Nat.le_of_ble_eq_true rfl)⟩ (Nat.le_of_ble_eq_true rfl) (by repeat (first | with_reducible assumption | (with_reducible refine sv_us.trans ?_; exact rfl) | with_reducible refine (sv_un (by omega)).trans ?_)) rfl (c_yOf G _ _ a M hM hab _ _) (fun v9 h9 y9 hq => v_pq hq ?_)
  refine v_istore (L' := [(9, _), (8, _), (7, _), (6, _), (5, _), (4, _), (0, _), (1, _), (2, _), (3, _)]) dX10_addMoved_66 (Nat.le_of_ble_eq_true rfl) rfl ?_
  refine v_aload_n dX10_addMoved_68 rfl 9 rfl ?_
  refine v_iload dX10_addMoved_69 3 rfl ?_
  refine v_iload dX10_addMoved_71 2 rfl ?_
  refine v_callVq (M' := mX4_xOf) (n := 2) (As := [_, _]) (ci := 2) (r := (RX4, TX4, 4)) gX10_addMoved_X4_xOf rfl (by decide +kernel) ⟨(Nat.le_of_ble_eq_true rfl), (Nat.le_of_ble_eq_true rfl)⟩ rfl rfl dX10_addMoved_73 rfl ⟨(Nat.le_of_ble_eq_true rfl), (Nat.le_of_ble_eq_true rfl)⟩ (Nat.le_of_ble_eq_true rfl) (by repeat (first | with_reducible assumption | (with_reducible refine sv_us.trans ?_; exact rfl) | with_reducible refine (sv_un (by omega)).trans ?_)) rfl (c_xOf G _ _ a M hM hab _ _) (fun v9 h9 y9 hq => v_pq hq ?_)
  refine v_istore (L' := [(10, _), (9, _), (8, _), (7, _), (6, _), (5, _), (4, _), (0, _), (1, _), (2, _), (3, _)]) dX10_addMoved_76 (Nat.le_of_ble_eq_true rfl) rfl ?_
  refine v_aload_n dX10_addMoved_78 rfl 10 rfl ?_
  refine v_iload dX10_addMoved_79 4 rfl ?_
  refine v_iload dX10_addMoved_81 3 rfl ?_
  refine v_callVq (M' := mX4_yOf) (n := 2) (As := [_, _]) (ci := 2) (r := (RX4, TX4, 4)) gX10_addMoved_X4_yOf rfl (by decide +kernel) ⟨(Nat.le_of_ble_eq_true rfl), (Nat.le_of_ble_eq_true rfl)⟩ rfl rfl dX10_addMoved_83 rfl ⟨(Nat.le_of_ble_eq_true rfl), (Nat.le_of_ble_eq_true rfl)⟩ (Nat.le_of_ble_eq_true rfl) (by repeat (first | with_reducible assumption | (with_reducible refine sv_us.trans ?_; exact rfl) | with_reducible refine (sv_un (by omega)).trans ?_)) rfl (c_yOf G _ _ a M hM hab _ _) (fun v9 h9 y9 hq => v_pq hq ?_)
  refine v_istore (L' := [(11, _), (10, _), (9, _), (8, _), (7, _), (6, _), (5, _), (4, _), (0, _), (1, _), (2, _), (3, _)]) dX10_addMoved_86 (Nat.le_of_ble_eq_true rfl) rfl ?_
  refine v_aload_n dX10_addMoved_88 rfl 8 rfl ?_
  refine v_iload dX10_addMoved_89 3 rfl ?_
  refine v_iload dX10_addMoved_91 1 rfl ?_
  refine v_mmin (by decide +kernel) (by decide +kernel) (by decide +kernel) (by decide +kernel) dX10_addMoved_93 (Nat.le_of_ble_eq_true rfl) (Nat.le_of_ble_eq_true rfl) (Nat.le_of_ble_eq_true rfl) (Nat.le_of_ble_eq_true rfl) ?_
  rw [gmI_min (by omega) (by omega)]
  refine v_iload dX10_addMoved_96 2 rfl ?_
  refine v_iload dX10_addMoved_98 0 rfl ?_
  refine v_mmin (by decide +kernel) (by decide +kernel) (by decide +kernel) (by decide +kernel) dX10_addMoved_100 (Nat.le_of_ble_eq_true rfl) (Nat.le_of_ble_eq_true rfl) (Nat.le_of_ble_eq_true rfl) (Nat.le_of_ble_eq_true rfl) ?_
  rw [gmI_min (by omega) (by omega)]
  refine v_iload dX10_addMoved_103 3 rfl ?_
  refine v_iload dX10_addMoved_105 1 rfl ?_
  refine v_mmax (by decide +kernel) (by decide +kernel) (by decide +kernel) (by decide +kernel) dX10_addMoved_107 (Nat.le_of_ble_eq_true rfl) (Nat.le_of_ble_eq_true rfl) (Nat.le_of_ble_eq_true rfl) (Nat.le_of_ble_eq_true rfl) ?_
  rw [gmI_max (by omega) (by omega)]
  refine v_iload dX10_addMoved_110 2 rfl ?_
  refine v_iload dX10_addMoved_112 0 rfl ?_
  refine v_mmax (by decide +kernel) (by decide +kernel) (by decide +kernel) (by decide +kernel) dX10_addMoved_114 (Nat.le_of_ble_eq_true rfl) (Nat.le_of_ble_eq_true rfl) (Nat.le_of_ble_eq_true rfl) (Nat.le_of_ble_eq_true rfl) ?_
  rw [gmI_max (by omega) (by omega)]
  refine v_aload_n dX10_addMoved_117 rfl 9 rfl ?_
  refine v_iload_n dX10_addMoved_118 rfl 10 rfl ?_
  refine v_iconst (v := 4) dX10_addMoved_119 (by decide) ?_
  refine v_callVq (M' := mX10_value) (n := 2) (As := [_, _]) (ci := 8) (r := (RX10, TX10, 7)) gX10_addMoved_X10_value rfl (by decide +kernel) ⟨(Nat.le_of_ble_eq_true rfl), (Nat.le_of_ble_eq_true rfl)⟩ rfl rfl dX10_addMoved_120 rfl ⟨(Nat.le_of_ble_eq_true rfl), (Nat.le_of_ble_eq_true rfl)⟩ (Nat.le_of_ble_eq_true rfl) (by repeat (first | with_reducible assumption | (with_reducible refine sv_us.trans ?_; exact rfl) | with_reducible refine (sv_un (by omega)).trans ?_)) rfl (c_tOv G _ _ t1 L H1b k 4 hk (by decide) (by decide)) (fun v9 h9 y9 hq => v_pq hq ?_)
  refine v_l2i dX10_addMoved_123 rfl ?_
  rw [l2i_iN]
  refine v_aload_n dX10_addMoved_124 rfl 9 rfl ?_
  refine v_iload_n dX10_addMoved_125 rfl 10 rfl ?_
  refine v_iconst (v := 5) dX10_addMoved_126 (by decide) ?_
  refine v_callVq (M' := mX10_value) (n := 2) (As := [_, _]) (ci := 8) (r := (RX10, TX10, 7)) gX10_addMoved_X10_value rfl (by decide +kernel) ⟨(Nat.le_of_ble_eq_true rfl), (Nat.le_of_ble_eq_true rfl)⟩ rfl rfl dX10_addMoved_127 rfl ⟨(Nat.le_of_ble_eq_true rfl), (Nat.le_of_ble_eq_true rfl)⟩ (Nat.le_of_ble_eq_true rfl) (by repeat (first | with_reducible assumption | (with_reducible refine sv_us.trans ?_; exact rfl) | with_reducible refine (sv_un (by omega)).trans ?_)) rfl (c_tOv G _ _ t1 L H1b k 5 hk (by decide) (by decide)) (fun v9 h9 y9 hq => v_pq hq ?_)
  refine v_l2i dX10_addMoved_130 rfl ?_
  rw [l2i_iN]
  refine v_aload_n dX10_addMoved_131 rfl 9 rfl ?_
  refine v_iload_n dX10_addMoved_132 rfl 10 rfl ?_
  refine v_bipush (v := 6) dX10_addMoved_133 (by decide) ?_
  refine v_callVq (M' := mX10_value) (n := 2) (As := [_, _]) (ci := 8) (r := (RX10, TX10, 7)) gX10_addMoved_X10_value rfl (by decide +kernel) ⟨(Nat.le_of_ble_eq_true rfl), (Nat.le_of_ble_eq_true rfl)⟩ rfl rfl dX10_addMoved_135 rfl ⟨(Nat.le_of_ble_eq_true rfl), (Nat.le_of_ble_eq_true rfl)⟩ (Nat.le_of_ble_eq_true rfl) (by repeat (first | with_reducible assumption | (with_reducible refine sv_us.trans ?_; exact rfl) | with_reducible refine (sv_un (by omega)).trans ?_)) rfl (c_tOv G _ _ t1 L H1b k 6 hk (by decide) (by decide)) (fun v9 h9 y9 hq => v_pq hq ?_)
  refine v_callVq (M' := mX10_add) (n := 7) (As := [_, _, _, _, _, _, _]) (ci := 8) (r := (RX10, TX10, 7)) gX10_addMoved_X10_add rfl (by decide +kernel) ⟨(Nat.le_of_ble_eq_true rfl), (Nat.le_of_ble_eq_true rfl)⟩ rfl rfl dX10_addMoved_138 rfl ⟨(Nat.le_of_ble_eq_true rfl), (Nat.le_of_ble_eq_true rfl)⟩ (Nat.le_of_ble_eq_true rfl) (by repeat (first | with_reducible assumption | (with_reducible refine sv_us.trans ?_; exact rfl) | with_reducible refine (sv_un (by omega)).trans ?_)) rfl (c_add G _ _ t2 _ E H2b _ _ _ _ _ _ _) (fun v h3 z3 hq9 => ?_)
  obtain ⟨rfl, rfl, H3, fr3⟩ := hq9
  refine v_sub (L' := [(0, _), (1, _), (2, _)]) [8, 9, 10] rfl ?_
  refine t_am141 G _ h3 _ t1 t2 k hd L (H1b.kept (fun a p1 p2 => fr3 a (by omega))) hk _ E (rw_ (iN (min (mvA M (((L.getD k []).getD 0 0).toInt, ((L.getD k []).getD 1 0).toInt)).1 (mvA M (((L.getD k []).getD 2 0).toInt, ((L.getD k []).getD 3 0).toInt)).1)) (iN (min (mvA M (((L.getD k []).getD 0 0).toInt, ((L.getD k []).getD 1 0).toInt)).2 (mvA M (((L.getD k []).getD 2 0).toInt, ((L.getD k []).getD 3 0).toInt)).2)) (iN (max (mvA M (((L.getD k []).getD 0 0).toInt, ((L.getD k []).getD 1 0).toInt)).1 (mvA M (((L.getD k []).getD 2 0).toInt, ((L.getD k []).getD 3 0).toInt)).1)) (iN (max (mvA M (((L.getD k []).getD 0 0).toInt, ((L.getD k []).getD 1 0).toInt)).2 (mvA M (((L.getD k []).getD 2 0).toInt, ((L.getD k []).getD 3 0).toInt)).2)) (iN ((L.getD k []).getD 4 0).toInt) (iN ((L.getD k []).getD 5 0).toInt) ((L.getD k []).getD 6 0) (iN ((L.getD k []).getD 7 0).toInt)) (mvR M (L.getD k [])) H3 (fun j hj => ?_) (fun j h8 hj => ?_) (fun h4 a1 a2 => ⟨rfl, rfl, ⟨_, a1⟩, fun w9 p9 => (a2 w9 p9).trans ((fr3 w9 p9).trans (sv_un (by omega)))⟩)
  · have : j = 0 ∨ j = 1 ∨ j = 2 ∨ j = 3 ∨ j = 4 ∨ j = 5 ∨ j = 6 ∨ j = 7 := by omega
    rcases this with rfl | rfl | rfl | rfl | rfl | rfl | rfl | rfl
    · exact (iN_64 (by omega) (by omega)).symm
    · exact (iN_64 (by omega) (by omega)).symm
    · exact (iN_64 (by omega) (by omega)).symm
    · exact (iN_64 (by omega) (by omega)).symm
    · exact (i2l_jN _ k4).symm
    · exact (i2l_jN _ k5).symm
    · rfl
    · exact (i2l_jN _ k7).symm
  · have : j = 8 ∨ j = 9 ∨ j = 10 ∨ j = 11 := by omega
    rcases this with rfl | rfl | rfl | rfl <;> rfl

