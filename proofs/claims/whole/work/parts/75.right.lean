abbrev mX13_isRight : sv_M := (cX13_isRight, 7, yX13_isRight, wsX13_isRight, (some .boolean), { frames := 2, cells := 0, slots := 0, locals := 48 }, [])
/-- what the model asks of corner i -/
def gm_ri (n : Nat) (X Y : Nat → Int32) (i : Nat) : Prop := ¬ (Y i = Y (gm_aft n i) ↔ Y (gm_aft n i) = Y (gm_aft n (gm_aft n i))) ∧ ∀ j, i + 2 ≤ j → j < n → ¬ (i = 0 ∧ j = n - 1) → ¬ gm_touch n X Y i j
def gm_mr (n : Nat) (X Y : Nat → Int32) : Prop := gm_closes n X Y ∧ ∀ i, i < n → gm_ri n X Y i
theorem gm_mr_iff {n : Nat} {X Y : Nat → Int32} (ha : ∀ i, i + 1 < n → ¬ (X (i + 1) = X i ↔ Y (i + 1) = Y i)) : gm_mr n X Y ↔ gm_right n X Y := by
  have hs : gm_closes n X Y → ∀ i, i < n → ¬ (X i = X (gm_aft n i) ↔ Y i = Y (gm_aft n i)) := by
    intro hc i hi
    unfold gm_aft
    by_cases q : i + 1 < n
    · rw [if_pos q]
      intro r
      exact ha i q ⟨fun s => (r.mp s.symm).symm, fun s => (r.mpr s.symm).symm⟩
    · rw [if_neg q]
      have e : i = n - 1 := by omega
      rw [e]
      intro r
      exact hc.2 ⟨fun s => (r.mp s.symm).symm, fun s => (r.mpr s.symm).symm⟩
  constructor
  · intro h
    refine ⟨h.1, fun i hi => ?_, fun i j h1 h2 h3 => ?_⟩
    · have a1 := hs h.1 i hi
      have a2 := hs h.1 _ (gm_aft_lt hi)
      have a3 := (h.2 i hi).1
      intro r
      apply a3
      constructor
      · intro s
        by_cases w : Y (gm_aft n i) = Y (gm_aft n (gm_aft n i))
        · exact w
        · have w2 : X (gm_aft n i) = X (gm_aft n (gm_aft n i)) := Classical.byContradiction fun k => a2 ⟨fun z => absurd z k, fun z => absurd z w⟩
          exact absurd ⟨fun _ => s, fun _ => r.mpr w2⟩ a1
      · intro s
        by_cases w : Y i = Y (gm_aft n i)
        · exact w
        · have w2 : X i = X (gm_aft n i) := Classical.byContradiction fun k => a1 ⟨fun z => absurd z k, fun z => absurd z w⟩
          exact absurd ⟨fun _ => s, fun _ => r.mp w2⟩ a2
    · refine (h.2 i (by omega)).2 j h1 h2 (fun r => h3 ?_)
      rw [r.2, r.1]
      unfold gm_aft
      rw [if_neg (by omega)]
  · intro h
    refine ⟨h.1, fun i hi => ⟨?_, fun j h1 h2 h3 => h.2.2 i j h1 h2 (fun r => h3 ?_)⟩⟩
    · have a1 := hs h.1 i hi
      have a2 := hs h.1 _ (gm_aft_lt hi)
      have a3 := h.2.1 i hi
      intro r
      apply a3
      constructor
      · intro s
        by_cases w : X (gm_aft n i) = X (gm_aft n (gm_aft n i))
        · exact w
        · have w2 : Y (gm_aft n i) = Y (gm_aft n (gm_aft n i)) := Classical.byContradiction fun k => a2 ⟨fun z => absurd z w, fun z => absurd z k⟩
          exact absurd ⟨fun _ => r.mpr w2, fun _ => s⟩ a1
      · intro s
        by_cases w : X i = X (gm_aft n i)
        · exact w
        · have w2 : Y i = Y (gm_aft n i) := Classical.byContradiction fun k => a1 ⟨fun z => absurd z w, fun z => absurd z k⟩
          exact absurd ⟨fun _ => r.mp w2, fun _ => s⟩ a2
    · unfold gm_aft at r
      by_cases q : j + 1 < n
      · rw [if_pos q] at r; omega
      · rw [if_neg q] at r; exact ⟨r.symm, by omega⟩
set_option maxHeartbeats 4000000 in
set_option maxRecDepth 100000 in
theorem l_isRight1 (G : sv_G) (P : sv_P) (h : sv_h) (z b p n : Nat) (fs : List Value) (gs : Nat → Int32) (gx gy : Nat → Int64) (X Y : Nat → Int32) (hlen : fs.length = 71) (hm : h (b + 220) = some (.inr (11, fs))) (f_size : fs[7]? = some (.ref (b + 224))) (f_px : fs[8]? = some (.ref (b + 225))) (f_py : fs[9]? = some (.ref (b + 226))) (hgs : ab_I G h (b + 224) 64 gs) (hgx : ab_J G h (b + 225) 1024 gx) (hgy : ab_J G h (b + 226) 1024 gy) (hp64 : p < 64) (hsn : gs p = nI n) (hn16 : n ≤ 16) (hX : ∀ i, i < n → gx (16 * p + i) = (X i).toInt64) (hY : ∀ i, i < n → gy (16 * p + i) = (Y i).toInt64) (i : Nat) (hi : i < n) (hk : ∀ w w6 : Int32, ((w = 1 ∧ gm_ri n X Y i) ∨ (w = 0 ∧ ¬ gm_ri n X Y i)) → V G mX13_isRight P 200 [(6, .int (w6)), (4, .int (nI i)), (3, .int w), (2, .int (nI n)), (0, .ref (b + 220)), (1, .int (nI p))] [] h z 0 0) : ∀ (c j : Nat) (w : Int32), n ≤ j + c → i + 2 ≤ j → j ≤ 100 → ((w = 1 ∧ ¬ (Y i = Y (gm_aft n i) ↔ Y (gm_aft n i) = Y (gm_aft n (gm_aft n i))) ∧ ∀ k, i + 2 ≤ k → k < j → ¬ (i = 0 ∧ k = n - 1) → ¬ gm_touch n X Y i k) ∨ (w = 0 ∧ ¬ gm_ri n X Y i)) → V G mX13_isRight P 153 [(6, .int (nI j)), (4, .int (nI i)), (3, .int w), (2, .int (nI n)), (0, .ref (b + 220)), (1, .int (nI p))] [] h z 0 0 := by
  intro c
  induction c with
  | zero =>
    intro j w hjc hij hj9 hw
    refine v_iload dX13_isRight_153 0 rfl ?_
    refine v_iload_n dX13_isRight_155 rfl 3 rfl ?_
    refine v_icmp_ge (tgt := 200) dX13_isRight_156 (by decide) (fun c_156 => ?_) (fun c_156 => ?_)
    · refine hk w _ ?_
      first
      | exact hw.imp (fun q => ⟨q.1, q.2.1, fun k q1 q2 q3 => q.2.2 k q1 (by have q9 := (nI_leI (by omega) (by omega)).mp c_156; omega) q3⟩) (fun q => q)
      | exact Or.inr (hw.resolve_left (fun q => by rw [q.1] at c_160; exact absurd c_160 (by decide)))
    · exact absurd (show nI n ≤ nI j from nI_le (by omega) (by omega)) c_156
  | succ c ih =>
    intro j w hjc hij hj9 hw
    refine v_iload dX13_isRight_153 0 rfl ?_
    refine v_iload_n dX13_isRight_155 rfl 3 rfl ?_
    refine v_icmp_ge (tgt := 200) dX13_isRight_156 (by decide) (fun c_156 => ?_) (fun c_156 => ?_)
    · refine hk w _ ?_
      first
      | exact hw.imp (fun q => ⟨q.1, q.2.1, fun k q1 q2 q3 => q.2.2 k q1 (by have q9 := (nI_leI (by omega) (by omega)).mp c_156; omega) q3⟩) (fun q => q)
      | exact Or.inr (hw.resolve_left (fun q => by rw [q.1] at c_160; exact absurd c_160 (by decide)))
    · refine v_iload_n dX13_isRight_159 rfl 2 rfl ?_
      refine v_if_eq (tgt := 200) dX13_isRight_160 (by decide) (fun c_160 => ?_) (fun c_160 => ?_)
      · refine hk w _ ?_
        first
        | exact hw.imp (fun q => ⟨q.1, q.2.1, fun k q1 q2 q3 => q.2.2 k q1 (by have q9 := (nI_leI (by omega) (by omega)).mp c_156; omega) q3⟩) (fun q => q)
        | exact Or.inr (hw.resolve_left (fun q => by rw [q.1] at c_160; exact absurd c_160 (by decide)))
      · refine v_iload dX13_isRight_163 1 rfl ?_
        refine v_if_ne (tgt := 176) dX13_isRight_165 (by decide) (fun c_165 => ?_) (fun c_165 => ?_)
        · refine v_aload_n dX13_isRight_176 rfl 4 rfl ?_
          refine v_iload_n dX13_isRight_177 rfl 5 rfl ?_
          refine v_iload dX13_isRight_178 1 rfl ?_
          refine v_iload dX13_isRight_180 0 rfl ?_
          refine v_callVq (M' := mX13_isMeeting) (n := 3) (As := [_, _, _]) (ci := 11) (r := (RX13, TX13, 71)) gX13_isRight_X13_isMeeting rfl (by decide +kernel) ⟨(Nat.le_of_ble_eq_true rfl), (Nat.le_of_ble_eq_true rfl)⟩ rfl rfl dX13_isRight_182 rfl ⟨(Nat.le_of_ble_eq_true rfl), (Nat.le_of_ble_eq_true rfl)⟩ (Nat.le_of_ble_eq_true rfl) (by repeat (first | (with_reducible refine sv_us.trans ?_; exact rfl) | with_reducible assumption | with_reducible refine (sv_un (by omega)).trans ?_)) rfl (m_isMeeting G _ _ b p n fs gs gx gy X Y hlen hm f_size f_px f_py hgs hgx hgy hp64 hsn hn16 hX hY i j hi ((nI_ltI (by omega) (by omega)).mp (Int32.not_le.mp c_156))) (fun v h1 z1 hq => ?_)
          obtain ⟨⟨w9, rfl, hw9⟩, rfl, rfl⟩ := hq
          refine v_if_ne (tgt := 192) dX13_isRight_185 (by decide) (fun c_185 => ?_) (fun c_185 => ?_)
          · refine v_iconst (v := 0) dX13_isRight_192 (by decide) ?_
            refine v_istore_n (L' := [(3, _), (6, _), (4, _), (2, _), (0, _), (1, _)]) dX13_isRight_193 rfl (Nat.le_of_ble_eq_true rfl) rfl ?_
            refine v_iinc (j := 1) (L' := [(6, _), (3, _), (4, _), (2, _), (0, _), (1, _)]) (v := nI (j + 1)) dX13_isRight_194 rfl (nI_1 _) (Nat.le_of_ble_eq_true rfl) rfl ?_
            refine v_goto (tgt := 153) dX13_isRight_197 (by decide) ?_
            refine v_sub (L' := [(6, _), (4, _), (3, _), (2, _), (0, _), (1, _)]) [0, 2, 1, 3, 4, 5] rfl ?_
            have hjn : j < n := ((nI_ltI (by omega) (by omega)).mp (Int32.not_le.mp c_156))
            have hw1 := hw.resolve_right (fun q => c_160 q.1)
            refine ih (j + 1) _ (by omega) (by omega) (by omega) ?_
            first
            | (have c9 : nI i = 0 := c_165
               have c8 : nI j = nI n - 1 := c_173
               rw [sv_prd (by omega)] at c8
               refine Or.inl ⟨rfl, hw1.2.1, fun k q1 q2 q3 => ?_⟩
               by_cases e : k = j
               · exact absurd ⟨(nI_eq (b := 0) (by omega) (by omega)).mp c9, by rw [e]; exact (nI_eq (by omega) (by omega)).mp c8⟩ q3
               · exact hw1.2.2 k q1 (by omega) q3)
            | (have c9 : w9 = 0 := c_185
               have hw2 := (hw9.resolve_left (fun q => by rw [q.1] at c9; exact absurd c9 (by decide))).2
               refine Or.inl ⟨rfl, hw1.2.1, fun k q1 q2 q3 => ?_⟩
               by_cases e : k = j
               · rw [e]; exact hw2
               · exact hw1.2.2 k q1 (by omega) q3)
            | (have c9 : ¬ w9 = 0 := c_185
               have hw2 := (hw9.resolve_right (fun q => c9 q.1)).2
               refine Or.inr ⟨rfl, fun q => q.2 j (by omega) hjn (fun r => ?_) hw2⟩
               first
               | exact c_165 (by rw [r.1]; rfl)
               | exact c_173 (by rw [sv_prd (by omega), r.2]))
          · refine v_iconst (v := 1) dX13_isRight_188 (by decide) ?_
            refine v_goto (tgt := 193) dX13_isRight_189 (by decide) ?_
            refine v_istore_n (L' := [(3, _), (6, _), (4, _), (2, _), (0, _), (1, _)]) dX13_isRight_193 rfl (Nat.le_of_ble_eq_true rfl) rfl ?_
            refine v_iinc (j := 1) (L' := [(6, _), (3, _), (4, _), (2, _), (0, _), (1, _)]) (v := nI (j + 1)) dX13_isRight_194 rfl (nI_1 _) (Nat.le_of_ble_eq_true rfl) rfl ?_
            refine v_goto (tgt := 153) dX13_isRight_197 (by decide) ?_
            refine v_sub (L' := [(6, _), (4, _), (3, _), (2, _), (0, _), (1, _)]) [0, 2, 1, 3, 4, 5] rfl ?_
            have hjn : j < n := ((nI_ltI (by omega) (by omega)).mp (Int32.not_le.mp c_156))
            have hw1 := hw.resolve_right (fun q => c_160 q.1)
            refine ih (j + 1) _ (by omega) (by omega) (by omega) ?_
            first
            | (have c9 : nI i = 0 := c_165
               have c8 : nI j = nI n - 1 := c_173
               rw [sv_prd (by omega)] at c8
               refine Or.inl ⟨rfl, hw1.2.1, fun k q1 q2 q3 => ?_⟩
               by_cases e : k = j
               · exact absurd ⟨(nI_eq (b := 0) (by omega) (by omega)).mp c9, by rw [e]; exact (nI_eq (by omega) (by omega)).mp c8⟩ q3
               · exact hw1.2.2 k q1 (by omega) q3)
            | (have c9 : w9 = 0 := c_185
               have hw2 := (hw9.resolve_left (fun q => by rw [q.1] at c9; exact absurd c9 (by decide))).2
               refine Or.inl ⟨rfl, hw1.2.1, fun k q1 q2 q3 => ?_⟩
               by_cases e : k = j
               · rw [e]; exact hw2
               · exact hw1.2.2 k q1 (by omega) q3)
            | (have c9 : ¬ w9 = 0 := c_185
               have hw2 := (hw9.resolve_right (fun q => c9 q.1)).2
               refine Or.inr ⟨rfl, fun q => q.2 j (by omega) hjn (fun r => ?_) hw2⟩
               first
               | exact c_165 (by rw [r.1]; rfl)
               | exact c_173 (by rw [sv_prd (by omega), r.2]))
        · refine v_iload dX13_isRight_168 0 rfl ?_
          refine v_iload_n dX13_isRight_170 rfl 3 rfl ?_
          refine v_iconst (v := 1) dX13_isRight_171 (by decide) ?_
          refine v_isub dX13_isRight_172 ?_
          refine v_icmp_eq (tgt := 188) dX13_isRight_173 (by decide) (fun c_173 => ?_) (fun c_173 => ?_)
          · refine v_iconst (v := 1) dX13_isRight_188 (by decide) ?_
            refine v_goto (tgt := 193) dX13_isRight_189 (by decide) ?_
            refine v_istore_n (L' := [(3, _), (6, _), (4, _), (2, _), (0, _), (1, _)]) dX13_isRight_193 rfl (Nat.le_of_ble_eq_true rfl) rfl ?_
            refine v_iinc (j := 1) (L' := [(6, _), (3, _), (4, _), (2, _), (0, _), (1, _)]) (v := nI (j + 1)) dX13_isRight_194 rfl (nI_1 _) (Nat.le_of_ble_eq_true rfl) rfl ?_
            refine v_goto (tgt := 153) dX13_isRight_197 (by decide) ?_
            refine v_sub (L' := [(6, _), (4, _), (3, _), (2, _), (0, _), (1, _)]) [0, 2, 1, 3, 4, 5] rfl ?_
            have hjn : j < n := ((nI_ltI (by omega) (by omega)).mp (Int32.not_le.mp c_156))
            have hw1 := hw.resolve_right (fun q => c_160 q.1)
            refine ih (j + 1) _ (by omega) (by omega) (by omega) ?_
            first
            | (have c9 : nI i = 0 := c_165
               have c8 : nI j = nI n - 1 := c_173
               rw [sv_prd (by omega)] at c8
               refine Or.inl ⟨rfl, hw1.2.1, fun k q1 q2 q3 => ?_⟩
               by_cases e : k = j
               · exact absurd ⟨(nI_eq (b := 0) (by omega) (by omega)).mp c9, by rw [e]; exact (nI_eq (by omega) (by omega)).mp c8⟩ q3
               · exact hw1.2.2 k q1 (by omega) q3)
            | (have c9 : w9 = 0 := c_185
               have hw2 := (hw9.resolve_left (fun q => by rw [q.1] at c9; exact absurd c9 (by decide))).2
               refine Or.inl ⟨rfl, hw1.2.1, fun k q1 q2 q3 => ?_⟩
               by_cases e : k = j
               · rw [e]; exact hw2
               · exact hw1.2.2 k q1 (by omega) q3)
            | (have c9 : ¬ w9 = 0 := c_185
               have hw2 := (hw9.resolve_right (fun q => c9 q.1)).2
               refine Or.inr ⟨rfl, fun q => q.2 j (by omega) hjn (fun r => ?_) hw2⟩
               first
               | exact c_165 (by rw [r.1]; rfl)
               | exact c_173 (by rw [sv_prd (by omega), r.2]))
          · refine v_aload_n dX13_isRight_176 rfl 4 rfl ?_
            refine v_iload_n dX13_isRight_177 rfl 5 rfl ?_
            refine v_iload dX13_isRight_178 1 rfl ?_
            refine v_iload dX13_isRight_180 0 rfl ?_
            refine v_callVq (M' := mX13_isMeeting) (n := 3) (As := [_, _, _]) (ci := 11) (r := (RX13, TX13, 71)) gX13_isRight_X13_isMeeting rfl (by decide +kernel) ⟨(Nat.le_of_ble_eq_true rfl), (Nat.le_of_ble_eq_true rfl)⟩ rfl rfl dX13_isRight_182 rfl ⟨(Nat.le_of_ble_eq_true rfl), (Nat.le_of_ble_eq_true rfl)⟩ (Nat.le_of_ble_eq_true rfl) (by repeat (first | (with_reducible refine sv_us.trans ?_; exact rfl) | with_reducible assumption | with_reducible refine (sv_un (by omega)).trans ?_)) rfl (m_isMeeting G _ _ b p n fs gs gx gy X Y hlen hm f_size f_px f_py hgs hgx hgy hp64 hsn hn16 hX hY i j hi ((nI_ltI (by omega) (by omega)).mp (Int32.not_le.mp c_156))) (fun v h1 z1 hq => ?_)
            obtain ⟨⟨w9, rfl, hw9⟩, rfl, rfl⟩ := hq
            refine v_if_ne (tgt := 192) dX13_isRight_185 (by decide) (fun c_185 => ?_) (fun c_185 => ?_)
            · refine v_iconst (v := 0) dX13_isRight_192 (by decide) ?_
              refine v_istore_n (L' := [(3, _), (6, _), (4, _), (2, _), (0, _), (1, _)]) dX13_isRight_193 rfl (Nat.le_of_ble_eq_true rfl) rfl ?_
              refine v_iinc (j := 1) (L' := [(6, _), (3, _), (4, _), (2, _), (0, _), (1, _)]) (v := nI (j + 1)) dX13_isRight_194 rfl (nI_1 _) (Nat.le_of_ble_eq_true rfl) rfl ?_
              refine v_goto (tgt := 153) dX13_isRight_197 (by decide) ?_
              refine v_sub (L' := [(6, _), (4, _), (3, _), (2, _), (0, _), (1, _)]) [0, 2, 1, 3, 4, 5] rfl ?_
              have hjn : j < n := ((nI_ltI (by omega) (by omega)).mp (Int32.not_le.mp c_156))
              have hw1 := hw.resolve_right (fun q => c_160 q.1)
              refine ih (j + 1) _ (by omega) (by omega) (by omega) ?_
              first
              | (have c9 : nI i = 0 := c_165
                 have c8 : nI j = nI n - 1 := c_173
                 rw [sv_prd (by omega)] at c8
                 refine Or.inl ⟨rfl, hw1.2.1, fun k q1 q2 q3 => ?_⟩
                 by_cases e : k = j
                 · exact absurd ⟨(nI_eq (b := 0) (by omega) (by omega)).mp c9, by rw [e]; exact (nI_eq (by omega) (by omega)).mp c8⟩ q3
                 · exact hw1.2.2 k q1 (by omega) q3)
              | (have c9 : w9 = 0 := c_185
                 have hw2 := (hw9.resolve_left (fun q => by rw [q.1] at c9; exact absurd c9 (by decide))).2
                 refine Or.inl ⟨rfl, hw1.2.1, fun k q1 q2 q3 => ?_⟩
                 by_cases e : k = j
                 · rw [e]; exact hw2
                 · exact hw1.2.2 k q1 (by omega) q3)
              | (have c9 : ¬ w9 = 0 := c_185
                 have hw2 := (hw9.resolve_right (fun q => c9 q.1)).2
                 refine Or.inr ⟨rfl, fun q => q.2 j (by omega) hjn (fun r => ?_) hw2⟩
                 first
                 | exact c_165 (by rw [r.1]; rfl)
                 | exact c_173 (by rw [sv_prd (by omega), r.2]))
            · refine v_iconst (v := 1) dX13_isRight_188 (by decide) ?_
              refine v_goto (tgt := 193) dX13_isRight_189 (by decide) ?_
              refine v_istore_n (L' := [(3, _), (6, _), (4, _), (2, _), (0, _), (1, _)]) dX13_isRight_193 rfl (Nat.le_of_ble_eq_true rfl) rfl ?_
              refine v_iinc (j := 1) (L' := [(6, _), (3, _), (4, _), (2, _), (0, _), (1, _)]) (v := nI (j + 1)) dX13_isRight_194 rfl (nI_1 _) (Nat.le_of_ble_eq_true rfl) rfl ?_
              refine v_goto (tgt := 153) dX13_isRight_197 (by decide) ?_
              refine v_sub (L' := [(6, _), (4, _), (3, _), (2, _), (0, _), (1, _)]) [0, 2, 1, 3, 4, 5] rfl ?_
              have hjn : j < n := ((nI_ltI (by omega) (by omega)).mp (Int32.not_le.mp c_156))
              have hw1 := hw.resolve_right (fun q => c_160 q.1)
              refine ih (j + 1) _ (by omega) (by omega) (by omega) ?_
              first
              | (have c9 : nI i = 0 := c_165
                 have c8 : nI j = nI n - 1 := c_173
                 rw [sv_prd (by omega)] at c8
                 refine Or.inl ⟨rfl, hw1.2.1, fun k q1 q2 q3 => ?_⟩
                 by_cases e : k = j
                 · exact absurd ⟨(nI_eq (b := 0) (by omega) (by omega)).mp c9, by rw [e]; exact (nI_eq (by omega) (by omega)).mp c8⟩ q3
                 · exact hw1.2.2 k q1 (by omega) q3)
              | (have c9 : w9 = 0 := c_185
                 have hw2 := (hw9.resolve_left (fun q => by rw [q.1] at c9; exact absurd c9 (by decide))).2
                 refine Or.inl ⟨rfl, hw1.2.1, fun k q1 q2 q3 => ?_⟩
                 by_cases e : k = j
                 · rw [e]; exact hw2
                 · exact hw1.2.2 k q1 (by omega) q3)
              | (have c9 : ¬ w9 = 0 := c_185
                 have hw2 := (hw9.resolve_right (fun q => c9 q.1)).2
                 refine Or.inr ⟨rfl, fun q => q.2 j (by omega) hjn (fun r => ?_) hw2⟩
                 first
                 | exact c_165 (by rw [r.1]; rfl)
                 | exact c_173 (by rw [sv_prd (by omega), r.2]))

set_option maxHeartbeats 4000000 in
set_option maxRecDepth 100000 in
theorem l_isRight2 (G : sv_G) (h : sv_h) (z b p n : Nat) (fs : List Value) (gs : Nat → Int32) (gx gy : Nat → Int64) (X Y : Nat → Int32) (hlen : fs.length = 71) (hm : h (b + 220) = some (.inr (11, fs))) (f_size : fs[7]? = some (.ref (b + 224))) (f_px : fs[8]? = some (.ref (b + 225))) (f_py : fs[9]? = some (.ref (b + 226))) (hgs : ab_I G h (b + 224) 64 gs) (hgx : ab_J G h (b + 225) 1024 gx) (hgy : ab_J G h (b + 226) 1024 gy) (hp64 : p < 64) (hsn : gs p = nI n) (hn16 : n ≤ 16) (hX : ∀ i, i < n → gx (16 * p + i) = (X i).toInt64) (hY : ∀ i, i < n → gy (16 * p + i) = (Y i).toInt64) (h4 : 4 ≤ n) : ∀ (c i : Nat) (w : Int32), i + c = n → ((w = 1 ∧ gm_closes n X Y ∧ ∀ k, k < i → gm_ri n X Y k) ∨ (w = 0 ∧ ¬ gm_mr n X Y)) → V G mX13_isRight (sv_MQ G mX13_isRight (fun v h1 z1 => (∃ w : Int32, v = some (.int w) ∧ ((w = 1 ∧ gm_mr n X Y) ∨ (w = 0 ∧ ¬ gm_mr n X Y))) ∧ h1 = h ∧ z1 = z)) 72 [(4, .int (nI i)), (3, .int w), (2, .int (nI n)), (0, .ref (b + 220)), (1, .int (nI p))] [] h z 0 0 := by
  intro c
  induction c with
  | zero =>
    intro i w hic hw
    refine v_iload dX13_isRight_72 0 rfl ?_
    refine v_iload_n dX13_isRight_74 rfl 2 rfl ?_
    refine v_icmp_ge (tgt := 206) dX13_isRight_75 (by decide) (fun c_75 => ?_) (fun c_75 => ?_)
    · refine v_iload_n dX13_isRight_206 rfl 1 rfl ?_
      exact v_iret rfl dX13_isRight_207 (Nat.le_of_ble_eq_true rfl) (Nat.le_of_ble_eq_true rfl) (by rcases hw with ⟨e9, _⟩ | ⟨e9, _⟩ <;> (rw [e9]; rfl)) ⟨⟨w, rfl, hw.imp (fun q => ⟨q.1, q.2.1, fun k hk => q.2.2 k (by omega)⟩) (fun q => q)⟩, rfl, rfl⟩
    · exact absurd (show nI n ≤ nI i from nI_le (by omega) (by omega)) c_75
  | succ c ih =>
    intro i w hic hw
    refine v_iload dX13_isRight_72 0 rfl ?_
    refine v_iload_n dX13_isRight_74 rfl 2 rfl ?_
    refine v_icmp_ge (tgt := 206) dX13_isRight_75 (by decide) (fun c_75 => ?_) (fun c_75 => ?_)
    · exact absurd c_75 (nI_ge (by omega) (by omega))
    · refine v_iload_n dX13_isRight_78 rfl 1 rfl ?_
      refine v_if_eq (tgt := 206) dX13_isRight_79 (by decide) (fun c_79 => ?_) (fun c_79 => ?_)
      · refine v_iload_n dX13_isRight_206 rfl 1 rfl ?_
        exact v_iret rfl dX13_isRight_207 (Nat.le_of_ble_eq_true rfl) (Nat.le_of_ble_eq_true rfl) (by rcases hw with ⟨e9, _⟩ | ⟨e9, _⟩ <;> (rw [e9]; rfl)) ⟨⟨w, rfl, Or.inr (hw.resolve_left (fun q => by rw [q.1] at c_79; exact absurd c_79 (by decide)))⟩, rfl, rfl⟩
      · refine v_aload_n dX13_isRight_82 rfl 3 rfl ?_
        refine v_iload_n dX13_isRight_83 rfl 4 rfl ?_
        refine v_iload dX13_isRight_84 0 rfl ?_
        refine v_callVq (M' := mX13_cornerY) (n := 2) (As := [_, _]) (ci := 11) (r := (RX13, TX13, 71)) gX13_isRight_X13_cornerY rfl (by decide +kernel) ⟨(Nat.le_of_ble_eq_true rfl), (Nat.le_of_ble_eq_true rfl)⟩ rfl rfl dX13_isRight_86 rfl ⟨(Nat.le_of_ble_eq_true rfl), (Nat.le_of_ble_eq_true rfl)⟩ (Nat.le_of_ble_eq_true rfl) (by repeat (first | (with_reducible refine sv_us.trans ?_; exact rfl) | with_reducible assumption | with_reducible refine (sv_un (by omega)).trans ?_)) rfl (m_cornerY0 G _ _ b p n fs gs gx gy X Y hlen hm f_size f_px f_py hgs hgx hgy hp64 hsn hn16 hX hY i (by omega)) (fun v h1 z1 hq => v_pq hq ?_)
        refine v_aload_n dX13_isRight_89 rfl 3 rfl ?_
        refine v_iload_n dX13_isRight_90 rfl 4 rfl ?_
        refine v_iload dX13_isRight_91 0 rfl ?_
        refine v_iconst (v := 1) dX13_isRight_93 (by decide) ?_
        refine v_iadd dX13_isRight_94 ?_
        refine v_callVq (M' := mX13_cornerY) (n := 2) (As := [_, _]) (ci := 11) (r := (RX13, TX13, 71)) gX13_isRight_X13_cornerY rfl (by decide +kernel) ⟨(Nat.le_of_ble_eq_true rfl), (Nat.le_of_ble_eq_true rfl)⟩ rfl rfl dX13_isRight_95 rfl ⟨(Nat.le_of_ble_eq_true rfl), (Nat.le_of_ble_eq_true rfl)⟩ (Nat.le_of_ble_eq_true rfl) (by repeat (first | (with_reducible refine sv_us.trans ?_; exact rfl) | with_reducible assumption | with_reducible refine (sv_un (by omega)).trans ?_)) rfl (m_cornerY1 G _ _ b p n fs gs gx gy X Y hlen hm f_size f_px f_py hgs hgx hgy hp64 hsn hn16 hX hY i (by omega)) (fun v h1 z1 hq => v_pq hq ?_)
        refine v_lcmp_ne (tgt := 106) dX13_isRight_98 dX13_isRight_99 (by decide) (fun c_99 => ?_) (fun c_99 => ?_)
        · refine v_iconst (v := 0) dX13_isRight_106 (by decide) ?_
          refine v_istore (L' := [(5, _), (4, _), (3, _), (2, _), (0, _), (1, _)]) dX13_isRight_107 (Nat.le_of_ble_eq_true rfl) rfl ?_
          refine v_iload dX13_isRight_109 0 rfl ?_
          refine v_aload_n dX13_isRight_111 rfl 4 rfl ?_
          refine v_iload_n dX13_isRight_112 rfl 5 rfl ?_
          refine v_iload dX13_isRight_113 1 rfl ?_
          refine v_iconst (v := 1) dX13_isRight_115 (by decide) ?_
          refine v_iadd dX13_isRight_116 ?_
          refine v_callVq (M' := mX13_cornerY) (n := 2) (As := [_, _]) (ci := 11) (r := (RX13, TX13, 71)) gX13_isRight_X13_cornerY rfl (by decide +kernel) ⟨(Nat.le_of_ble_eq_true rfl), (Nat.le_of_ble_eq_true rfl)⟩ rfl rfl dX13_isRight_117 rfl ⟨(Nat.le_of_ble_eq_true rfl), (Nat.le_of_ble_eq_true rfl)⟩ (Nat.le_of_ble_eq_true rfl) (by repeat (first | (with_reducible refine sv_us.trans ?_; exact rfl) | with_reducible assumption | with_reducible refine (sv_un (by omega)).trans ?_)) rfl (m_cornerY1 G _ _ b p n fs gs gx gy X Y hlen hm f_size f_px f_py hgs hgx hgy hp64 hsn hn16 hX hY i (by omega)) (fun v h1 z1 hq => v_pq hq ?_)
          refine v_aload_n dX13_isRight_120 rfl 4 rfl ?_
          refine v_iload_n dX13_isRight_121 rfl 5 rfl ?_
          refine v_iload dX13_isRight_122 1 rfl ?_
          refine v_iconst (v := 2) dX13_isRight_124 (by decide) ?_
          refine v_iadd dX13_isRight_125 ?_
          refine v_callVq (M' := mX13_cornerY) (n := 2) (As := [_, _]) (ci := 11) (r := (RX13, TX13, 71)) gX13_isRight_X13_cornerY rfl (by decide +kernel) ⟨(Nat.le_of_ble_eq_true rfl), (Nat.le_of_ble_eq_true rfl)⟩ rfl rfl dX13_isRight_126 rfl ⟨(Nat.le_of_ble_eq_true rfl), (Nat.le_of_ble_eq_true rfl)⟩ (Nat.le_of_ble_eq_true rfl) (by repeat (first | (with_reducible refine sv_us.trans ?_; exact rfl) | with_reducible assumption | with_reducible refine (sv_un (by omega)).trans ?_)) rfl (m_cornerY2 G _ _ b p n fs gs gx gy X Y hlen hm f_size f_px f_py hgs hgx hgy hp64 hsn hn16 hX hY i (by omega) (by omega)) (fun v h1 z1 hq => v_pq hq ?_)
          refine v_lcmp_ne (tgt := 137) dX13_isRight_129 dX13_isRight_130 (by decide) (fun c_130 => ?_) (fun c_130 => ?_)
          · refine v_iconst (v := 0) dX13_isRight_137 (by decide) ?_
            refine v_icmp_eq (tgt := 145) dX13_isRight_138 (by decide) (fun c_138 => ?_) (fun c_138 => ?_)
            · refine v_iconst (v := 0) dX13_isRight_145 (by decide) ?_
              refine v_istore_n (L' := [(3, _), (5, _), (4, _), (2, _), (0, _), (1, _)]) dX13_isRight_146 rfl (Nat.le_of_ble_eq_true rfl) rfl ?_
              refine v_iload dX13_isRight_147 2 rfl ?_
              refine v_iconst (v := 2) dX13_isRight_149 (by decide) ?_
              refine v_iadd dX13_isRight_150 ?_
              refine v_istore (L' := [(6, _), (3, _), (5, _), (4, _), (2, _), (0, _), (1, _)]) dX13_isRight_151 (Nat.le_of_ble_eq_true rfl) rfl ?_
              rw [show nI i + 2 = nI (i + 2) from nI_add i 2]
              refine v_sub (L' := [(6, _), (4, _), (3, _), (2, _), (0, _), (1, _)]) [0, 3, 1, 4, 5, 6] rfl ?_
              have hw1 := hw.resolve_right (fun q => c_79 q.1)
              refine l_isRight1 G _ h z b p n fs gs gx gy X Y hlen hm f_size f_px f_py hgs hgx hgy hp64 hsn hn16 hX hY i (by omega) (fun w9 w6 hw9 => ?_) n (i + 2) _ (by omega) (by omega) (by omega) ?_
              · refine v_iinc (j := 1) (L' := [(4, _), (6, _), (3, _), (2, _), (0, _), (1, _)]) (v := nI (i + 1)) dX13_isRight_200 rfl (nI_1 _) (Nat.le_of_ble_eq_true rfl) rfl ?_
                refine v_goto (tgt := 72) dX13_isRight_203 (by decide) ?_
                refine v_sub (L' := [(4, _), (3, _), (2, _), (0, _), (1, _)]) [0, 2, 3, 4, 5] rfl ?_
                refine ih (i + 1) w9 (by omega) (hw9.imp (fun q => ⟨q.1, hw1.2.1, fun k hk => ?_⟩) (fun q => ⟨q.1, fun r => q.2 (r.2 i (by omega))⟩))
                by_cases e : k = i
                · rw [e]; exact q.2
                · exact hw1.2.2 k (by omega)
              · first
                | exact absurd c_138 (by decide)
                | exact absurd rfl c_138
                | exact Or.inr ⟨rfl, fun q => q.1 ⟨fun _ => sv_64e.mp c_130, fun _ => sv_64e.mp c_99⟩⟩
                | exact Or.inr ⟨rfl, fun q => q.1 ⟨fun r => absurd (sv_64e.mpr r) c_99, fun r => absurd (sv_64e.mpr r) c_130⟩⟩
                | exact Or.inl ⟨rfl, fun q => c_130 (sv_64e.mpr (q.mp (sv_64e.mp c_99))), fun k q1 q2 => absurd q2 (by omega)⟩
                | exact Or.inl ⟨rfl, fun q => c_99 (sv_64e.mpr (q.mpr (sv_64e.mp c_130))), fun k q1 q2 => absurd q2 (by omega)⟩
            · refine v_iconst (v := 1) dX13_isRight_141 (by decide) ?_
              refine v_goto (tgt := 146) dX13_isRight_142 (by decide) ?_
              refine v_istore_n (L' := [(3, _), (5, _), (4, _), (2, _), (0, _), (1, _)]) dX13_isRight_146 rfl (Nat.le_of_ble_eq_true rfl) rfl ?_
              refine v_iload dX13_isRight_147 2 rfl ?_
              refine v_iconst (v := 2) dX13_isRight_149 (by decide) ?_
              refine v_iadd dX13_isRight_150 ?_
              refine v_istore (L' := [(6, _), (3, _), (5, _), (4, _), (2, _), (0, _), (1, _)]) dX13_isRight_151 (Nat.le_of_ble_eq_true rfl) rfl ?_
              rw [show nI i + 2 = nI (i + 2) from nI_add i 2]
              refine v_sub (L' := [(6, _), (4, _), (3, _), (2, _), (0, _), (1, _)]) [0, 3, 1, 4, 5, 6] rfl ?_
              have hw1 := hw.resolve_right (fun q => c_79 q.1)
              refine l_isRight1 G _ h z b p n fs gs gx gy X Y hlen hm f_size f_px f_py hgs hgx hgy hp64 hsn hn16 hX hY i (by omega) (fun w9 w6 hw9 => ?_) n (i + 2) _ (by omega) (by omega) (by omega) ?_
              · refine v_iinc (j := 1) (L' := [(4, _), (6, _), (3, _), (2, _), (0, _), (1, _)]) (v := nI (i + 1)) dX13_isRight_200 rfl (nI_1 _) (Nat.le_of_ble_eq_true rfl) rfl ?_
                refine v_goto (tgt := 72) dX13_isRight_203 (by decide) ?_
                refine v_sub (L' := [(4, _), (3, _), (2, _), (0, _), (1, _)]) [0, 2, 3, 4, 5] rfl ?_
                refine ih (i + 1) w9 (by omega) (hw9.imp (fun q => ⟨q.1, hw1.2.1, fun k hk => ?_⟩) (fun q => ⟨q.1, fun r => q.2 (r.2 i (by omega))⟩))
                by_cases e : k = i
                · rw [e]; exact q.2
                · exact hw1.2.2 k (by omega)
              · first
                | exact absurd c_138 (by decide)
                | exact absurd rfl c_138
                | exact Or.inr ⟨rfl, fun q => q.1 ⟨fun _ => sv_64e.mp c_130, fun _ => sv_64e.mp c_99⟩⟩
                | exact Or.inr ⟨rfl, fun q => q.1 ⟨fun r => absurd (sv_64e.mpr r) c_99, fun r => absurd (sv_64e.mpr r) c_130⟩⟩
                | exact Or.inl ⟨rfl, fun q => c_130 (sv_64e.mpr (q.mp (sv_64e.mp c_99))), fun k q1 q2 => absurd q2 (by omega)⟩
                | exact Or.inl ⟨rfl, fun q => c_99 (sv_64e.mpr (q.mpr (sv_64e.mp c_130))), fun k q1 q2 => absurd q2 (by omega)⟩
          · refine v_iconst (v := 1) dX13_isRight_133 (by decide) ?_
            refine v_goto (tgt := 138) dX13_isRight_134 (by decide) ?_
            refine v_icmp_eq (tgt := 145) dX13_isRight_138 (by decide) (fun c_138 => ?_) (fun c_138 => ?_)
            · refine v_iconst (v := 0) dX13_isRight_145 (by decide) ?_
              refine v_istore_n (L' := [(3, _), (5, _), (4, _), (2, _), (0, _), (1, _)]) dX13_isRight_146 rfl (Nat.le_of_ble_eq_true rfl) rfl ?_
              refine v_iload dX13_isRight_147 2 rfl ?_
              refine v_iconst (v := 2) dX13_isRight_149 (by decide) ?_
              refine v_iadd dX13_isRight_150 ?_
              refine v_istore (L' := [(6, _), (3, _), (5, _), (4, _), (2, _), (0, _), (1, _)]) dX13_isRight_151 (Nat.le_of_ble_eq_true rfl) rfl ?_
              rw [show nI i + 2 = nI (i + 2) from nI_add i 2]
              refine v_sub (L' := [(6, _), (4, _), (3, _), (2, _), (0, _), (1, _)]) [0, 3, 1, 4, 5, 6] rfl ?_
              have hw1 := hw.resolve_right (fun q => c_79 q.1)
              refine l_isRight1 G _ h z b p n fs gs gx gy X Y hlen hm f_size f_px f_py hgs hgx hgy hp64 hsn hn16 hX hY i (by omega) (fun w9 w6 hw9 => ?_) n (i + 2) _ (by omega) (by omega) (by omega) ?_
              · refine v_iinc (j := 1) (L' := [(4, _), (6, _), (3, _), (2, _), (0, _), (1, _)]) (v := nI (i + 1)) dX13_isRight_200 rfl (nI_1 _) (Nat.le_of_ble_eq_true rfl) rfl ?_
                refine v_goto (tgt := 72) dX13_isRight_203 (by decide) ?_
                refine v_sub (L' := [(4, _), (3, _), (2, _), (0, _), (1, _)]) [0, 2, 3, 4, 5] rfl ?_
                refine ih (i + 1) w9 (by omega) (hw9.imp (fun q => ⟨q.1, hw1.2.1, fun k hk => ?_⟩) (fun q => ⟨q.1, fun r => q.2 (r.2 i (by omega))⟩))
                by_cases e : k = i
                · rw [e]; exact q.2
                · exact hw1.2.2 k (by omega)
              · first
                | exact absurd c_138 (by decide)
                | exact absurd rfl c_138
                | exact Or.inr ⟨rfl, fun q => q.1 ⟨fun _ => sv_64e.mp c_130, fun _ => sv_64e.mp c_99⟩⟩
                | exact Or.inr ⟨rfl, fun q => q.1 ⟨fun r => absurd (sv_64e.mpr r) c_99, fun r => absurd (sv_64e.mpr r) c_130⟩⟩
                | exact Or.inl ⟨rfl, fun q => c_130 (sv_64e.mpr (q.mp (sv_64e.mp c_99))), fun k q1 q2 => absurd q2 (by omega)⟩
                | exact Or.inl ⟨rfl, fun q => c_99 (sv_64e.mpr (q.mpr (sv_64e.mp c_130))), fun k q1 q2 => absurd q2 (by omega)⟩
            · refine v_iconst (v := 1) dX13_isRight_141 (by decide) ?_
              refine v_goto (tgt := 146) dX13_isRight_142 (by decide) ?_
              refine v_istore_n (L' := [(3, _), (5, _), (4, _), (2, _), (0, _), (1, _)]) dX13_isRight_146 rfl (Nat.le_of_ble_eq_true rfl) rfl ?_
              refine v_iload dX13_isRight_147 2 rfl ?_
              refine v_iconst (v := 2) dX13_isRight_149 (by decide) ?_
              refine v_iadd dX13_isRight_150 ?_
              refine v_istore (L' := [(6, _), (3, _), (5, _), (4, _), (2, _), (0, _), (1, _)]) dX13_isRight_151 (Nat.le_of_ble_eq_true rfl) rfl ?_
              rw [show nI i + 2 = nI (i + 2) from nI_add i 2]
              refine v_sub (L' := [(6, _), (4, _), (3, _), (2, _), (0, _), (1, _)]) [0, 3, 1, 4, 5, 6] rfl ?_
              have hw1 := hw.resolve_right (fun q => c_79 q.1)
              refine l_isRight1 G _ h z b p n fs gs gx gy X Y hlen hm f_size f_px f_py hgs hgx hgy hp64 hsn hn16 hX hY i (by omega) (fun w9 w6 hw9 => ?_) n (i + 2) _ (by omega) (by omega) (by omega) ?_
              · refine v_iinc (j := 1) (L' := [(4, _), (6, _), (3, _), (2, _), (0, _), (1, _)]) (v := nI (i + 1)) dX13_isRight_200 rfl (nI_1 _) (Nat.le_of_ble_eq_true rfl) rfl ?_
                refine v_goto (tgt := 72) dX13_isRight_203 (by decide) ?_
                refine v_sub (L' := [(4, _), (3, _), (2, _), (0, _), (1, _)]) [0, 2, 3, 4, 5] rfl ?_
                refine ih (i + 1) w9 (by omega) (hw9.imp (fun q => ⟨q.1, hw1.2.1, fun k hk => ?_⟩) (fun q => ⟨q.1, fun r => q.2 (r.2 i (by omega))⟩))
                by_cases e : k = i
                · rw [e]; exact q.2
                · exact hw1.2.2 k (by omega)
              · first
                | exact absurd c_138 (by decide)
                | exact absurd rfl c_138
                | exact Or.inr ⟨rfl, fun q => q.1 ⟨fun _ => sv_64e.mp c_130, fun _ => sv_64e.mp c_99⟩⟩
                | exact Or.inr ⟨rfl, fun q => q.1 ⟨fun r => absurd (sv_64e.mpr r) c_99, fun r => absurd (sv_64e.mpr r) c_130⟩⟩
                | exact Or.inl ⟨rfl, fun q => c_130 (sv_64e.mpr (q.mp (sv_64e.mp c_99))), fun k q1 q2 => absurd q2 (by omega)⟩
                | exact Or.inl ⟨rfl, fun q => c_99 (sv_64e.mpr (q.mpr (sv_64e.mp c_130))), fun k q1 q2 => absurd q2 (by omega)⟩
        · refine v_iconst (v := 1) dX13_isRight_102 (by decide) ?_
          refine v_goto (tgt := 107) dX13_isRight_103 (by decide) ?_
          refine v_istore (L' := [(5, _), (4, _), (3, _), (2, _), (0, _), (1, _)]) dX13_isRight_107 (Nat.le_of_ble_eq_true rfl) rfl ?_
          refine v_iload dX13_isRight_109 0 rfl ?_
          refine v_aload_n dX13_isRight_111 rfl 4 rfl ?_
          refine v_iload_n dX13_isRight_112 rfl 5 rfl ?_
          refine v_iload dX13_isRight_113 1 rfl ?_
          refine v_iconst (v := 1) dX13_isRight_115 (by decide) ?_
          refine v_iadd dX13_isRight_116 ?_
          refine v_callVq (M' := mX13_cornerY) (n := 2) (As := [_, _]) (ci := 11) (r := (RX13, TX13, 71)) gX13_isRight_X13_cornerY rfl (by decide +kernel) ⟨(Nat.le_of_ble_eq_true rfl), (Nat.le_of_ble_eq_true rfl)⟩ rfl rfl dX13_isRight_117 rfl ⟨(Nat.le_of_ble_eq_true rfl), (Nat.le_of_ble_eq_true rfl)⟩ (Nat.le_of_ble_eq_true rfl) (by repeat (first | (with_reducible refine sv_us.trans ?_; exact rfl) | with_reducible assumption | with_reducible refine (sv_un (by omega)).trans ?_)) rfl (m_cornerY1 G _ _ b p n fs gs gx gy X Y hlen hm f_size f_px f_py hgs hgx hgy hp64 hsn hn16 hX hY i (by omega)) (fun v h1 z1 hq => v_pq hq ?_)
          refine v_aload_n dX13_isRight_120 rfl 4 rfl ?_
          refine v_iload_n dX13_isRight_121 rfl 5 rfl ?_
          refine v_iload dX13_isRight_122 1 rfl ?_
          refine v_iconst (v := 2) dX13_isRight_124 (by decide) ?_
          refine v_iadd dX13_isRight_125 ?_
          refine v_callVq (M' := mX13_cornerY) (n := 2) (As := [_, _]) (ci := 11) (r := (RX13, TX13, 71)) gX13_isRight_X13_cornerY rfl (by decide +kernel) ⟨(Nat.le_of_ble_eq_true rfl), (Nat.le_of_ble_eq_true rfl)⟩ rfl rfl dX13_isRight_126 rfl ⟨(Nat.le_of_ble_eq_true rfl), (Nat.le_of_ble_eq_true rfl)⟩ (Nat.le_of_ble_eq_true rfl) (by repeat (first | (with_reducible refine sv_us.trans ?_; exact rfl) | with_reducible assumption | with_reducible refine (sv_un (by omega)).trans ?_)) rfl (m_cornerY2 G _ _ b p n fs gs gx gy X Y hlen hm f_size f_px f_py hgs hgx hgy hp64 hsn hn16 hX hY i (by omega) (by omega)) (fun v h1 z1 hq => v_pq hq ?_)
          refine v_lcmp_ne (tgt := 137) dX13_isRight_129 dX13_isRight_130 (by decide) (fun c_130 => ?_) (fun c_130 => ?_)
          · refine v_iconst (v := 0) dX13_isRight_137 (by decide) ?_
            refine v_icmp_eq (tgt := 145) dX13_isRight_138 (by decide) (fun c_138 => ?_) (fun c_138 => ?_)
            · refine v_iconst (v := 0) dX13_isRight_145 (by decide) ?_
              refine v_istore_n (L' := [(3, _), (5, _), (4, _), (2, _), (0, _), (1, _)]) dX13_isRight_146 rfl (Nat.le_of_ble_eq_true rfl) rfl ?_
              refine v_iload dX13_isRight_147 2 rfl ?_
              refine v_iconst (v := 2) dX13_isRight_149 (by decide) ?_
              refine v_iadd dX13_isRight_150 ?_
              refine v_istore (L' := [(6, _), (3, _), (5, _), (4, _), (2, _), (0, _), (1, _)]) dX13_isRight_151 (Nat.le_of_ble_eq_true rfl) rfl ?_
              rw [show nI i + 2 = nI (i + 2) from nI_add i 2]
              refine v_sub (L' := [(6, _), (4, _), (3, _), (2, _), (0, _), (1, _)]) [0, 3, 1, 4, 5, 6] rfl ?_
              have hw1 := hw.resolve_right (fun q => c_79 q.1)
              refine l_isRight1 G _ h z b p n fs gs gx gy X Y hlen hm f_size f_px f_py hgs hgx hgy hp64 hsn hn16 hX hY i (by omega) (fun w9 w6 hw9 => ?_) n (i + 2) _ (by omega) (by omega) (by omega) ?_
              · refine v_iinc (j := 1) (L' := [(4, _), (6, _), (3, _), (2, _), (0, _), (1, _)]) (v := nI (i + 1)) dX13_isRight_200 rfl (nI_1 _) (Nat.le_of_ble_eq_true rfl) rfl ?_
                refine v_goto (tgt := 72) dX13_isRight_203 (by decide) ?_
                refine v_sub (L' := [(4, _), (3, _), (2, _), (0, _), (1, _)]) [0, 2, 3, 4, 5] rfl ?_
                refine ih (i + 1) w9 (by omega) (hw9.imp (fun q => ⟨q.1, hw1.2.1, fun k hk => ?_⟩) (fun q => ⟨q.1, fun r => q.2 (r.2 i (by omega))⟩))
                by_cases e : k = i
                · rw [e]; exact q.2
                · exact hw1.2.2 k (by omega)
              · first
                | exact absurd c_138 (by decide)
                | exact absurd rfl c_138
                | exact Or.inr ⟨rfl, fun q => q.1 ⟨fun _ => sv_64e.mp c_130, fun _ => sv_64e.mp c_99⟩⟩
                | exact Or.inr ⟨rfl, fun q => q.1 ⟨fun r => absurd (sv_64e.mpr r) c_99, fun r => absurd (sv_64e.mpr r) c_130⟩⟩
                | exact Or.inl ⟨rfl, fun q => c_130 (sv_64e.mpr (q.mp (sv_64e.mp c_99))), fun k q1 q2 => absurd q2 (by omega)⟩
                | exact Or.inl ⟨rfl, fun q => c_99 (sv_64e.mpr (q.mpr (sv_64e.mp c_130))), fun k q1 q2 => absurd q2 (by omega)⟩
            · refine v_iconst (v := 1) dX13_isRight_141 (by decide) ?_
              refine v_goto (tgt := 146) dX13_isRight_142 (by decide) ?_
              refine v_istore_n (L' := [(3, _), (5, _), (4, _), (2, _), (0, _), (1, _)]) dX13_isRight_146 rfl (Nat.le_of_ble_eq_true rfl) rfl ?_
              refine v_iload dX13_isRight_147 2 rfl ?_
              refine v_iconst (v := 2) dX13_isRight_149 (by decide) ?_
              refine v_iadd dX13_isRight_150 ?_
              refine v_istore (L' := [(6, _), (3, _), (5, _), (4, _), (2, _), (0, _), (1, _)]) dX13_isRight_151 (Nat.le_of_ble_eq_true rfl) rfl ?_
              rw [show nI i + 2 = nI (i + 2) from nI_add i 2]
              refine v_sub (L' := [(6, _), (4, _), (3, _), (2, _), (0, _), (1, _)]) [0, 3, 1, 4, 5, 6] rfl ?_
              have hw1 := hw.resolve_right (fun q => c_79 q.1)
              refine l_isRight1 G _ h z b p n fs gs gx gy X Y hlen hm f_size f_px f_py hgs hgx hgy hp64 hsn hn16 hX hY i (by omega) (fun w9 w6 hw9 => ?_) n (i + 2) _ (by omega) (by omega) (by omega) ?_
              · refine v_iinc (j := 1) (L' := [(4, _), (6, _), (3, _), (2, _), (0, _), (1, _)]) (v := nI (i + 1)) dX13_isRight_200 rfl (nI_1 _) (Nat.le_of_ble_eq_true rfl) rfl ?_
                refine v_goto (tgt := 72) dX13_isRight_203 (by decide) ?_
                refine v_sub (L' := [(4, _), (3, _), (2, _), (0, _), (1, _)]) [0, 2, 3, 4, 5] rfl ?_
                refine ih (i + 1) w9 (by omega) (hw9.imp (fun q => ⟨q.1, hw1.2.1, fun k hk => ?_⟩) (fun q => ⟨q.1, fun r => q.2 (r.2 i (by omega))⟩))
                by_cases e : k = i
                · rw [e]; exact q.2
                · exact hw1.2.2 k (by omega)
              · first
                | exact absurd c_138 (by decide)
                | exact absurd rfl c_138
                | exact Or.inr ⟨rfl, fun q => q.1 ⟨fun _ => sv_64e.mp c_130, fun _ => sv_64e.mp c_99⟩⟩
                | exact Or.inr ⟨rfl, fun q => q.1 ⟨fun r => absurd (sv_64e.mpr r) c_99, fun r => absurd (sv_64e.mpr r) c_130⟩⟩
                | exact Or.inl ⟨rfl, fun q => c_130 (sv_64e.mpr (q.mp (sv_64e.mp c_99))), fun k q1 q2 => absurd q2 (by omega)⟩
                | exact Or.inl ⟨rfl, fun q => c_99 (sv_64e.mpr (q.mpr (sv_64e.mp c_130))), fun k q1 q2 => absurd q2 (by omega)⟩
          · refine v_iconst (v := 1) dX13_isRight_133 (by decide) ?_
            refine v_goto (tgt := 138) dX13_isRight_134 (by decide) ?_
            refine v_icmp_eq (tgt := 145) dX13_isRight_138 (by decide) (fun c_138 => ?_) (fun c_138 => ?_)
            · refine v_iconst (v := 0) dX13_isRight_145 (by decide) ?_
              refine v_istore_n (L' := [(3, _), (5, _), (4, _), (2, _), (0, _), (1, _)]) dX13_isRight_146 rfl (Nat.le_of_ble_eq_true rfl) rfl ?_
              refine v_iload dX13_isRight_147 2 rfl ?_
              refine v_iconst (v := 2) dX13_isRight_149 (by decide) ?_
              refine v_iadd dX13_isRight_150 ?_
              refine v_istore (L' := [(6, _), (3, _), (5, _), (4, _), (2, _), (0, _), (1, _)]) dX13_isRight_151 (Nat.le_of_ble_eq_true rfl) rfl ?_
              rw [show nI i + 2 = nI (i + 2) from nI_add i 2]
              refine v_sub (L' := [(6, _), (4, _), (3, _), (2, _), (0, _), (1, _)]) [0, 3, 1, 4, 5, 6] rfl ?_
              have hw1 := hw.resolve_right (fun q => c_79 q.1)
              refine l_isRight1 G _ h z b p n fs gs gx gy X Y hlen hm f_size f_px f_py hgs hgx hgy hp64 hsn hn16 hX hY i (by omega) (fun w9 w6 hw9 => ?_) n (i + 2) _ (by omega) (by omega) (by omega) ?_
              · refine v_iinc (j := 1) (L' := [(4, _), (6, _), (3, _), (2, _), (0, _), (1, _)]) (v := nI (i + 1)) dX13_isRight_200 rfl (nI_1 _) (Nat.le_of_ble_eq_true rfl) rfl ?_
                refine v_goto (tgt := 72) dX13_isRight_203 (by decide) ?_
                refine v_sub (L' := [(4, _), (3, _), (2, _), (0, _), (1, _)]) [0, 2, 3, 4, 5] rfl ?_
                refine ih (i + 1) w9 (by omega) (hw9.imp (fun q => ⟨q.1, hw1.2.1, fun k hk => ?_⟩) (fun q => ⟨q.1, fun r => q.2 (r.2 i (by omega))⟩))
                by_cases e : k = i
                · rw [e]; exact q.2
                · exact hw1.2.2 k (by omega)
              · first
                | exact absurd c_138 (by decide)
                | exact absurd rfl c_138
                | exact Or.inr ⟨rfl, fun q => q.1 ⟨fun _ => sv_64e.mp c_130, fun _ => sv_64e.mp c_99⟩⟩
                | exact Or.inr ⟨rfl, fun q => q.1 ⟨fun r => absurd (sv_64e.mpr r) c_99, fun r => absurd (sv_64e.mpr r) c_130⟩⟩
                | exact Or.inl ⟨rfl, fun q => c_130 (sv_64e.mpr (q.mp (sv_64e.mp c_99))), fun k q1 q2 => absurd q2 (by omega)⟩
                | exact Or.inl ⟨rfl, fun q => c_99 (sv_64e.mpr (q.mpr (sv_64e.mp c_130))), fun k q1 q2 => absurd q2 (by omega)⟩
            · refine v_iconst (v := 1) dX13_isRight_141 (by decide) ?_
              refine v_goto (tgt := 146) dX13_isRight_142 (by decide) ?_
              refine v_istore_n (L' := [(3, _), (5, _), (4, _), (2, _), (0, _), (1, _)]) dX13_isRight_146 rfl (Nat.le_of_ble_eq_true rfl) rfl ?_
              refine v_iload dX13_isRight_147 2 rfl ?_
              refine v_iconst (v := 2) dX13_isRight_149 (by decide) ?_
              refine v_iadd dX13_isRight_150 ?_
              refine v_istore (L' := [(6, _), (3, _), (5, _), (4, _), (2, _), (0, _), (1, _)]) dX13_isRight_151 (Nat.le_of_ble_eq_true rfl) rfl ?_
              rw [show nI i + 2 = nI (i + 2) from nI_add i 2]
              refine v_sub (L' := [(6, _), (4, _), (3, _), (2, _), (0, _), (1, _)]) [0, 3, 1, 4, 5, 6] rfl ?_
              have hw1 := hw.resolve_right (fun q => c_79 q.1)
              refine l_isRight1 G _ h z b p n fs gs gx gy X Y hlen hm f_size f_px f_py hgs hgx hgy hp64 hsn hn16 hX hY i (by omega) (fun w9 w6 hw9 => ?_) n (i + 2) _ (by omega) (by omega) (by omega) ?_
              · refine v_iinc (j := 1) (L' := [(4, _), (6, _), (3, _), (2, _), (0, _), (1, _)]) (v := nI (i + 1)) dX13_isRight_200 rfl (nI_1 _) (Nat.le_of_ble_eq_true rfl) rfl ?_
                refine v_goto (tgt := 72) dX13_isRight_203 (by decide) ?_
                refine v_sub (L' := [(4, _), (3, _), (2, _), (0, _), (1, _)]) [0, 2, 3, 4, 5] rfl ?_
                refine ih (i + 1) w9 (by omega) (hw9.imp (fun q => ⟨q.1, hw1.2.1, fun k hk => ?_⟩) (fun q => ⟨q.1, fun r => q.2 (r.2 i (by omega))⟩))
                by_cases e : k = i
                · rw [e]; exact q.2
                · exact hw1.2.2 k (by omega)
              · first
                | exact absurd c_138 (by decide)
                | exact absurd rfl c_138
                | exact Or.inr ⟨rfl, fun q => q.1 ⟨fun _ => sv_64e.mp c_130, fun _ => sv_64e.mp c_99⟩⟩
                | exact Or.inr ⟨rfl, fun q => q.1 ⟨fun r => absurd (sv_64e.mpr r) c_99, fun r => absurd (sv_64e.mpr r) c_130⟩⟩
                | exact Or.inl ⟨rfl, fun q => c_130 (sv_64e.mpr (q.mp (sv_64e.mp c_99))), fun k q1 q2 => absurd q2 (by omega)⟩
                | exact Or.inl ⟨rfl, fun q => c_99 (sv_64e.mpr (q.mpr (sv_64e.mp c_130))), fun k q1 q2 => absurd q2 (by omega)⟩

set_option maxHeartbeats 4000000 in
set_option maxRecDepth 100000 in
theorem m_isRight (G : sv_G) (h : sv_h) (z b p n : Nat) (fs : List Value) (gs : Nat → Int32) (gx gy : Nat → Int64) (X Y : Nat → Int32) (hlen : fs.length = 71) (hm : h (b + 220) = some (.inr (11, fs))) (f_size : fs[7]? = some (.ref (b + 224))) (f_px : fs[8]? = some (.ref (b + 225))) (f_py : fs[9]? = some (.ref (b + 226))) (hgs : ab_I G h (b + 224) 64 gs) (hgx : ab_J G h (b + 225) 1024 gx) (hgy : ab_J G h (b + 226) 1024 gy) (hp64 : p < 64) (hsn : gs p = nI n) (hn16 : n ≤ 16) (hX : ∀ i, i < n → gx (16 * p + i) = (X i).toInt64) (hY : ∀ i, i < n → gy (16 * p + i) = (Y i).toInt64) : CT G mX13_isRight [.ref (b + 220), .int (nI p)] h z (fun v h1 z1 => (∃ w : Int32, v = some (.int w) ∧ ((w = 1 ∧ gm_mr n X Y) ∨ (w = 0 ∧ ¬ gm_mr n X Y))) ∧ h1 = h ∧ z1 = z) := by
  refine CT.of (by decide +kernel) rfl rfl (Nat.le_of_ble_eq_true rfl) ?_
  refine v_aload_n dX13_isRight_0 rfl 0 rfl ?_
  refine v_getf 7 (ci := 11) (C := RX13) (T := TX13) (N := 71) rfl iwX13_isRight_X13 (Nat.le_of_ble_eq_true rfl) (by decide +kernel) dX13_isRight_1 (by repeat (first | (with_reducible refine sv_us.trans ?_; exact rfl) | with_reducible assumption | with_reducible refine (sv_un (by omega)).trans ?_)) (by repeat (first | with_reducible assumption | (with_reducible refine (sv_ls (by first | omega | (simp only [List.length_set]; omega))).trans ?_; exact rfl) | with_reducible refine (List.getElem?_set_ne (by decide)).trans ?_)) ?_
  refine v_iload_n dX13_isRight_4 rfl 1 rfl ?_
  refine v_ialdS (v := nI n) dX13_isRight_5 (by repeat (first | (with_reducible refine sv_us.trans ?_; exact rfl) | with_reducible assumption | with_reducible refine (sv_un (by omega)).trans ?_)) (vp_in_nI hp64 (by omega)) (by rw [nI_clamp (by omega)]; exact hsn) ?_
  refine v_istore_n (L' := [(2, _), (0, _), (1, _)]) dX13_isRight_6 rfl (Nat.le_of_ble_eq_true rfl) rfl ?_
  refine v_iload_n dX13_isRight_7 rfl 0 rfl ?_
  refine v_iconst (v := 4) dX13_isRight_8 (by decide) ?_
  refine v_icmp_ge (tgt := 14) dX13_isRight_9 (by decide) (fun c_9 => ?_) (fun c_9 => ?_)
  · refine v_aload_n dX13_isRight_14 rfl 1 rfl ?_
    refine v_iload_n dX13_isRight_15 rfl 2 rfl ?_
    refine v_iload_n dX13_isRight_16 rfl 0 rfl ?_
    refine v_iconst (v := 1) dX13_isRight_17 (by decide) ?_
    refine v_isub dX13_isRight_18 ?_
    refine v_callVq (M' := mX13_cornerX) (n := 2) (As := [_, _]) (ci := 11) (r := (RX13, TX13, 71)) gX13_isRight_X13_cornerX rfl (by decide +kernel) ⟨(Nat.le_of_ble_eq_true rfl), (Nat.le_of_ble_eq_true rfl)⟩ rfl rfl dX13_isRight_19 rfl ⟨(Nat.le_of_ble_eq_true rfl), (Nat.le_of_ble_eq_true rfl)⟩ (Nat.le_of_ble_eq_true rfl) (by repeat (first | (with_reducible refine sv_us.trans ?_; exact rfl) | with_reducible assumption | with_reducible refine (sv_un (by omega)).trans ?_)) rfl ((by have h4 := ((nI_leI (a := 4) (by omega) (by omega)).mp c_9); have e := m_cornerX0 G h z b p n fs gs gx gy X Y hlen hm f_size f_px f_py hgs hgx hgy hp64 hsn hn16 hX hY (n - 1) (by omega); rw [← sv_prd (by omega)] at e; exact e)) (fun v h1 z1 hq => v_pq hq ?_)
    refine v_aload_n dX13_isRight_22 rfl 1 rfl ?_
    refine v_iload_n dX13_isRight_23 rfl 2 rfl ?_
    refine v_iconst (v := 0) dX13_isRight_24 (by decide) ?_
    refine v_callVq (M' := mX13_cornerX) (n := 2) (As := [_, _]) (ci := 11) (r := (RX13, TX13, 71)) gX13_isRight_X13_cornerX rfl (by decide +kernel) ⟨(Nat.le_of_ble_eq_true rfl), (Nat.le_of_ble_eq_true rfl)⟩ rfl rfl dX13_isRight_25 rfl ⟨(Nat.le_of_ble_eq_true rfl), (Nat.le_of_ble_eq_true rfl)⟩ (Nat.le_of_ble_eq_true rfl) (by repeat (first | (with_reducible refine sv_us.trans ?_; exact rfl) | with_reducible assumption | with_reducible refine (sv_un (by omega)).trans ?_)) rfl (m_cornerX0 G _ _ b p n fs gs gx gy X Y hlen hm f_size f_px f_py hgs hgx hgy hp64 hsn hn16 hX hY 0 (by have h4 := ((nI_leI (a := 4) (by omega) (by omega)).mp c_9); omega)) (fun v h1 z1 hq => v_pq hq ?_)
    refine v_lcmp_ne (tgt := 36) dX13_isRight_28 dX13_isRight_29 (by decide) (fun c_29 => ?_) (fun c_29 => ?_)
    · refine v_iconst (v := 0) dX13_isRight_36 (by decide) ?_
      refine v_aload_n dX13_isRight_37 rfl 1 rfl ?_
      refine v_iload_n dX13_isRight_38 rfl 2 rfl ?_
      refine v_iload_n dX13_isRight_39 rfl 0 rfl ?_
      refine v_iconst (v := 1) dX13_isRight_40 (by decide) ?_
      refine v_isub dX13_isRight_41 ?_
      refine v_callVq (M' := mX13_cornerY) (n := 2) (As := [_, _]) (ci := 11) (r := (RX13, TX13, 71)) gX13_isRight_X13_cornerY rfl (by decide +kernel) ⟨(Nat.le_of_ble_eq_true rfl), (Nat.le_of_ble_eq_true rfl)⟩ rfl rfl dX13_isRight_42 rfl ⟨(Nat.le_of_ble_eq_true rfl), (Nat.le_of_ble_eq_true rfl)⟩ (Nat.le_of_ble_eq_true rfl) (by repeat (first | (with_reducible refine sv_us.trans ?_; exact rfl) | with_reducible assumption | with_reducible refine (sv_un (by omega)).trans ?_)) rfl ((by have h4 := ((nI_leI (a := 4) (by omega) (by omega)).mp c_9); have e := m_cornerY0 G h z b p n fs gs gx gy X Y hlen hm f_size f_px f_py hgs hgx hgy hp64 hsn hn16 hX hY (n - 1) (by omega); rw [← sv_prd (by omega)] at e; exact e)) (fun v h1 z1 hq => v_pq hq ?_)
      refine v_aload_n dX13_isRight_45 rfl 1 rfl ?_
      refine v_iload_n dX13_isRight_46 rfl 2 rfl ?_
      refine v_iconst (v := 0) dX13_isRight_47 (by decide) ?_
      refine v_callVq (M' := mX13_cornerY) (n := 2) (As := [_, _]) (ci := 11) (r := (RX13, TX13, 71)) gX13_isRight_X13_cornerY rfl (by decide +kernel) ⟨(Nat.le_of_ble_eq_true rfl), (Nat.le_of_ble_eq_true rfl)⟩ rfl rfl dX13_isRight_48 rfl ⟨(Nat.le_of_ble_eq_true rfl), (Nat.le_of_ble_eq_true rfl)⟩ (Nat.le_of_ble_eq_true rfl) (by repeat (first | (with_reducible refine sv_us.trans ?_; exact rfl) | with_reducible assumption | with_reducible refine (sv_un (by omega)).trans ?_)) rfl (m_cornerY0 G _ _ b p n fs gs gx gy X Y hlen hm f_size f_px f_py hgs hgx hgy hp64 hsn hn16 hX hY 0 (by have h4 := ((nI_leI (a := 4) (by omega) (by omega)).mp c_9); omega)) (fun v h1 z1 hq => v_pq hq ?_)
      refine v_lcmp_ne (tgt := 59) dX13_isRight_51 dX13_isRight_52 (by decide) (fun c_52 => ?_) (fun c_52 => ?_)
      · refine v_iconst (v := 0) dX13_isRight_59 (by decide) ?_
        refine v_icmp_eq (tgt := 67) dX13_isRight_60 (by decide) (fun c_60 => ?_) (fun c_60 => ?_)
        · refine v_iconst (v := 0) dX13_isRight_67 (by decide) ?_
          refine v_istore_n (L' := [(3, _), (2, _), (0, _), (1, _)]) dX13_isRight_68 rfl (Nat.le_of_ble_eq_true rfl) rfl ?_
          refine v_iconst (v := 0) dX13_isRight_69 (by decide) ?_
          refine v_istore (L' := [(4, _), (3, _), (2, _), (0, _), (1, _)]) dX13_isRight_70 (Nat.le_of_ble_eq_true rfl) rfl ?_
          refine v_sub (L' := [(4, _), (3, _), (2, _), (0, _), (1, _)]) [0, 1, 2, 3, 4] rfl ?_
          refine l_isRight2 G h z b p n fs gs gx gy X Y hlen hm f_size f_px f_py hgs hgx hgy hp64 hsn hn16 hX hY ((nI_leI (a := 4) (by omega) (by omega)).mp c_9) n 0 _ (by omega) ?_
          first
          | exact absurd c_60 (by decide)
          | exact absurd rfl c_60
          | exact Or.inr ⟨rfl, fun q => q.1.2 ⟨fun _ => (sv_64e.mp c_52).symm, fun _ => (sv_64e.mp c_29).symm⟩⟩
          | exact Or.inr ⟨rfl, fun q => q.1.2 ⟨fun r => absurd (sv_64e.mpr r.symm) c_29, fun r => absurd (sv_64e.mpr r.symm) c_52⟩⟩
          | exact Or.inl ⟨rfl, ⟨((nI_leI (a := 4) (by omega) (by omega)).mp c_9), fun q => c_52 (sv_64e.mpr (q.mp (sv_64e.mp c_29).symm).symm)⟩, fun k hk => absurd hk (Nat.not_lt_zero k)⟩
          | exact Or.inl ⟨rfl, ⟨((nI_leI (a := 4) (by omega) (by omega)).mp c_9), fun q => c_29 (sv_64e.mpr (q.mpr (sv_64e.mp c_52).symm).symm)⟩, fun k hk => absurd hk (Nat.not_lt_zero k)⟩
        · refine v_iconst (v := 1) dX13_isRight_63 (by decide) ?_
          refine v_goto (tgt := 68) dX13_isRight_64 (by decide) ?_
          refine v_istore_n (L' := [(3, _), (2, _), (0, _), (1, _)]) dX13_isRight_68 rfl (Nat.le_of_ble_eq_true rfl) rfl ?_
          refine v_iconst (v := 0) dX13_isRight_69 (by decide) ?_
          refine v_istore (L' := [(4, _), (3, _), (2, _), (0, _), (1, _)]) dX13_isRight_70 (Nat.le_of_ble_eq_true rfl) rfl ?_
          refine v_sub (L' := [(4, _), (3, _), (2, _), (0, _), (1, _)]) [0, 1, 2, 3, 4] rfl ?_
          refine l_isRight2 G h z b p n fs gs gx gy X Y hlen hm f_size f_px f_py hgs hgx hgy hp64 hsn hn16 hX hY ((nI_leI (a := 4) (by omega) (by omega)).mp c_9) n 0 _ (by omega) ?_
          first
          | exact absurd c_60 (by decide)
          | exact absurd rfl c_60
          | exact Or.inr ⟨rfl, fun q => q.1.2 ⟨fun _ => (sv_64e.mp c_52).symm, fun _ => (sv_64e.mp c_29).symm⟩⟩
          | exact Or.inr ⟨rfl, fun q => q.1.2 ⟨fun r => absurd (sv_64e.mpr r.symm) c_29, fun r => absurd (sv_64e.mpr r.symm) c_52⟩⟩
          | exact Or.inl ⟨rfl, ⟨((nI_leI (a := 4) (by omega) (by omega)).mp c_9), fun q => c_52 (sv_64e.mpr (q.mp (sv_64e.mp c_29).symm).symm)⟩, fun k hk => absurd hk (Nat.not_lt_zero k)⟩
          | exact Or.inl ⟨rfl, ⟨((nI_leI (a := 4) (by omega) (by omega)).mp c_9), fun q => c_29 (sv_64e.mpr (q.mpr (sv_64e.mp c_52).symm).symm)⟩, fun k hk => absurd hk (Nat.not_lt_zero k)⟩
      · refine v_iconst (v := 1) dX13_isRight_55 (by decide) ?_
        refine v_goto (tgt := 60) dX13_isRight_56 (by decide) ?_
        refine v_icmp_eq (tgt := 67) dX13_isRight_60 (by decide) (fun c_60 => ?_) (fun c_60 => ?_)
        · refine v_iconst (v := 0) dX13_isRight_67 (by decide) ?_
          refine v_istore_n (L' := [(3, _), (2, _), (0, _), (1, _)]) dX13_isRight_68 rfl (Nat.le_of_ble_eq_true rfl) rfl ?_
          refine v_iconst (v := 0) dX13_isRight_69 (by decide) ?_
          refine v_istore (L' := [(4, _), (3, _), (2, _), (0, _), (1, _)]) dX13_isRight_70 (Nat.le_of_ble_eq_true rfl) rfl ?_
          refine v_sub (L' := [(4, _), (3, _), (2, _), (0, _), (1, _)]) [0, 1, 2, 3, 4] rfl ?_
          refine l_isRight2 G h z b p n fs gs gx gy X Y hlen hm f_size f_px f_py hgs hgx hgy hp64 hsn hn16 hX hY ((nI_leI (a := 4) (by omega) (by omega)).mp c_9) n 0 _ (by omega) ?_
          first
          | exact absurd c_60 (by decide)
          | exact absurd rfl c_60
          | exact Or.inr ⟨rfl, fun q => q.1.2 ⟨fun _ => (sv_64e.mp c_52).symm, fun _ => (sv_64e.mp c_29).symm⟩⟩
          | exact Or.inr ⟨rfl, fun q => q.1.2 ⟨fun r => absurd (sv_64e.mpr r.symm) c_29, fun r => absurd (sv_64e.mpr r.symm) c_52⟩⟩
          | exact Or.inl ⟨rfl, ⟨((nI_leI (a := 4) (by omega) (by omega)).mp c_9), fun q => c_52 (sv_64e.mpr (q.mp (sv_64e.mp c_29).symm).symm)⟩, fun k hk => absurd hk (Nat.not_lt_zero k)⟩
          | exact Or.inl ⟨rfl, ⟨((nI_leI (a := 4) (by omega) (by omega)).mp c_9), fun q => c_29 (sv_64e.mpr (q.mpr (sv_64e.mp c_52).symm).symm)⟩, fun k hk => absurd hk (Nat.not_lt_zero k)⟩
        · refine v_iconst (v := 1) dX13_isRight_63 (by decide) ?_
          refine v_goto (tgt := 68) dX13_isRight_64 (by decide) ?_
          refine v_istore_n (L' := [(3, _), (2, _), (0, _), (1, _)]) dX13_isRight_68 rfl (Nat.le_of_ble_eq_true rfl) rfl ?_
          refine v_iconst (v := 0) dX13_isRight_69 (by decide) ?_
          refine v_istore (L' := [(4, _), (3, _), (2, _), (0, _), (1, _)]) dX13_isRight_70 (Nat.le_of_ble_eq_true rfl) rfl ?_
          refine v_sub (L' := [(4, _), (3, _), (2, _), (0, _), (1, _)]) [0, 1, 2, 3, 4] rfl ?_
          refine l_isRight2 G h z b p n fs gs gx gy X Y hlen hm f_size f_px f_py hgs hgx hgy hp64 hsn hn16 hX hY ((nI_leI (a := 4) (by omega) (by omega)).mp c_9) n 0 _ (by omega) ?_
          first
          | exact absurd c_60 (by decide)
          | exact absurd rfl c_60
          | exact Or.inr ⟨rfl, fun q => q.1.2 ⟨fun _ => (sv_64e.mp c_52).symm, fun _ => (sv_64e.mp c_29).symm⟩⟩
          | exact Or.inr ⟨rfl, fun q => q.1.2 ⟨fun r => absurd (sv_64e.mpr r.symm) c_29, fun r => absurd (sv_64e.mpr r.symm) c_52⟩⟩
          | exact Or.inl ⟨rfl, ⟨((nI_leI (a := 4) (by omega) (by omega)).mp c_9), fun q => c_52 (sv_64e.mpr (q.mp (sv_64e.mp c_29).symm).symm)⟩, fun k hk => absurd hk (Nat.not_lt_zero k)⟩
          | exact Or.inl ⟨rfl, ⟨((nI_leI (a := 4) (by omega) (by omega)).mp c_9), fun q => c_29 (sv_64e.mpr (q.mpr (sv_64e.mp c_52).symm).symm)⟩, fun k hk => absurd hk (Nat.not_lt_zero k)⟩
    · refine v_iconst (v := 1) dX13_isRight_32 (by decide) ?_
      refine v_goto (tgt := 37) dX13_isRight_33 (by decide) ?_
      refine v_aload_n dX13_isRight_37 rfl 1 rfl ?_
      refine v_iload_n dX13_isRight_38 rfl 2 rfl ?_
      refine v_iload_n dX13_isRight_39 rfl 0 rfl ?_
      refine v_iconst (v := 1) dX13_isRight_40 (by decide) ?_
      refine v_isub dX13_isRight_41 ?_
      refine v_callVq (M' := mX13_cornerY) (n := 2) (As := [_, _]) (ci := 11) (r := (RX13, TX13, 71)) gX13_isRight_X13_cornerY rfl (by decide +kernel) ⟨(Nat.le_of_ble_eq_true rfl), (Nat.le_of_ble_eq_true rfl)⟩ rfl rfl dX13_isRight_42 rfl ⟨(Nat.le_of_ble_eq_true rfl), (Nat.le_of_ble_eq_true rfl)⟩ (Nat.le_of_ble_eq_true rfl) (by repeat (first | (with_reducible refine sv_us.trans ?_; exact rfl) | with_reducible assumption | with_reducible refine (sv_un (by omega)).trans ?_)) rfl ((by have h4 := ((nI_leI (a := 4) (by omega) (by omega)).mp c_9); have e := m_cornerY0 G h z b p n fs gs gx gy X Y hlen hm f_size f_px f_py hgs hgx hgy hp64 hsn hn16 hX hY (n - 1) (by omega); rw [← sv_prd (by omega)] at e; exact e)) (fun v h1 z1 hq => v_pq hq ?_)
      refine v_aload_n dX13_isRight_45 rfl 1 rfl ?_
      refine v_iload_n dX13_isRight_46 rfl 2 rfl ?_
      refine v_iconst (v := 0) dX13_isRight_47 (by decide) ?_
      refine v_callVq (M' := mX13_cornerY) (n := 2) (As := [_, _]) (ci := 11) (r := (RX13, TX13, 71)) gX13_isRight_X13_cornerY rfl (by decide +kernel) ⟨(Nat.le_of_ble_eq_true rfl), (Nat.le_of_ble_eq_true rfl)⟩ rfl rfl dX13_isRight_48 rfl ⟨(Nat.le_of_ble_eq_true rfl), (Nat.le_of_ble_eq_true rfl)⟩ (Nat.le_of_ble_eq_true rfl) (by repeat (first | (with_reducible refine sv_us.trans ?_; exact rfl) | with_reducible assumption | with_reducible refine (sv_un (by omega)).trans ?_)) rfl (m_cornerY0 G _ _ b p n fs gs gx gy X Y hlen hm f_size f_px f_py hgs hgx hgy hp64 hsn hn16 hX hY 0 (by have h4 := ((nI_leI (a := 4) (by omega) (by omega)).mp c_9); omega)) (fun v h1 z1 hq => v_pq hq ?_)
      refine v_lcmp_ne (tgt := 59) dX13_isRight_51 dX13_isRight_52 (by decide) (fun c_52 => ?_) (fun c_52 => ?_)
      · refine v_iconst (v := 0) dX13_isRight_59 (by decide) ?_
        refine v_icmp_eq (tgt := 67) dX13_isRight_60 (by decide) (fun c_60 => ?_) (fun c_60 => ?_)
        · refine v_iconst (v := 0) dX13_isRight_67 (by decide) ?_
          refine v_istore_n (L' := [(3, _), (2, _), (0, _), (1, _)]) dX13_isRight_68 rfl (Nat.le_of_ble_eq_true rfl) rfl ?_
          refine v_iconst (v := 0) dX13_isRight_69 (by decide) ?_
          refine v_istore (L' := [(4, _), (3, _), (2, _), (0, _), (1, _)]) dX13_isRight_70 (Nat.le_of_ble_eq_true rfl) rfl ?_
          refine v_sub (L' := [(4, _), (3, _), (2, _), (0, _), (1, _)]) [0, 1, 2, 3, 4] rfl ?_
          refine l_isRight2 G h z b p n fs gs gx gy X Y hlen hm f_size f_px f_py hgs hgx hgy hp64 hsn hn16 hX hY ((nI_leI (a := 4) (by omega) (by omega)).mp c_9) n 0 _ (by omega) ?_
          first
          | exact absurd c_60 (by decide)
          | exact absurd rfl c_60
          | exact Or.inr ⟨rfl, fun q => q.1.2 ⟨fun _ => (sv_64e.mp c_52).symm, fun _ => (sv_64e.mp c_29).symm⟩⟩
          | exact Or.inr ⟨rfl, fun q => q.1.2 ⟨fun r => absurd (sv_64e.mpr r.symm) c_29, fun r => absurd (sv_64e.mpr r.symm) c_52⟩⟩
          | exact Or.inl ⟨rfl, ⟨((nI_leI (a := 4) (by omega) (by omega)).mp c_9), fun q => c_52 (sv_64e.mpr (q.mp (sv_64e.mp c_29).symm).symm)⟩, fun k hk => absurd hk (Nat.not_lt_zero k)⟩
          | exact Or.inl ⟨rfl, ⟨((nI_leI (a := 4) (by omega) (by omega)).mp c_9), fun q => c_29 (sv_64e.mpr (q.mpr (sv_64e.mp c_52).symm).symm)⟩, fun k hk => absurd hk (Nat.not_lt_zero k)⟩
        · refine v_iconst (v := 1) dX13_isRight_63 (by decide) ?_
          refine v_goto (tgt := 68) dX13_isRight_64 (by decide) ?_
          refine v_istore_n (L' := [(3, _), (2, _), (0, _), (1, _)]) dX13_isRight_68 rfl (Nat.le_of_ble_eq_true rfl) rfl ?_
          refine v_iconst (v := 0) dX13_isRight_69 (by decide) ?_
          refine v_istore (L' := [(4, _), (3, _), (2, _), (0, _), (1, _)]) dX13_isRight_70 (Nat.le_of_ble_eq_true rfl) rfl ?_
          refine v_sub (L' := [(4, _), (3, _), (2, _), (0, _), (1, _)]) [0, 1, 2, 3, 4] rfl ?_
          refine l_isRight2 G h z b p n fs gs gx gy X Y hlen hm f_size f_px f_py hgs hgx hgy hp64 hsn hn16 hX hY ((nI_leI (a := 4) (by omega) (by omega)).mp c_9) n 0 _ (by omega) ?_
          first
          | exact absurd c_60 (by decide)
          | exact absurd rfl c_60
          | exact Or.inr ⟨rfl, fun q => q.1.2 ⟨fun _ => (sv_64e.mp c_52).symm, fun _ => (sv_64e.mp c_29).symm⟩⟩
          | exact Or.inr ⟨rfl, fun q => q.1.2 ⟨fun r => absurd (sv_64e.mpr r.symm) c_29, fun r => absurd (sv_64e.mpr r.symm) c_52⟩⟩
          | exact Or.inl ⟨rfl, ⟨((nI_leI (a := 4) (by omega) (by omega)).mp c_9), fun q => c_52 (sv_64e.mpr (q.mp (sv_64e.mp c_29).symm).symm)⟩, fun k hk => absurd hk (Nat.not_lt_zero k)⟩
          | exact Or.inl ⟨rfl, ⟨((nI_leI (a := 4) (by omega) (by omega)).mp c_9), fun q => c_29 (sv_64e.mpr (q.mpr (sv_64e.mp c_52).symm).symm)⟩, fun k hk => absurd hk (Nat.not_lt_zero k)⟩
      · refine v_iconst (v := 1) dX13_isRight_55 (by decide) ?_
        refine v_goto (tgt := 60) dX13_isRight_56 (by decide) ?_
        refine v_icmp_eq (tgt := 67) dX13_isRight_60 (by decide) (fun c_60 => ?_) (fun c_60 => ?_)
        · refine v_iconst (v := 0) dX13_isRight_67 (by decide) ?_
          refine v_istore_n (L' := [(3, _), (2, _), (0, _), (1, _)]) dX13_isRight_68 rfl (Nat.le_of_ble_eq_true rfl) rfl ?_
          refine v_iconst (v := 0) dX13_isRight_69 (by decide) ?_
          refine v_istore (L' := [(4, _), (3, _), (2, _), (0, _), (1, _)]) dX13_isRight_70 (Nat.le_of_ble_eq_true rfl) rfl ?_
          refine v_sub (L' := [(4, _), (3, _), (2, _), (0, _), (1, _)]) [0, 1, 2, 3, 4] rfl ?_
          refine l_isRight2 G h z b p n fs gs gx gy X Y hlen hm f_size f_px f_py hgs hgx hgy hp64 hsn hn16 hX hY ((nI_leI (a := 4) (by omega) (by omega)).mp c_9) n 0 _ (by omega) ?_
          first
          | exact absurd c_60 (by decide)
          | exact absurd rfl c_60
          | exact Or.inr ⟨rfl, fun q => q.1.2 ⟨fun _ => (sv_64e.mp c_52).symm, fun _ => (sv_64e.mp c_29).symm⟩⟩
          | exact Or.inr ⟨rfl, fun q => q.1.2 ⟨fun r => absurd (sv_64e.mpr r.symm) c_29, fun r => absurd (sv_64e.mpr r.symm) c_52⟩⟩
          | exact Or.inl ⟨rfl, ⟨((nI_leI (a := 4) (by omega) (by omega)).mp c_9), fun q => c_52 (sv_64e.mpr (q.mp (sv_64e.mp c_29).symm).symm)⟩, fun k hk => absurd hk (Nat.not_lt_zero k)⟩
          | exact Or.inl ⟨rfl, ⟨((nI_leI (a := 4) (by omega) (by omega)).mp c_9), fun q => c_29 (sv_64e.mpr (q.mpr (sv_64e.mp c_52).symm).symm)⟩, fun k hk => absurd hk (Nat.not_lt_zero k)⟩
        · refine v_iconst (v := 1) dX13_isRight_63 (by decide) ?_
          refine v_goto (tgt := 68) dX13_isRight_64 (by decide) ?_
          refine v_istore_n (L' := [(3, _), (2, _), (0, _), (1, _)]) dX13_isRight_68 rfl (Nat.le_of_ble_eq_true rfl) rfl ?_
          refine v_iconst (v := 0) dX13_isRight_69 (by decide) ?_
          refine v_istore (L' := [(4, _), (3, _), (2, _), (0, _), (1, _)]) dX13_isRight_70 (Nat.le_of_ble_eq_true rfl) rfl ?_
          refine v_sub (L' := [(4, _), (3, _), (2, _), (0, _), (1, _)]) [0, 1, 2, 3, 4] rfl ?_
          refine l_isRight2 G h z b p n fs gs gx gy X Y hlen hm f_size f_px f_py hgs hgx hgy hp64 hsn hn16 hX hY ((nI_leI (a := 4) (by omega) (by omega)).mp c_9) n 0 _ (by omega) ?_
          first
          | exact absurd c_60 (by decide)
          | exact absurd rfl c_60
          | exact Or.inr ⟨rfl, fun q => q.1.2 ⟨fun _ => (sv_64e.mp c_52).symm, fun _ => (sv_64e.mp c_29).symm⟩⟩
          | exact Or.inr ⟨rfl, fun q => q.1.2 ⟨fun r => absurd (sv_64e.mpr r.symm) c_29, fun r => absurd (sv_64e.mpr r.symm) c_52⟩⟩
          | exact Or.inl ⟨rfl, ⟨((nI_leI (a := 4) (by omega) (by omega)).mp c_9), fun q => c_52 (sv_64e.mpr (q.mp (sv_64e.mp c_29).symm).symm)⟩, fun k hk => absurd hk (Nat.not_lt_zero k)⟩
          | exact Or.inl ⟨rfl, ⟨((nI_leI (a := 4) (by omega) (by omega)).mp c_9), fun q => c_29 (sv_64e.mpr (q.mpr (sv_64e.mp c_52).symm).symm)⟩, fun k hk => absurd hk (Nat.not_lt_zero k)⟩
  · refine v_iconst (v := 0) dX13_isRight_12 (by decide) ?_
    exact v_iret rfl dX13_isRight_13 (Nat.le_of_ble_eq_true rfl) (Nat.le_of_ble_eq_true rfl) rfl ⟨⟨0, rfl, Or.inr ⟨rfl, fun q => absurd q.1.1 (by have q9 : n < 4 := (nI_ltI (b := 4) (by omega) (by omega)).mp (Int32.not_le.mp c_9); omega)⟩⟩, rfl, rfl⟩

