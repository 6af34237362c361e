set_option maxHeartbeats 4000000 in
set_option maxRecDepth 100000 in
theorem law_unit (G : sv_G) (P : sv_P) (b m o q : Nat) (I I1 : sv_h → Nat → Prop) (hL : G.2.2.2.2.2.1 ≤ 4609) (hq0 : q + 9 ≤ G.2.2.2.2.2.1) (hIn : sv_In G b m o I) (H : OpD G mX12_unit mX13_unit b m [.int (G.2.2.2.2.2.2 (nI q + 1).toNatClampNeg)] I I1) (h : sv_h) (z ce sl : Nat) (hce : ce + 6 ≤ 600002) (hsl : sl + 100 ≤ 7302198) (hend : ∀ (h : sv_h) (z : Nat), I1 h z → V G mL_law P 1428 [(4, .int (nI q)), (3, .ref o), (2, .ref m), (1, .ref b), (0, .ref (G.2.2.2.2.1 100))] [] h z (ce + 6) (sl + 100)) (hi : I h z) : V G mL_law P 128 [(4, .int (nI q)), (3, .ref o), (2, .ref m), (1, .ref b), (0, .ref (G.2.2.2.2.1 100))] [] h z ce sl := by
  obtain ⟨⟨fsb, hb⟩, ⟨fsm, hm⟩, ⟨f0, ho⟩⟩ := hIn h z hi
  obtain ⟨Q1, ct, hR⟩ := H h z hi
  refine v_aload_n dL_law_128 rfl 3 rfl ?_
  refine v_aload_n dL_law_129 rfl 4 rfl ?_
  refine v_iload dL_law_130 0 rfl ?_
  refine v_iconst (v := 1) dL_law_132 (by decide) ?_
  refine v_iadd dL_law_133 ?_
  refine v_sld dL_law_134 (sv_sin (a := q) (c := 1) (by omega) (by omega)) ?_
  refine v_callV (M' := mX12_unit) (n := 1) (As := [_]) (ci := 10) (r := (RX12, TX12, 13)) gc_78 rfl (by decide +kernel) ⟨(Nat.le_of_ble_eq_true rfl), (Nat.le_of_ble_eq_true rfl)⟩ rfl rfl dL_law_135 rfl ⟨by show ce + 0 ≤ 600002; omega, by show sl + 0 ≤ 7302198; omega⟩ (Nat.le_of_ble_eq_true rfl) hb rfl ct (fun v h1 z1 hq => ?_)
  obtain ⟨w, rfl, ⟨fsm1, hm1⟩, Q2, ct2, hQ2⟩ := hR _ _ _ hq
  refine v_aload_n dL_law_138 rfl 2 rfl ?_
  refine v_aload_n dL_law_139 rfl 4 rfl ?_
  refine v_iload dL_law_140 0 rfl ?_
  refine v_iconst (v := 1) dL_law_142 (by decide) ?_
  refine v_iadd dL_law_143 ?_
  refine v_sld dL_law_144 (sv_sin (a := q) (c := 1) (by omega) (by omega)) ?_
  refine v_callV (M' := mX13_unit) (n := 1) (As := [_]) (ci := 11) (r := (RX13, TX13, 71)) gc_81 rfl (by decide +kernel) ⟨(Nat.le_of_ble_eq_true rfl), (Nat.le_of_ble_eq_true rfl)⟩ rfl rfl dL_law_145 rfl ⟨by show ce + 0 + 0 ≤ 600002; omega, by show sl + 0 + 0 ≤ 7302198; omega⟩ (Nat.le_of_ble_eq_true rfl) hm1 rfl ct2 (fun v2 h2 z2 hq2 => ?_)
  obtain ⟨rfl, hi2⟩ := hQ2 _ _ _ hq2
  refine v_icmp_eq (tgt := 1428) dL_law_148 (by decide) (fun c_148 => ?_) (fun c_148 => ?_)
  · refine v_sub (L' := [(4, _), (3, _), (2, _), (1, _), (0, _)]) [0, 1, 2, 3, 4] rfl ?_
    refine v_widen (ce' := ce + 6) (sl' := sl + 100) (by show ce + 0 + 0 ≤ ce + 6; omega) (by show sl + 0 + 0 ≤ sl + 100; omega) ?_
    exact hend _ _ hi2
  · exact absurd rfl c_148

set_option maxHeartbeats 4000000 in
set_option maxRecDepth 100000 in
theorem law_units (G : sv_G) (P : sv_P) (b m o q : Nat) (I I1 : sv_h → Nat → Prop) (hL : G.2.2.2.2.2.1 ≤ 4609) (hq0 : q + 9 ≤ G.2.2.2.2.2.1) (hIn : sv_In G b m o I) (H : OpD G mX12_units mX13_units b m [.int (G.2.2.2.2.2.2 (nI q + 1).toNatClampNeg)] I I1) (h : sv_h) (z ce sl : Nat) (hce : ce + 6 ≤ 600002) (hsl : sl + 100 ≤ 7302198) (hend : ∀ (h : sv_h) (z : Nat), I1 h z → V G mL_law P 1428 [(4, .int (nI q)), (3, .ref o), (2, .ref m), (1, .ref b), (0, .ref (G.2.2.2.2.1 100))] [] h z (ce + 6) (sl + 100)) (hi : I h z) : V G mL_law P 153 [(4, .int (nI q)), (3, .ref o), (2, .ref m), (1, .ref b), (0, .ref (G.2.2.2.2.1 100))] [] h z ce sl := by
  obtain ⟨⟨fsb, hb⟩, ⟨fsm, hm⟩, ⟨f0, ho⟩⟩ := hIn h z hi
  obtain ⟨Q1, ct, hR⟩ := H h z hi
  refine v_aload_n dL_law_153 rfl 3 rfl ?_
  refine v_aload_n dL_law_154 rfl 4 rfl ?_
  refine v_iload dL_law_155 0 rfl ?_
  refine v_iconst (v := 1) dL_law_157 (by decide) ?_
  refine v_iadd dL_law_158 ?_
  refine v_sld dL_law_159 (sv_sin (a := q) (c := 1) (by omega) (by omega)) ?_
  refine v_callV (M' := mX12_units) (n := 1) (As := [_]) (ci := 10) (r := (RX12, TX12, 13)) gc_82 rfl (by decide +kernel) ⟨(Nat.le_of_ble_eq_true rfl), (Nat.le_of_ble_eq_true rfl)⟩ rfl rfl dL_law_160 rfl ⟨by show ce + 0 ≤ 600002; omega, by show sl + 0 ≤ 7302198; omega⟩ (Nat.le_of_ble_eq_true rfl) hb rfl ct (fun v h1 z1 hq => ?_)
  obtain ⟨w, rfl, ⟨fsm1, hm1⟩, Q2, ct2, hQ2⟩ := hR _ _ _ hq
  refine v_aload_n dL_law_163 rfl 2 rfl ?_
  refine v_aload_n dL_law_164 rfl 4 rfl ?_
  refine v_iload dL_law_165 0 rfl ?_
  refine v_iconst (v := 1) dL_law_167 (by decide) ?_
  refine v_iadd dL_law_168 ?_
  refine v_sld dL_law_169 (sv_sin (a := q) (c := 1) (by omega) (by omega)) ?_
  refine v_callV (M' := mX13_units) (n := 1) (As := [_]) (ci := 11) (r := (RX13, TX13, 71)) gc_85 rfl (by decide +kernel) ⟨(Nat.le_of_ble_eq_true rfl), (Nat.le_of_ble_eq_true rfl)⟩ rfl rfl dL_law_170 rfl ⟨by show ce + 0 + 0 ≤ 600002; omega, by show sl + 0 + 0 ≤ 7302198; omega⟩ (Nat.le_of_ble_eq_true rfl) hm1 rfl ct2 (fun v2 h2 z2 hq2 => ?_)
  obtain ⟨rfl, hi2⟩ := hQ2 _ _ _ hq2
  refine v_icmp_eq (tgt := 1428) dL_law_173 (by decide) (fun c_173 => ?_) (fun c_173 => ?_)
  · refine v_sub (L' := [(4, _), (3, _), (2, _), (1, _), (0, _)]) [0, 1, 2, 3, 4] rfl ?_
    refine v_widen (ce' := ce + 6) (sl' := sl + 100) (by show ce + 0 + 0 ≤ ce + 6; omega) (by show sl + 0 + 0 ≤ sl + 100; omega) ?_
    exact hend _ _ hi2
  · exact absurd rfl c_173

set_option maxHeartbeats 4000000 in
set_option maxRecDepth 100000 in
theorem law_read (G : sv_G) (P : sv_P) (b m o q : Nat) (I I1 : sv_h → Nat → Prop) (hL : G.2.2.2.2.2.1 ≤ 4609) (hq0 : q + 9 ≤ G.2.2.2.2.2.1) (hIn : sv_In G b m o I) (H : OpD G mX12_read mX13_read b m [] I I1) (h : sv_h) (z ce sl : Nat) (hce : ce + 6 ≤ 600002) (hsl : sl + 100 ≤ 7302198) (hend : ∀ (h : sv_h) (z : Nat), I1 h z → V G mL_law P 1428 [(4, .int (nI q)), (3, .ref o), (2, .ref m), (1, .ref b), (0, .ref (G.2.2.2.2.1 100))] [] h z (ce + 6) (sl + 100)) (hi : I h z) : V G mL_law P 178 [(4, .int (nI q)), (3, .ref o), (2, .ref m), (1, .ref b), (0, .ref (G.2.2.2.2.1 100))] [] h z ce sl := by
  obtain ⟨⟨fsb, hb⟩, ⟨fsm, hm⟩, ⟨f0, ho⟩⟩ := hIn h z hi
  obtain ⟨Q1, ct, hR⟩ := H h z hi
  refine v_aload_n dL_law_178 rfl 3 rfl ?_
  refine v_callV (M' := mX12_read) (n := 0) (As := []) (ci := 10) (r := (RX12, TX12, 13)) gc_86 rfl (by decide +kernel) ⟨(Nat.le_of_ble_eq_true rfl), (Nat.le_of_ble_eq_true rfl)⟩ rfl rfl dL_law_179 rfl ⟨by show ce + 0 ≤ 600002; omega, by show sl + 0 ≤ 7302198; omega⟩ (Nat.le_of_ble_eq_true rfl) hb rfl ct (fun v h1 z1 hq => ?_)
  obtain ⟨w, rfl, ⟨fsm1, hm1⟩, Q2, ct2, hQ2⟩ := hR _ _ _ hq
  refine v_aload_n dL_law_182 rfl 2 rfl ?_
  refine v_callV (M' := mX13_read) (n := 0) (As := []) (ci := 11) (r := (RX13, TX13, 71)) gc_89 rfl (by decide +kernel) ⟨(Nat.le_of_ble_eq_true rfl), (Nat.le_of_ble_eq_true rfl)⟩ rfl rfl dL_law_183 rfl ⟨by show ce + 0 + 0 ≤ 600002; omega, by show sl + 0 + 0 ≤ 7302198; omega⟩ (Nat.le_of_ble_eq_true rfl) hm1 rfl ct2 (fun v2 h2 z2 hq2 => ?_)
  obtain ⟨rfl, hi2⟩ := hQ2 _ _ _ hq2
  refine v_icmp_eq (tgt := 1428) dL_law_186 (by decide) (fun c_186 => ?_) (fun c_186 => ?_)
  · refine v_sub (L' := [(4, _), (3, _), (2, _), (1, _), (0, _)]) [0, 1, 2, 3, 4] rfl ?_
    refine v_widen (ce' := ce + 6) (sl' := sl + 100) (by show ce + 0 + 0 ≤ ce + 6; omega) (by show sl + 0 + 0 ≤ sl + 100; omega) ?_
    exact hend _ _ hi2
  · exact absurd rfl c_186

set_option maxHeartbeats 4000000 in
set_option maxRecDepth 100000 in
theorem law_cell (G : sv_G) (P : sv_P) (b m o q : Nat) (I I1 : sv_h → Nat → Prop) (hL : G.2.2.2.2.2.1 ≤ 4609) (hq0 : q + 9 ≤ G.2.2.2.2.2.1) (hIn : sv_In G b m o I) (H : OpI G mX12_cell mX13_cell b m o ["java/lang/IllegalStateException"] [] I I1) (h : sv_h) (z ce sl : Nat) (hce : ce + 6 ≤ 600002) (hsl : sl + 100 ≤ 7302198) (hend : ∀ (h : sv_h) (z : Nat), I1 h z → V G mL_law P 1428 [(4, .int (nI q)), (3, .ref o), (2, .ref m), (1, .ref b), (0, .ref (G.2.2.2.2.1 100))] [] h z (ce + 6) (sl + 100)) (hi : I h z) : V G mL_law P 191 [(4, .int (nI q)), (3, .ref o), (2, .ref m), (1, .ref b), (0, .ref (G.2.2.2.2.1 100))] [] h z ce sl := by
  obtain ⟨⟨fsb, hb⟩, ⟨fsm, hm⟩, ⟨f0, ho⟩⟩ := hIn h z hi
  refine v_aload_n dL_law_191 rfl 3 rfl ?_
  refine v_aload_n dL_law_192 rfl 1 rfl ?_
  obtain ⟨Qr, Qx, ct, hR, hX⟩ := H h z hi
  refine v_callSW (M' := mL_cell_) (n := 2) (As := [_, _]) gc_90 rfl (by decide +kernel) ⟨(Nat.le_of_ble_eq_true rfl), (Nat.le_of_ble_eq_true rfl)⟩ dL_law_193 rfl ⟨by show ce + 6 ≤ 600002; omega, by show sl + 100 ≤ 7302198; omega⟩ (Nat.le_of_ble_eq_true rfl) rfl (w_cell_ G h z b o  fsb f0 Qr Qx hb ho ct (fun v h1 z1 hq => by obtain ⟨w, e1, ⟨f, e2⟩, _⟩ := hR v h1 z1 hq; exact ⟨w, f, e1, e2⟩) (fun E h1 z1 hq => by obtain ⟨j, e1, _⟩ := hX E h1 z1 hq; exact (sv_n1 e1).1)) (fun v h1 z1 hq => ?_)
  rcases hq with ⟨rfl, w, h2, g, hqr, ho1, hg0, hfr⟩ | ⟨rfl, hqx⟩
  · obtain ⟨w9, e1, -, hmo, ⟨fsm1, hm1⟩, hK⟩ := hR _ _ _ hqr
    cases e1
    obtain ⟨Q2, ct2, hQ2⟩ := hK h1 g ho1 hg0 hfr
    refine v_istore (L' := [(5, _), (4, _), (3, _), (2, _), (1, _), (0, _)]) dL_law_196 (Nat.le_of_ble_eq_true rfl) rfl ?_
    refine v_aload_n dL_law_198 rfl 3 rfl ?_
    refine v_callV (M' := mX13_cell) (n := 0) (As := []) (ci := 11) (r := (RX13, TX13, 71)) gc_93 rfl (by decide +kernel) ⟨(Nat.le_of_ble_eq_true rfl), (Nat.le_of_ble_eq_true rfl)⟩ rfl rfl dL_law_199 rfl ⟨by show ce + 6 + 0 ≤ 600002; omega, by show sl + 100 + 0 ≤ 7302198; omega⟩ (Nat.le_of_ble_eq_true rfl) ((hfr _ hmo).trans hm1) rfl ct2 (fun v2 h3 z3 hq2 => ?_)
    obtain ⟨rfl, ⟨fs3, k1, k2, k3⟩, ho3, hi3⟩ := hQ2 _ _ _ hq2
    refine v_istore (L' := [(6, _), (5, _), (4, _), (3, _), (2, _), (1, _), (0, _)]) dL_law_202 (Nat.le_of_ble_eq_true rfl) rfl ?_
    refine v_aload_n dL_law_204 rfl 4 rfl ?_
    refine v_callV (M' := mX13_thrown) (n := 0) (As := []) (ci := 11) (r := (RX13, TX13, 71)) gc_94 rfl (by decide +kernel) ⟨(Nat.le_of_ble_eq_true rfl), (Nat.le_of_ble_eq_true rfl)⟩ rfl rfl dL_law_205 rfl ⟨by show ce + 6 + 0 + 0 ≤ 600002; omega, by show sl + 100 + 0 + 0 ≤ 7302198; omega⟩ (Nat.le_of_ble_eq_true rfl) k1 rfl (m_thrown G _ _ _ fs3 k2 k1 _ k3) (fun v4 h4 z4 hq4 => ?_)
    obtain ⟨rfl, rfl, rfl⟩ := hq4
    refine v_iload dL_law_208 1 rfl ?_
    refine v_icmp_eq (tgt := 215) dL_law_210 (by decide) (fun c_210 => ?_) (fun c_210 => ?_)
    · refine v_iload dL_law_215 1 rfl ?_
      refine v_if_ne (tgt := 232) dL_law_217 (by decide) (fun c_217 => ?_) (fun c_217 => ?_)
      · exact absurd rfl c_217
      · refine v_aload_n dL_law_220 rfl 3 rfl ?_
        refine v_iconst (v := 0) dL_law_221 (by decide) ?_
        refine v_lald dL_law_222 ho3 (by rw [← nI_0]; exact vp_in_nI (by omega) (by omega)) ?_
        refine v_iload dL_law_223 0 rfl ?_
        refine v_i2l dL_law_225 rfl ?_
        refine v_lcmp_eq (tgt := 232) dL_law_226 dL_law_227 (by decide) (fun c_227 => ?_) (fun c_227 => ?_)
        · refine v_goto (tgt := 1428) dL_law_232 (by decide) ?_
          refine v_sub (L' := [(4, _), (3, _), (2, _), (1, _), (0, _)]) [2, 3, 4, 5, 6] rfl ?_
          refine v_widen (ce' := ce + 6) (sl' := sl + 100) (by show ce + 6 + 0 + 0 ≤ ce + 6; omega) (by show sl + 100 + 0 + 0 ≤ sl + 100; omega) ?_
          exact hend _ _ hi3
        · exact absurd (by rw [sb_cl0, hg0]) c_227
    · exact absurd rfl c_210
  · obtain ⟨j, e1, ⟨fsm1, hm1⟩, Q2, ct2, hQ2⟩ := hX _ _ _ hqx
    obtain ⟨-, rfl⟩ := sv_n1 e1
    refine v_istore (L' := [(5, _), (4, _), (3, _), (2, _), (1, _), (0, _)]) dL_law_196 (Nat.le_of_ble_eq_true rfl) rfl ?_
    refine v_aload_n dL_law_198 rfl 3 rfl ?_
    refine v_callV (M' := mX13_cell) (n := 0) (As := []) (ci := 11) (r := (RX13, TX13, 71)) gc_93 rfl (by decide +kernel) ⟨(Nat.le_of_ble_eq_true rfl), (Nat.le_of_ble_eq_true rfl)⟩ rfl rfl dL_law_199 rfl ⟨by show ce + 6 + 0 ≤ 600002; omega, by show sl + 100 + 0 ≤ 7302198; omega⟩ (Nat.le_of_ble_eq_true rfl) hm1 rfl ct2 (fun v2 h3 z3 hq2 => ?_)
    obtain ⟨⟨w2, rfl⟩, ⟨fs3, k1, k2, k3⟩, hi3⟩ := hQ2 _ _ _ hq2
    refine v_istore (L' := [(6, _), (5, _), (4, _), (3, _), (2, _), (1, _), (0, _)]) dL_law_202 (Nat.le_of_ble_eq_true rfl) rfl ?_
    refine v_aload_n dL_law_204 rfl 4 rfl ?_
    refine v_callV (M' := mX13_thrown) (n := 0) (As := []) (ci := 11) (r := (RX13, TX13, 71)) gc_94 rfl (by decide +kernel) ⟨(Nat.le_of_ble_eq_true rfl), (Nat.le_of_ble_eq_true rfl)⟩ rfl rfl dL_law_205 rfl ⟨by show ce + 6 + 0 + 0 ≤ 600002; omega, by show sl + 100 + 0 + 0 ≤ 7302198; omega⟩ (Nat.le_of_ble_eq_true rfl) k1 rfl (m_thrown G _ _ _ fs3 k2 k1 _ k3) (fun v4 h4 z4 hq4 => ?_)
    obtain ⟨rfl, rfl, rfl⟩ := hq4
    refine v_iload dL_law_208 1 rfl ?_
    refine v_icmp_eq (tgt := 215) dL_law_210 (by decide) (fun c_210 => ?_) (fun c_210 => ?_)
    · refine v_iload dL_law_215 1 rfl ?_
      refine v_if_ne (tgt := 232) dL_law_217 (by decide) (fun c_217 => ?_) (fun c_217 => ?_)
      · refine v_goto (tgt := 1428) dL_law_232 (by decide) ?_
        refine v_sub (L' := [(4, _), (3, _), (2, _), (1, _), (0, _)]) [2, 3, 4, 5, 6] rfl ?_
        refine v_widen (ce' := ce + 6) (sl' := sl + 100) (by show ce + 6 + 0 + 0 ≤ ce + 6; omega) (by show sl + 100 + 0 + 0 ≤ sl + 100; omega) ?_
        exact hend _ _ hi3
      · exact absurd c_217 (by decide)
    · exact absurd rfl c_210

set_option maxHeartbeats 4000000 in
set_option maxRecDepth 100000 in
theorem law_polygon (G : sv_G) (P : sv_P) (b m o q : Nat) (I I1 : sv_h → Nat → Prop) (hL : G.2.2.2.2.2.1 ≤ 4609) (hq0 : q + 9 ≤ G.2.2.2.2.2.1) (hIn : sv_In G b m o I) (H : OpI G mX12_polygon mX13_polygon b m o ["java/lang/IndexOutOfBoundsException", "java/lang/IllegalStateException"] [.int (G.2.2.2.2.2.2 (nI q + 1).toNatClampNeg), .int (G.2.2.2.2.2.2 (nI q + 2).toNatClampNeg)] I I1) (h : sv_h) (z ce sl : Nat) (hce : ce + 6 ≤ 600002) (hsl : sl + 100 ≤ 7302198) (hend : ∀ (h : sv_h) (z : Nat), I1 h z → V G mL_law P 1428 [(4, .int (nI q)), (3, .ref o), (2, .ref m), (1, .ref b), (0, .ref (G.2.2.2.2.1 100))] [] h z (ce + 6) (sl + 100)) (hi : I h z) : V G mL_law P 235 [(4, .int (nI q)), (3, .ref o), (2, .ref m), (1, .ref b), (0, .ref (G.2.2.2.2.1 100))] [] h z ce sl := by
  obtain ⟨⟨fsb, hb⟩, ⟨fsm, hm⟩, ⟨f0, ho⟩⟩ := hIn h z hi
  refine v_aload_n dL_law_235 rfl 3 rfl ?_
  refine v_aload_n dL_law_236 rfl 4 rfl ?_
  refine v_iload dL_law_237 0 rfl ?_
  refine v_iconst (v := 1) dL_law_239 (by decide) ?_
  refine v_iadd dL_law_240 ?_
  refine v_sld dL_law_241 (sv_sin (a := q) (c := 1) (by omega) (by omega)) ?_
  refine v_aload_n dL_law_242 rfl 4 rfl ?_
  refine v_iload dL_law_243 0 rfl ?_
  refine v_iconst (v := 2) dL_law_245 (by decide) ?_
  refine v_iadd dL_law_246 ?_
  refine v_sld dL_law_247 (sv_sin (a := q) (c := 2) (by omega) (by omega)) ?_
  refine v_aload_n dL_law_248 rfl 1 rfl ?_
  obtain ⟨Qr, Qx, ct, hR, hX⟩ := H h z hi
  refine v_callSW (M' := mL_polygon) (n := 4) (As := [_, _, _, _]) gc_97 rfl (by decide +kernel) ⟨(Nat.le_of_ble_eq_true rfl), (Nat.le_of_ble_eq_true rfl)⟩ dL_law_249 rfl ⟨by show ce + 6 ≤ 600002; omega, by show sl + 100 ≤ 7302198; omega⟩ (Nat.le_of_ble_eq_true rfl) rfl (w_polygon G h z b o _ _ fsb f0 Qr Qx hb ho ct (fun v h1 z1 hq => by obtain ⟨w, e1, ⟨f, e2⟩, _⟩ := hR v h1 z1 hq; exact ⟨w, f, e1, e2⟩) (fun E h1 z1 hq => by obtain ⟨j, e1, _⟩ := hX E h1 z1 hq; exact ((sv_n2 e1).elim (fun q => Or.inl q.1) (fun q => Or.inr q.1)))) (fun v h1 z1 hq => ?_)
  rcases hq with ⟨rfl, w, h2, g, hqr, ho1, hg0, hfr⟩ | ⟨rfl, hqx⟩ | ⟨rfl, hqx⟩
  · obtain ⟨w9, e1, -, hmo, ⟨fsm1, hm1⟩, hK⟩ := hR _ _ _ hqr
    cases e1
    obtain ⟨Q2, ct2, hQ2⟩ := hK h1 g ho1 hg0 hfr
    refine v_istore (L' := [(5, _), (4, _), (3, _), (2, _), (1, _), (0, _)]) dL_law_252 (Nat.le_of_ble_eq_true rfl) rfl ?_
    refine v_aload_n dL_law_254 rfl 3 rfl ?_
    refine v_aload_n dL_law_255 rfl 5 rfl ?_
    refine v_iload dL_law_256 1 rfl ?_
    refine v_iconst (v := 1) dL_law_258 (by decide) ?_
    refine v_iadd dL_law_259 ?_
    refine v_sld dL_law_260 (sv_sin (a := q) (c := 1) (by omega) (by omega)) ?_
    refine v_aload_n dL_law_261 rfl 5 rfl ?_
    refine v_iload dL_law_262 1 rfl ?_
    refine v_iconst (v := 2) dL_law_264 (by decide) ?_
    refine v_iadd dL_law_265 ?_
    refine v_sld dL_law_266 (sv_sin (a := q) (c := 2) (by omega) (by omega)) ?_
    refine v_callV (M' := mX13_polygon) (n := 2) (As := [_, _]) (ci := 11) (r := (RX13, TX13, 71)) gc_100 rfl (by decide +kernel) ⟨(Nat.le_of_ble_eq_true rfl), (Nat.le_of_ble_eq_true rfl)⟩ rfl rfl dL_law_267 rfl ⟨by show ce + 6 + 0 ≤ 600002; omega, by show sl + 100 + 0 ≤ 7302198; omega⟩ (Nat.le_of_ble_eq_true rfl) ((hfr _ hmo).trans hm1) rfl ct2 (fun v2 h3 z3 hq2 => ?_)
    obtain ⟨rfl, ⟨fs3, k1, k2, k3⟩, ho3, hi3⟩ := hQ2 _ _ _ hq2
    refine v_istore (L' := [(6, _), (5, _), (4, _), (3, _), (2, _), (1, _), (0, _)]) dL_law_270 (Nat.le_of_ble_eq_true rfl) rfl ?_
    refine v_aload_n dL_law_272 rfl 4 rfl ?_
    refine v_callV (M' := mX13_thrown) (n := 0) (As := []) (ci := 11) (r := (RX13, TX13, 71)) gc_94 rfl (by decide +kernel) ⟨(Nat.le_of_ble_eq_true rfl), (Nat.le_of_ble_eq_true rfl)⟩ rfl rfl dL_law_273 rfl ⟨by show ce + 6 + 0 + 0 ≤ 600002; omega, by show sl + 100 + 0 + 0 ≤ 7302198; omega⟩ (Nat.le_of_ble_eq_true rfl) k1 rfl (m_thrown G _ _ _ fs3 k2 k1 _ k3) (fun v4 h4 z4 hq4 => ?_)
    obtain ⟨rfl, rfl, rfl⟩ := hq4
    refine v_iload dL_law_276 1 rfl ?_
    refine v_icmp_eq (tgt := 283) dL_law_278 (by decide) (fun c_278 => ?_) (fun c_278 => ?_)
    · refine v_iload dL_law_283 1 rfl ?_
      refine v_if_ne (tgt := 300) dL_law_285 (by decide) (fun c_285 => ?_) (fun c_285 => ?_)
      · exact absurd rfl c_285
      · refine v_aload_n dL_law_288 rfl 3 rfl ?_
        refine v_iconst (v := 0) dL_law_289 (by decide) ?_
        refine v_lald dL_law_290 ho3 (by rw [← nI_0]; exact vp_in_nI (by omega) (by omega)) ?_
        refine v_iload dL_law_291 0 rfl ?_
        refine v_i2l dL_law_293 rfl ?_
        refine v_lcmp_eq (tgt := 300) dL_law_294 dL_law_295 (by decide) (fun c_295 => ?_) (fun c_295 => ?_)
        · refine v_goto (tgt := 1428) dL_law_300 (by decide) ?_
          refine v_sub (L' := [(4, _), (3, _), (2, _), (1, _), (0, _)]) [2, 3, 4, 5, 6] rfl ?_
          refine v_widen (ce' := ce + 6) (sl' := sl + 100) (by show ce + 6 + 0 + 0 ≤ ce + 6; omega) (by show sl + 100 + 0 + 0 ≤ sl + 100; omega) ?_
          exact hend _ _ hi3
        · exact absurd (by rw [sb_cl0, hg0]) c_295
    · exact absurd rfl c_278
  · obtain ⟨j, e1, ⟨fsm1, hm1⟩, Q2, ct2, hQ2⟩ := hX _ _ _ hqx
    obtain rfl : j = 0 := by
      rcases sv_n2 e1 with ⟨e2, e3⟩ | ⟨e2, e3⟩
      · exact e3
      · exact absurd e2 (by decide)
    refine v_istore (L' := [(5, _), (4, _), (3, _), (2, _), (1, _), (0, _)]) dL_law_252 (Nat.le_of_ble_eq_true rfl) rfl ?_
    refine v_aload_n dL_law_254 rfl 3 rfl ?_
    refine v_aload_n dL_law_255 rfl 5 rfl ?_
    refine v_iload dL_law_256 1 rfl ?_
    refine v_iconst (v := 1) dL_law_258 (by decide) ?_
    refine v_iadd dL_law_259 ?_
    refine v_sld dL_law_260 (sv_sin (a := q) (c := 1) (by omega) (by omega)) ?_
    refine v_aload_n dL_law_261 rfl 5 rfl ?_
    refine v_iload dL_law_262 1 rfl ?_
    refine v_iconst (v := 2) dL_law_264 (by decide) ?_
    refine v_iadd dL_law_265 ?_
    refine v_sld dL_law_266 (sv_sin (a := q) (c := 2) (by omega) (by omega)) ?_
    refine v_callV (M' := mX13_polygon) (n := 2) (As := [_, _]) (ci := 11) (r := (RX13, TX13, 71)) gc_100 rfl (by decide +kernel) ⟨(Nat.le_of_ble_eq_true rfl), (Nat.le_of_ble_eq_true rfl)⟩ rfl rfl dL_law_267 rfl ⟨by show ce + 6 + 0 ≤ 600002; omega, by show sl + 100 + 0 ≤ 7302198; omega⟩ (Nat.le_of_ble_eq_true rfl) hm1 rfl ct2 (fun v2 h3 z3 hq2 => ?_)
    obtain ⟨⟨w2, rfl⟩, ⟨fs3, k1, k2, k3⟩, hi3⟩ := hQ2 _ _ _ hq2
    refine v_istore (L' := [(6, _), (5, _), (4, _), (3, _), (2, _), (1, _), (0, _)]) dL_law_270 (Nat.le_of_ble_eq_true rfl) rfl ?_
    refine v_aload_n dL_law_272 rfl 4 rfl ?_
    refine v_callV (M' := mX13_thrown) (n := 0) (As := []) (ci := 11) (r := (RX13, TX13, 71)) gc_94 rfl (by decide +kernel) ⟨(Nat.le_of_ble_eq_true rfl), (Nat.le_of_ble_eq_true rfl)⟩ rfl rfl dL_law_273 rfl ⟨by show ce + 6 + 0 + 0 ≤ 600002; omega, by show sl + 100 + 0 + 0 ≤ 7302198; omega⟩ (Nat.le_of_ble_eq_true rfl) k1 rfl (m_thrown G _ _ _ fs3 k2 k1 _ k3) (fun v4 h4 z4 hq4 => ?_)
    obtain ⟨rfl, rfl, rfl⟩ := hq4
    refine v_iload dL_law_276 1 rfl ?_
    refine v_icmp_eq (tgt := 283) dL_law_278 (by decide) (fun c_278 => ?_) (fun c_278 => ?_)
    · refine v_iload dL_law_283 1 rfl ?_
      refine v_if_ne (tgt := 300) dL_law_285 (by decide) (fun c_285 => ?_) (fun c_285 => ?_)
      · refine v_goto (tgt := 1428) dL_law_300 (by decide) ?_
        refine v_sub (L' := [(4, _), (3, _), (2, _), (1, _), (0, _)]) [2, 3, 4, 5, 6] rfl ?_
        refine v_widen (ce' := ce + 6) (sl' := sl + 100) (by show ce + 6 + 0 + 0 ≤ ce + 6; omega) (by show sl + 100 + 0 + 0 ≤ sl + 100; omega) ?_
        exact hend _ _ hi3
      · exact absurd c_285 (by decide)
    · exact absurd rfl c_278
  · obtain ⟨j, e1, ⟨fsm1, hm1⟩, Q2, ct2, hQ2⟩ := hX _ _ _ hqx
    obtain rfl : j = 1 := by
      rcases sv_n2 e1 with ⟨e2, e3⟩ | ⟨e2, e3⟩
      · exact absurd e2 (by decide)
      · exact e3
    refine v_istore (L' := [(5, _), (4, _), (3, _), (2, _), (1, _), (0, _)]) dL_law_252 (Nat.le_of_ble_eq_true rfl) rfl ?_
    refine v_aload_n dL_law_254 rfl 3 rfl ?_
    refine v_aload_n dL_law_255 rfl 5 rfl ?_
    refine v_iload dL_law_256 1 rfl ?_
    refine v_iconst (v := 1) dL_law_258 (by decide) ?_
    refine v_iadd dL_law_259 ?_
    refine v_sld dL_law_260 (sv_sin (a := q) (c := 1) (by omega) (by omega)) ?_
    refine v_aload_n dL_law_261 rfl 5 rfl ?_
    refine v_iload dL_law_262 1 rfl ?_
    refine v_iconst (v := 2) dL_law_264 (by decide) ?_
    refine v_iadd dL_law_265 ?_
    refine v_sld dL_law_266 (sv_sin (a := q) (c := 2) (by omega) (by omega)) ?_
    refine v_callV (M' := mX13_polygon) (n := 2) (As := [_, _]) (ci := 11) (r := (RX13, TX13, 71)) gc_100 rfl (by decide +kernel) ⟨(Nat.le_of_ble_eq_true rfl), (Nat.le_of_ble_eq_true rfl)⟩ rfl rfl dL_law_267 rfl ⟨by show ce + 6 + 0 ≤ 600002; omega, by show sl + 100 + 0 ≤ 7302198; omega⟩ (Nat.le_of_ble_eq_true rfl) hm1 rfl ct2 (fun v2 h3 z3 hq2 => ?_)
    obtain ⟨⟨w2, rfl⟩, ⟨fs3, k1, k2, k3⟩, hi3⟩ := hQ2 _ _ _ hq2
    refine v_istore (L' := [(6, _), (5, _), (4, _), (3, _), (2, _), (1, _), (0, _)]) dL_law_270 (Nat.le_of_ble_eq_true rfl) rfl ?_
    refine v_aload_n dL_law_272 rfl 4 rfl ?_
    refine v_callV (M' := mX13_thrown) (n := 0) (As := []) (ci := 11) (r := (RX13, TX13, 71)) gc_94 rfl (by decide +kernel) ⟨(Nat.le_of_ble_eq_true rfl), (Nat.le_of_ble_eq_true rfl)⟩ rfl rfl dL_law_273 rfl ⟨by show ce + 6 + 0 + 0 ≤ 600002; omega, by show sl + 100 + 0 + 0 ≤ 7302198; omega⟩ (Nat.le_of_ble_eq_true rfl) k1 rfl (m_thrown G _ _ _ fs3 k2 k1 _ k3) (fun v4 h4 z4 hq4 => ?_)
    obtain ⟨rfl, rfl, rfl⟩ := hq4
    refine v_iload dL_law_276 1 rfl ?_
    refine v_icmp_eq (tgt := 283) dL_law_278 (by decide) (fun c_278 => ?_) (fun c_278 => ?_)
    · refine v_iload dL_law_283 1 rfl ?_
      refine v_if_ne (tgt := 300) dL_law_285 (by decide) (fun c_285 => ?_) (fun c_285 => ?_)
      · refine v_goto (tgt := 1428) dL_law_300 (by decide) ?_
        refine v_sub (L' := [(4, _), (3, _), (2, _), (1, _), (0, _)]) [2, 3, 4, 5, 6] rfl ?_
        refine v_widen (ce' := ce + 6) (sl' := sl + 100) (by show ce + 6 + 0 + 0 ≤ ce + 6; omega) (by show sl + 100 + 0 + 0 ≤ sl + 100; omega) ?_
        exact hend _ _ hi3
      · exact absurd c_285 (by decide)
    · exact absurd rfl c_278

