/-- the model breaks off in rule d at word j -/
def mf_ (n : Nat) (tp : Nat → Int32) (ly : Int32) (nm0 : Nat → Int64) (d j0 j : Nat) : Prop := (d = 20 ∧ j = j0) ∨ (d < 20 ∧ rd_rl n tp ly nm0 d j0 = .inl j)
/-- from the conditions on -/
noncomputable def rd_ct (n : Nat) (tp : Nat → Int32) (x0 x1 x2 x3 : Int32) (j : Nat) : Nat ⊕ (Nat × (Nat → Int32)) :=
  match rd_cs n tp x0 4 (-1) (-1) (-1) j with | .inl e => .inl e | .inr (e, x4, x5, x6) => .inr (e, rd_row x0 x1 x2 x3 x4 x5 x6)
theorem rd_tl_p {n : Nat} {tp : Nat → Int32} {x0 x1 x2 : Int32} {j : Nat} (h1 : w_sg n tp 60 j) (h2 : w_nu n tp 1000000000 (j + 1)) : rd_tl n tp x0 x1 x2 j = rd_ct n tp x0 x1 x2 (w_nv n tp (j + 1)) (j + 2) := by
  rw [rd_tl, if_pos h1, if_pos h2]; rfl
theorem rd_tl_n {n : Nat} {tp : Nat → Int32} {x0 x1 x2 : Int32} {j : Nat} (h1 : w_sg n tp 60 j) (h2 : ¬ w_nu n tp 1000000000 (j + 1)) : rd_tl n tp x0 x1 x2 j = .inl (j + 1) := by
  rw [rd_tl, if_pos h1, if_neg h2]
theorem rd_tl_0 {n : Nat} {tp : Nat → Int32} {x0 x1 x2 : Int32} {j : Nat} (h1 : ¬ w_sg n tp 60 j) : rd_tl n tp x0 x1 x2 j = .inl j := by
  rw [rd_tl, if_neg h1]
theorem w_nvi {n : Nat} {tp : Nat → Int32} {c : Int32} {j : Nat} (h : w_nu n tp c j) : (if wS n tp j = 3 then wV n tp j else 0) = wV n tp j := if_pos h.1
theorem rd_knm {n : Nat} {tp : Nat → Int32} {j : Nat} : kdo (if wS n tp j = 2 then wV n tp j else 0) = rd_k n tp j := by
  unfold rd_k
  by_cases e : wS n tp j = 2
  · rw [if_pos e, if_pos e]
  · rw [if_neg e, if_neg e]; decide
set_option maxHeartbeats 4000000 in
set_option maxRecDepth 100000 in
theorem t_rF (G : sv_G) (h0 h : sv_h) (z b n : Nat) (tp : Nat → Int32) (fs : List Value) (ly : Int32) (X : mx_ b n tp fs ly) (j : Nat) (r : Int32) (gk ga gb : Nat → Int32) (gl gr gv ge nm : Nat → Int64) (Hh : mh_ G b n tp fs h0 h j r gk ga gb gl gr gv ge nm) (nm0 : Nat → Int64) (d j0 : Nat) (hd : d ≤ 20) (hn0 : ∀ i, i ≠ d → nm i = nm0 i) (k a bb : Int32) (mo : Int64) (hc : (r = 1 ∧ d < 20 ∧ nm d = wV n tp j0 ∧ ∃ m0 : Int32, mo = m0.toInt64 ∧ rd_rl n tp ly nm0 d j0 = rd_ct n tp k a bb m0 j) ∨ (r = 0 ∧ mf_ n tp ly nm0 d j0 j)) : V G mX13_readRule (sv_MQ G mX13_readRule (mq_ G b n tp fs ly d j0 h0 z gk ga gb gl gr gv ge nm0)) 142 [(8, .long mo), (7, .int bb), (6, .int a), (5, .int k), (2, .int (nI (20 + d))), (0, .ref (b + 220))] [] h z 0 0 := by
  have hr : r = 0 ∨ r = 1 := by
    rcases hc with q | q
    · exact Or.inr q.1
    · exact Or.inl q.1
  obtain ⟨⟨F, hm, H⟩, ⟨f, t, u⟩, ⟨a1, a2, a3, a4, a5, a6, a7, a8⟩, fr⟩ := id Hh
  obtain ⟨g0, g1, g2, g3, g4, g5, g6, g7⟩ := id H
  have hlen := g0
  have f_layers := (g7 1 (by decide) (by decide) (by decide) (by decide)).trans X.2.2.1
  have f_kind := (g7 19 (by decide) (by decide) (by decide) (by decide)).trans X.2.2.2.1
  have f_layerA := (g7 20 (by decide) (by decide) (by decide) (by decide)).trans X.2.2.2.2.1
  have f_layerB := (g7 21 (by decide) (by decide) (by decide) (by decide)).trans X.2.2.2.2.2.1
  have f_bound := (g7 22 (by decide) (by decide) (by decide) (by decide)).trans X.2.2.2.2.2.2.1
  have f_run := (g7 23 (by decide) (by decide) (by decide) (by decide)).trans X.2.2.2.2.2.2.2.1
  have f_volt := (g7 24 (by decide) (by decide) (by decide) (by decide)).trans X.2.2.2.2.2.2.2.2.1
  have f_end := (g7 25 (by decide) (by decide) (by decide) (by decide)).trans X.2.2.2.2.2.2.2.2.2.1
  have f_names := (g7 26 (by decide) (by decide) (by decide) (by decide)).trans X.2.2.2.2.2.2.2.2.2.2
  have f_right := g4
  refine v_aload_n dX13_readRule_142 rfl 5 rfl ?_
  refine v_getf 70 (ci := 11) (C := RX13) (T := TX13) (N := 71) rfl iwX13_readRule_X13 (Nat.le_of_ble_eq_true rfl) (by decide +kernel) dX13_readRule_143 (by repeat (first | with_reducible assumption | (with_reducible refine sv_us.trans ?_; exact rfl) | with_reducible refine (sv_un (by omega)).trans ?_)) (by repeat (first | with_reducible assumption | (with_reducible refine (sv_ls (by first | omega | (simp only [List.length_set]; omega))).trans ?_; exact rfl) | with_reducible refine (List.getElem?_set_ne (by decide)).trans ?_)) ?_
  refine v_if_ne (tgt := 150) dX13_readRule_146 (by decide) (fun c_146 => ?_) (fun c_146 => ?_)
  · refine v_aload_n dX13_readRule_150 rfl 5 rfl ?_
    refine v_getf 19 (ci := 11) (C := RX13) (T := TX13) (N := 71) rfl iwX13_readRule_X13 (Nat.le_of_ble_eq_true rfl) (by decide +kernel) dX13_readRule_151 (by repeat (first | with_reducible assumption | (with_reducible refine sv_us.trans ?_; exact rfl) | with_reducible refine (sv_un (by omega)).trans ?_)) (by repeat (first | with_reducible assumption | (with_reducible refine (sv_ls (by first | omega | (simp only [List.length_set]; omega))).trans ?_; exact rfl) | with_reducible refine (List.getElem?_set_ne (by decide)).trans ?_)) ?_
    refine v_iload_n dX13_readRule_154 rfl 4 rfl ?_
    refine v_iload dX13_readRule_155 3 rfl ?_
    refine v_iast dX13_readRule_157 (by repeat (first | with_reducible assumption | (with_reducible refine sv_us.trans ?_; exact rfl) | with_reducible refine (sv_un (by omega)).trans ?_)) (vp_in_nI (by rcases hc with q | q; exact (by have := q.2.1; omega); exact absurd q.1 c_146) (by omega)) ?_
    refine v_aload_n dX13_readRule_158 rfl 5 rfl ?_
    refine v_getf 20 (ci := 11) (C := RX13) (T := TX13) (N := 71) rfl iwX13_readRule_X13 (Nat.le_of_ble_eq_true rfl) (by decide +kernel) dX13_readRule_159 (by repeat (first | with_reducible assumption | (with_reducible refine sv_us.trans ?_; exact rfl) | with_reducible refine (sv_un (by omega)).trans ?_)) (by repeat (first | with_reducible assumption | (with_reducible refine (sv_ls (by first | omega | (simp only [List.length_set]; omega))).trans ?_; exact rfl) | with_reducible refine (List.getElem?_set_ne (by decide)).trans ?_)) ?_
    refine v_iload_n dX13_readRule_162 rfl 4 rfl ?_
    refine v_iload dX13_readRule_163 2 rfl ?_
    refine v_iast dX13_readRule_165 (by repeat (first | with_reducible assumption | (with_reducible refine sv_us.trans ?_; exact rfl) | with_reducible refine (sv_un (by omega)).trans ?_)) (vp_in_nI (by rcases hc with q | q; exact (by have := q.2.1; omega); exact absurd q.1 c_146) (by omega)) ?_
    refine v_aload_n dX13_readRule_166 rfl 5 rfl ?_
    refine v_getf 21 (ci := 11) (C := RX13) (T := TX13) (N := 71) rfl iwX13_readRule_X13 (Nat.le_of_ble_eq_true rfl) (by decide +kernel) dX13_readRule_167 (by repeat (first | with_reducible assumption | (with_reducible refine sv_us.trans ?_; exact rfl) | with_reducible refine (sv_un (by omega)).trans ?_)) (by repeat (first | with_reducible assumption | (with_reducible refine (sv_ls (by first | omega | (simp only [List.length_set]; omega))).trans ?_; exact rfl) | with_reducible refine (List.getElem?_set_ne (by decide)).trans ?_)) ?_
    refine v_iload_n dX13_readRule_170 rfl 4 rfl ?_
    refine v_iload dX13_readRule_171 1 rfl ?_
    refine v_iast dX13_readRule_173 (by repeat (first | with_reducible assumption | (with_reducible refine sv_us.trans ?_; exact rfl) | with_reducible refine (sv_un (by omega)).trans ?_)) (vp_in_nI (by rcases hc with q | q; exact (by have := q.2.1; omega); exact absurd q.1 c_146) (by omega)) ?_
    refine v_aload_n dX13_readRule_174 rfl 5 rfl ?_
    refine v_getf 22 (ci := 11) (C := RX13) (T := TX13) (N := 71) rfl iwX13_readRule_X13 (Nat.le_of_ble_eq_true rfl) (by decide +kernel) dX13_readRule_175 (by repeat (first | with_reducible assumption | (with_reducible refine sv_us.trans ?_; exact rfl) | with_reducible refine (sv_un (by omega)).trans ?_)) (by repeat (first | with_reducible assumption | (with_reducible refine (sv_ls (by first | omega | (simp only [List.length_set]; omega))).trans ?_; exact rfl) | with_reducible refine (List.getElem?_set_ne (by decide)).trans ?_)) ?_
    refine v_iload_n dX13_readRule_178 rfl 4 rfl ?_
    refine v_lload dX13_readRule_179 0 rfl ?_
    refine v_last dX13_readRule_181 (by repeat (first | with_reducible assumption | (with_reducible refine sv_us.trans ?_; exact rfl) | with_reducible refine (sv_un (by omega)).trans ?_)) (vp_in_nI (by rcases hc with q | q; exact (by have := q.2.1; omega); exact absurd q.1 c_146) (by omega)) ?_
    refine v_aload_n dX13_readRule_182 rfl 5 rfl ?_
    refine v_getf 23 (ci := 11) (C := RX13) (T := TX13) (N := 71) rfl iwX13_readRule_X13 (Nat.le_of_ble_eq_true rfl) (by decide +kernel) dX13_readRule_183 (by repeat (first | with_reducible assumption | (with_reducible refine sv_us.trans ?_; exact rfl) | with_reducible refine (sv_un (by omega)).trans ?_)) (by repeat (first | with_reducible assumption | (with_reducible refine (sv_ls (by first | omega | (simp only [List.length_set]; omega))).trans ?_; exact rfl) | with_reducible refine (List.getElem?_set_ne (by decide)).trans ?_)) ?_
    refine v_iload_n dX13_readRule_186 rfl 4 rfl ?_
    refine v_ldc2 (v := (-1)) (by decide +kernel) dX13_readRule_187 ?_
    refine v_last dX13_readRule_190 (by repeat (first | with_reducible assumption | (with_reducible refine sv_us.trans ?_; exact rfl) | with_reducible refine (sv_un (by omega)).trans ?_)) (vp_in_nI (by rcases hc with q | q; exact (by have := q.2.1; omega); exact absurd q.1 c_146) (by omega)) ?_
    refine v_aload_n dX13_readRule_191 rfl 5 rfl ?_
    refine v_getf 24 (ci := 11) (C := RX13) (T := TX13) (N := 71) rfl iwX13_readRule_X13 (Nat.le_of_ble_eq_true rfl) (by decide +kernel) dX13_readRule_192 (by repeat (first | with_reducible assumption | (with_reducible refine sv_us.trans ?_; exact rfl) | with_reducible refine (sv_un (by omega)).trans ?_)) (by repeat (first | with_reducible assumption | (with_reducible refine (sv_ls (by first | omega | (simp only [List.length_set]; omega))).trans ?_; exact rfl) | with_reducible refine (List.getElem?_set_ne (by decide)).trans ?_)) ?_
    refine v_iload_n dX13_readRule_195 rfl 4 rfl ?_
    refine v_ldc2 (v := (-1)) (by decide +kernel) dX13_readRule_196 ?_
    refine v_last dX13_readRule_199 (by repeat (first | with_reducible assumption | (with_reducible refine sv_us.trans ?_; exact rfl) | with_reducible refine (sv_un (by omega)).trans ?_)) (vp_in_nI (by rcases hc with q | q; exact (by have := q.2.1; omega); exact absurd q.1 c_146) (by omega)) ?_
    refine v_aload_n dX13_readRule_200 rfl 5 rfl ?_
    refine v_getf 25 (ci := 11) (C := RX13) (T := TX13) (N := 71) rfl iwX13_readRule_X13 (Nat.le_of_ble_eq_true rfl) (by decide +kernel) dX13_readRule_201 (by repeat (first | with_reducible assumption | (with_reducible refine sv_us.trans ?_; exact rfl) | with_reducible refine (sv_un (by omega)).trans ?_)) (by repeat (first | with_reducible assumption | (with_reducible refine (sv_ls (by first | omega | (simp only [List.length_set]; omega))).trans ?_; exact rfl) | with_reducible refine (List.getElem?_set_ne (by decide)).trans ?_)) ?_
    refine v_iload_n dX13_readRule_204 rfl 4 rfl ?_
    refine v_ldc2 (v := (-1)) (by decide +kernel) dX13_readRule_205 ?_
    refine v_last dX13_readRule_208 (by repeat (first | with_reducible assumption | (with_reducible refine sv_us.trans ?_; exact rfl) | with_reducible refine (sv_un (by omega)).trans ?_)) (vp_in_nI (by rcases hc with q | q; exact (by have := q.2.1; omega); exact absurd q.1 c_146) (by omega)) ?_
    have ecl : (nI (20 + d)).toNatClampNeg = 20 + d := nI_clamp (by omega)
    rw [ecl]
    have hr1 : r = 1 := by
      rcases hc with q | q
      · exact q.1
      · exact absurd q.1 c_146
    subst hr1
    obtain ⟨hd2, hnm, m0, rfl, hrl⟩ : d < 20 ∧ nm d = wV n tp j0 ∧ ∃ m0 : Int32, mo = m0.toInt64 ∧ rd_rl n tp ly nm0 d j0 = rd_ct n tp k a bb m0 j := by
      rcases hc with q | q
      · exact q.2
      · exact absurd q.1 (by decide)
    refine v_sub (L' := [(2, _), (0, _)]) [4, 5] rfl ?_
    refine t_rL G (mq_ G b n tp fs ly d j0 h0 z gk ga gb gl gr gv ge nm0) h0 z b n tp fs ly X (upd gk (20 + d) k) (upd ga (20 + d) a) (upd gb (20 + d) bb) (vp_updL gl (20 + d) m0.toInt64) nm d hd2 k (if_pos rfl) 4 _ j _ _ _ (-1) (-1) (-1) (Hh.arr ⟨(sv_un (by omega)).trans ((sv_un (by omega)).trans ((sv_un (by omega)).trans ((sv_un (by omega)).trans ((sv_un (by omega)).trans ((sv_un (by omega)).trans (sv_us)))))), (sv_un (by omega)).trans ((sv_un (by omega)).trans ((sv_un (by omega)).trans ((sv_un (by omega)).trans ((sv_un (by omega)).trans (sv_us))))), (sv_un (by omega)).trans ((sv_un (by omega)).trans ((sv_un (by omega)).trans ((sv_un (by omega)).trans (sv_us)))), (sv_un (by omega)).trans ((sv_un (by omega)).trans ((sv_un (by omega)).trans (sv_us))), (sv_un (by omega)).trans ((sv_un (by omega)).trans (sv_us)), (sv_un (by omega)).trans (sv_us), sv_us, (sv_un (by omega)).trans ((sv_un (by omega)).trans ((sv_un (by omega)).trans ((sv_un (by omega)).trans ((sv_un (by omega)).trans ((sv_un (by omega)).trans ((sv_un (by omega)).trans (a8)))))))⟩ (fun w q => (sv_un (by omega)).trans ((sv_un (by omega)).trans ((sv_un (by omega)).trans ((sv_un (by omega)).trans ((sv_un (by omega)).trans ((sv_un (by omega)).trans ((sv_un (by omega)).trans (rfl))))))))) (by decide) (pk_uLs.trans (by decide)) (pk_uLs.trans (by decide)) (pk_uLs.trans (by decide)) (Or.inl rfl) (Or.inl rfl) (Or.inl rfl) (fun h1 j1 r1 gr1 gv1 ge1 m1 m2 m3 => ?_)
    refine ⟨rfl, rfl, _, _, _, _, gr1, gv1, ge1, nm, j1, r1, m1, fun i hi => ⟨if_neg hi, if_neg hi, if_neg hi, pk_uLn hi, (m2 i hi).1.trans (pk_uLn hi), (m2 i hi).2.1.trans (pk_uLn hi), (m2 i hi).2.2.trans (pk_uLn hi)⟩, hn0, ?_⟩
    rcases m3 with ⟨s1, y4, y5, y6, s2, s3, s4, s5⟩ | ⟨s1, s2⟩
    · exact Or.inl ⟨s1, hd2, rd_row k a bb m0 y4 y5 y6, by rw [hrl, rd_ct, s2], hnm, if_pos rfl, if_pos rfl, if_pos rfl, pk_uLs, s3, s4, s5⟩
    · exact Or.inr ⟨s1, Or.inr ⟨hd2, by rw [hrl, rd_ct, s2]⟩⟩
  · exact v_ret rfl dX13_readRule_149 (Nat.le_of_ble_eq_true rfl) (Nat.le_of_ble_eq_true rfl) (by
            rcases hc with q | q
            · exact absurd (q.1.symm.trans c_146) (by decide)
            · exact ⟨rfl, rfl, _, _, _, _, _, _, _, _, j, r, Hh, fun i hi => ⟨rfl, rfl, rfl, rfl, rfl, rfl, rfl⟩, hn0, Or.inr q⟩)

set_option maxHeartbeats 4000000 in
set_option maxRecDepth 100000 in
theorem t_rEE (G : sv_G) (h0 h : sv_h) (z b n : Nat) (tp : Nat → Int32) (fs : List Value) (ly : Int32) (X : mx_ b n tp fs ly) (j : Nat) (r : Int32) (gk ga gb : Nat → Int32) (gl gr gv ge nm : Nat → Int64) (Hh : mh_ G b n tp fs h0 h j r gk ga gb gl gr gv ge nm) (nm0 : Nat → Int64) (d j0 : Nat) (hd : d ≤ 20) (hn0 : ∀ i, i ≠ d → nm i = nm0 i) (k a bb : Int32) (hc : (r = 1 ∧ d < 20 ∧ nm d = wV n tp j0 ∧ rd_rl n tp ly nm0 d j0 = rd_tl n tp k a bb j) ∨ (r = 0 ∧ mf_ n tp ly nm0 d j0 j)) : V G mX13_readRule (sv_MQ G mX13_readRule (mq_ G b n tp fs ly d j0 h0 z gk ga gb gl gr gv ge nm0)) 121 [(6, .int a), (5, .int k), (2, .int (nI (20 + d))), (0, .ref (b + 220))] [.int bb] h z 0 0 := by
  have hr : r = 0 ∨ r = 1 := by
    rcases hc with q | q
    · exact Or.inr q.1
    · exact Or.inl q.1
  obtain ⟨⟨F, hm, H⟩, ⟨f, t, u⟩, ⟨a1, a2, a3, a4, a5, a6, a7, a8⟩, fr⟩ := id Hh
  obtain ⟨g0, g1, g2, g3, g4, g5, g6, g7⟩ := id H
  have hlen := g0
  have f_layers := (g7 1 (by decide) (by decide) (by decide) (by decide)).trans X.2.2.1
  have f_kind := (g7 19 (by decide) (by decide) (by decide) (by decide)).trans X.2.2.2.1
  have f_layerA := (g7 20 (by decide) (by decide) (by decide) (by decide)).trans X.2.2.2.2.1
  have f_layerB := (g7 21 (by decide) (by decide) (by decide) (by decide)).trans X.2.2.2.2.2.1
  have f_bound := (g7 22 (by decide) (by decide) (by decide) (by decide)).trans X.2.2.2.2.2.2.1
  have f_run := (g7 23 (by decide) (by decide) (by decide) (by decide)).trans X.2.2.2.2.2.2.2.1
  have f_volt := (g7 24 (by decide) (by decide) (by decide) (by decide)).trans X.2.2.2.2.2.2.2.2.1
  have f_end := (g7 25 (by decide) (by decide) (by decide) (by decide)).trans X.2.2.2.2.2.2.2.2.2.1
  have f_names := (g7 26 (by decide) (by decide) (by decide) (by decide)).trans X.2.2.2.2.2.2.2.2.2.2
  have f_right := g4
  refine v_istore (L' := [(7, _), (6, _), (5, _), (2, _), (0, _)]) dX13_readRule_121 (Nat.le_of_ble_eq_true rfl) rfl ?_
  refine v_aload_n dX13_readRule_123 rfl 4 rfl ?_
  refine v_aload_n dX13_readRule_124 rfl 4 rfl ?_
  refine v_bipush (v := 60) dX13_readRule_125 (by decide) ?_
  refine v_callVq (M' := mX13_is) (n := 1) (As := [_]) (ci := 11) (r := (RX13, TX13, 71)) gX13_readRule_X13_is rfl (by decide +kernel) ⟨(Nat.le_of_ble_eq_true rfl), (Nat.le_of_ble_eq_true rfl)⟩ rfl rfl dX13_readRule_127 rfl ⟨(Nat.le_of_ble_eq_true rfl), (Nat.le_of_ble_eq_true rfl)⟩ (Nat.le_of_ble_eq_true rfl) (by repeat (first | with_reducible assumption | (with_reducible refine sv_us.trans ?_; exact rfl) | with_reducible refine (sv_un (by omega)).trans ?_)) rfl (m_isH G _ _ _ _ _ _ _ _ X _ _ _ _ _ _ _ _ _ _ Hh 60 (by decide)) (fun v h1 z1 hq => v_pq hq ?_)
  refine v_callVq (M' := mX13_take_) (n := 1) (As := [_]) (ci := 11) (r := (RX13, TX13, 71)) gX13_readRule_X13_take_ rfl (by decide +kernel) ⟨(Nat.le_of_ble_eq_true rfl), (Nat.le_of_ble_eq_true rfl)⟩ rfl rfl dX13_readRule_130 rfl ⟨(Nat.le_of_ble_eq_true rfl), (Nat.le_of_ble_eq_true rfl)⟩ (Nat.le_of_ble_eq_true rfl) (by repeat (first | with_reducible assumption | (with_reducible refine sv_us.trans ?_; exact rfl) | with_reducible refine (sv_un (by omega)).trans ?_)) rfl (m_takeH G _ _ _ _ _ _ _ _ X _ _ _ _ _ _ _ _ _ _ Hh _ hr (by first | exact sv_if01 | exact Or.inl rfl | exact Or.inr rfl)) (fun v h1 z1 hq => ?_)
  obtain ⟨rfl, rfl, j1, r1, Hh1, e1⟩ := hq
  obtain ⟨⟨F1, hm1, H1⟩, ⟨f1, t1, u1⟩, ⟨a11, a21, a31, a41, a51, a61, a71, a81⟩, fr1⟩ := id Hh1
  obtain ⟨g01, g11, g21, g31, g41, g51, g61, g71⟩ := id H1
  have hlen1 := g01
  have f_layers1 := (g71 1 (by decide) (by decide) (by decide) (by decide)).trans X.2.2.1
  have f_kind1 := (g71 19 (by decide) (by decide) (by decide) (by decide)).trans X.2.2.2.1
  have f_layerA1 := (g71 20 (by decide) (by decide) (by decide) (by decide)).trans X.2.2.2.2.1
  have f_layerB1 := (g71 21 (by decide) (by decide) (by decide) (by decide)).trans X.2.2.2.2.2.1
  have f_bound1 := (g71 22 (by decide) (by decide) (by decide) (by decide)).trans X.2.2.2.2.2.2.1
  have f_run1 := (g71 23 (by decide) (by decide) (by decide) (by decide)).trans X.2.2.2.2.2.2.2.1
  have f_volt1 := (g71 24 (by decide) (by decide) (by decide) (by decide)).trans X.2.2.2.2.2.2.2.2.1
  have f_end1 := (g71 25 (by decide) (by decide) (by decide) (by decide)).trans X.2.2.2.2.2.2.2.2.2.1
  have f_names1 := (g71 26 (by decide) (by decide) (by decide) (by decide)).trans X.2.2.2.2.2.2.2.2.2.2
  have f_right1 := g41
  refine v_aload_n dX13_readRule_133 rfl 4 rfl ?_
  refine v_ldc2 (v := (1000000000)) (by decide +kernel) dX13_readRule_134 ?_
  refine v_callVq (M' := mX13_number) (n := 1) (As := [_]) (ci := 11) (r := (RX13, TX13, 71)) gX13_readRule_X13_number rfl (by decide +kernel) ⟨(Nat.le_of_ble_eq_true rfl), (Nat.le_of_ble_eq_true rfl)⟩ rfl rfl dX13_readRule_137 rfl ⟨(Nat.le_of_ble_eq_true rfl), (Nat.le_of_ble_eq_true rfl)⟩ (Nat.le_of_ble_eq_true rfl) (by repeat (first | with_reducible assumption | (with_reducible refine sv_us.trans ?_; exact rfl) | with_reducible refine (sv_un (by omega)).trans ?_)) rfl (m_numberH G _ _ _ _ _ _ _ _ X _ _ _ _ _ _ _ _ _ _ Hh1 1000000000 (by rcases e1 with q | q; exact Or.inr q.1; exact Or.inl q.1)) (fun v h1 z1 hq => ?_)
  obtain ⟨rfl, rfl, j2, r2, Hh2, e2⟩ := hq
  obtain ⟨⟨F2, hm2, H2⟩, ⟨f2, t2, u2⟩, ⟨a12, a22, a32, a42, a52, a62, a72, a82⟩, fr2⟩ := id Hh2
  obtain ⟨g02, g12, g22, g32, g42, g52, g62, g72⟩ := id H2
  have hlen2 := g02
  have f_layers2 := (g72 1 (by decide) (by decide) (by decide) (by decide)).trans X.2.2.1
  have f_kind2 := (g72 19 (by decide) (by decide) (by decide) (by decide)).trans X.2.2.2.1
  have f_layerA2 := (g72 20 (by decide) (by decide) (by decide) (by decide)).trans X.2.2.2.2.1
  have f_layerB2 := (g72 21 (by decide) (by decide) (by decide) (by decide)).trans X.2.2.2.2.2.1
  have f_bound2 := (g72 22 (by decide) (by decide) (by decide) (by decide)).trans X.2.2.2.2.2.2.1
  have f_run2 := (g72 23 (by decide) (by decide) (by decide) (by decide)).trans X.2.2.2.2.2.2.2.1
  have f_volt2 := (g72 24 (by decide) (by decide) (by decide) (by decide)).trans X.2.2.2.2.2.2.2.2.1
  have f_end2 := (g72 25 (by decide) (by decide) (by decide) (by decide)).trans X.2.2.2.2.2.2.2.2.2.1
  have f_names2 := (g72 26 (by decide) (by decide) (by decide) (by decide)).trans X.2.2.2.2.2.2.2.2.2.2
  have f_right2 := g42
  refine v_lstore (L' := [(8, _), (7, _), (6, _), (5, _), (2, _), (0, _)]) dX13_readRule_140 (Nat.le_of_ble_eq_true rfl) rfl ?_
  refine v_sub (L' := [(8, _), (7, _), (6, _), (5, _), (2, _), (0, _)]) [0, 1, 2, 3, 4, 5] rfl ?_
  refine t_rF G h0 _ _ b n tp fs ly X j2 r2 gk ga gb gl gr gv ge nm Hh2 nm0 d j0 hd hn0 k a bb _ ?_
  rcases e2 with ⟨s1, s2, s3⟩ | ⟨s1, s2, s3⟩
  · rcases e1 with ⟨p1, p2, p3⟩ | ⟨p1, p2, p3⟩
    · rcases hc with q | q
      · subst p3
        exact Or.inl ⟨s1, q.2.1, q.2.2.1, w_nv n tp (j + 1), (w_nvi s2.2).trans (w_nv64 s2.2.1).symm, by rw [q.2.2.2, rd_tl_p (sv_if1.mp p2.2) s2.2, s3]⟩
      · exact absurd (q.1.symm.trans p2.1) (by decide)
    · exact absurd (p1.symm.trans s2.1) (by decide)
  · refine Or.inr ⟨s1, ?_⟩
    rcases hc with q | q
    · refine Or.inr ⟨q.2.1, ?_⟩
      rw [q.2.2.2, s3]
      rcases e1 with ⟨p1, p2, p3⟩ | ⟨p1, p2, p3⟩
      · rw [p3] at s2 ⊢
        exact rd_tl_n (sv_if1.mp p2.2) (fun y => s2 ⟨p1, y⟩)
      · rw [p3]
        exact rd_tl_0 (fun y => p2 ⟨q.1, sv_if1.mpr y⟩)
    · have e9 : j2 = j := by
        rcases e1 with ⟨p1, p2, p3⟩ | ⟨p1, p2, p3⟩
        · exact absurd (q.1.symm.trans p2.1) (by decide)
        · rw [s3, p3]
      rw [e9]; exact q.2

set_option maxHeartbeats 4000000 in
set_option maxRecDepth 100000 in
theorem t_rD (G : sv_G) (h0 h : sv_h) (z b n : Nat) (tp : Nat → Int32) (fs : List Value) (ly : Int32) (X : mx_ b n tp fs ly) (j : Nat) (r : Int32) (gk ga gb : Nat → Int32) (gl gr gv ge nm : Nat → Int64) (Hh : mh_ G b n tp fs h0 h j r gk ga gb gl gr gv ge nm) (nm0 : Nat → Int64) (d j0 : Nat) (hd : d ≤ 20) (hn0 : ∀ i, i ≠ d → nm i = nm0 i) (k a : Int32) (hc : (r = 1 ∧ d < 20 ∧ nm d = wV n tp j0 ∧ rd_new n tp nm0 d j0 ∧ w_sg n tp 61 (j0 + 1) ∧ k = rd_k n tp (j0 + 2) ∧ ¬ k = -1 ∧ w_nu n tp ly (j0 + 3) ∧ a = w_nv n tp (j0 + 3) ∧ j = j0 + 4) ∨ (r = 0 ∧ mf_ n tp ly nm0 d j0 j)) : V G mX13_readRule (sv_MQ G mX13_readRule (mq_ G b n tp fs ly d j0 h0 z gk ga gb gl gr gv ge nm0)) 92 [(6, .int a), (5, .int k), (2, .int (nI (20 + d))), (0, .ref (b + 220))] [] h z 0 0 := by
  have hr : r = 0 ∨ r = 1 := by
    rcases hc with q | q
    · exact Or.inr q.1
    · exact Or.inl q.1
  obtain ⟨⟨F, hm, H⟩, ⟨f, t, u⟩, ⟨a1, a2, a3, a4, a5, a6, a7, a8⟩, fr⟩ := id Hh
  obtain ⟨g0, g1, g2, g3, g4, g5, g6, g7⟩ := id H
  have hlen := g0
  have f_layers := (g7 1 (by decide) (by decide) (by decide) (by decide)).trans X.2.2.1
  have f_kind := (g7 19 (by decide) (by decide) (by decide) (by decide)).trans X.2.2.2.1
  have f_layerA := (g7 20 (by decide) (by decide) (by decide) (by decide)).trans X.2.2.2.2.1
  have f_layerB := (g7 21 (by decide) (by decide) (by decide) (by decide)).trans X.2.2.2.2.2.1
  have f_bound := (g7 22 (by decide) (by decide) (by decide) (by decide)).trans X.2.2.2.2.2.2.1
  have f_run := (g7 23 (by decide) (by decide) (by decide) (by decide)).trans X.2.2.2.2.2.2.2.1
  have f_volt := (g7 24 (by decide) (by decide) (by decide) (by decide)).trans X.2.2.2.2.2.2.2.2.1
  have f_end := (g7 25 (by decide) (by decide) (by decide) (by decide)).trans X.2.2.2.2.2.2.2.2.2.1
  have f_names := (g7 26 (by decide) (by decide) (by decide) (by decide)).trans X.2.2.2.2.2.2.2.2.2.2
  have f_right := g4
  refine v_aload_n dX13_readRule_92 rfl 3 rfl ?_
  refine v_getf 70 (ci := 11) (C := RX13) (T := TX13) (N := 71) rfl iwX13_readRule_X13 (Nat.le_of_ble_eq_true rfl) (by decide +kernel) dX13_readRule_93 (by repeat (first | with_reducible assumption | (with_reducible refine sv_us.trans ?_; exact rfl) | with_reducible refine (sv_un (by omega)).trans ?_)) (by repeat (first | with_reducible assumption | (with_reducible refine (sv_ls (by first | omega | (simp only [List.length_set]; omega))).trans ?_; exact rfl) | with_reducible refine (List.getElem?_set_ne (by decide)).trans ?_)) ?_
  refine v_if_eq (tgt := 119) dX13_readRule_96 (by decide) (fun c_96 => ?_) (fun c_96 => ?_)
  · refine v_iload dX13_readRule_119 0 rfl ?_
    refine v_sub (L' := [(6, _), (5, _), (2, _), (0, _)]) [0, 1, 2, 3] rfl ?_
    refine t_rEE G h0 _ _ b n tp fs ly X j r gk ga gb gl gr gv ge nm Hh nm0 d j0 hd hn0 k a a ?_
    rcases hc with ⟨y0, y1, y2, y3, y4, y5, y6, y7, y8, y9⟩ | q
    · refine Or.inl ⟨y0, y1, y2, ?_⟩
      have h7 : ¬ 7 ≤ k := by first | exact Int32.not_le.mpr c_103 | exact absurd y0 (by rw [c_96]; decide)
      rw [rd_rl, if_pos y3, if_pos y4, ← y5, if_neg y6, if_pos y7, if_neg h7, ← y8, y9]
    · exact Or.inr q
  · refine v_iload dX13_readRule_99 1 rfl ?_
    refine v_bipush (v := 7) dX13_readRule_101 (by decide) ?_
    refine v_icmp_lt (tgt := 119) dX13_readRule_103 (by decide) (fun c_103 => ?_) (fun c_103 => ?_)
    · refine v_iload dX13_readRule_119 0 rfl ?_
      refine v_sub (L' := [(6, _), (5, _), (2, _), (0, _)]) [0, 1, 2, 3] rfl ?_
      refine t_rEE G h0 _ _ b n tp fs ly X j r gk ga gb gl gr gv ge nm Hh nm0 d j0 hd hn0 k a a ?_
      rcases hc with ⟨y0, y1, y2, y3, y4, y5, y6, y7, y8, y9⟩ | q
      · refine Or.inl ⟨y0, y1, y2, ?_⟩
        have h7 : ¬ 7 ≤ k := by first | exact Int32.not_le.mpr c_103 | exact absurd y0 (by rw [c_96]; decide)
        rw [rd_rl, if_pos y3, if_pos y4, ← y5, if_neg y6, if_pos y7, if_neg h7, ← y8, y9]
      · exact Or.inr q
    · refine v_aload_n dX13_readRule_106 rfl 3 rfl ?_
      refine v_aload_n dX13_readRule_107 rfl 3 rfl ?_
      refine v_getf 1 (ci := 11) (C := RX13) (T := TX13) (N := 71) rfl iwX13_readRule_X13 (Nat.le_of_ble_eq_true rfl) (by decide +kernel) dX13_readRule_108 (by repeat (first | with_reducible assumption | (with_reducible refine sv_us.trans ?_; exact rfl) | with_reducible refine (sv_un (by omega)).trans ?_)) (by repeat (first | with_reducible assumption | (with_reducible refine (sv_ls (by first | omega | (simp only [List.length_set]; omega))).trans ?_; exact rfl) | with_reducible refine (List.getElem?_set_ne (by decide)).trans ?_)) ?_
      refine v_i2l dX13_readRule_111 rfl ?_
      refine v_callVq (M' := mX13_number) (n := 1) (As := [_]) (ci := 11) (r := (RX13, TX13, 71)) gX13_readRule_X13_number rfl (by decide +kernel) ⟨(Nat.le_of_ble_eq_true rfl), (Nat.le_of_ble_eq_true rfl)⟩ rfl rfl dX13_readRule_112 rfl ⟨(Nat.le_of_ble_eq_true rfl), (Nat.le_of_ble_eq_true rfl)⟩ (Nat.le_of_ble_eq_true rfl) (by repeat (first | with_reducible assumption | (with_reducible refine sv_us.trans ?_; exact rfl) | with_reducible refine (sv_un (by omega)).trans ?_)) rfl (m_numberH G _ _ _ _ _ _ _ _ X _ _ _ _ _ _ _ _ _ _ Hh ly hr) (fun v h1 z1 hq => ?_)
      obtain ⟨rfl, rfl, j1, r1, Hh1, e1⟩ := hq
      obtain ⟨⟨F1, hm1, H1⟩, ⟨f1, t1, u1⟩, ⟨a11, a21, a31, a41, a51, a61, a71, a81⟩, fr1⟩ := id Hh1
      obtain ⟨g01, g11, g21, g31, g41, g51, g61, g71⟩ := id H1
      have hlen1 := g01
      have f_layers1 := (g71 1 (by decide) (by decide) (by decide) (by decide)).trans X.2.2.1
      have f_kind1 := (g71 19 (by decide) (by decide) (by decide) (by decide)).trans X.2.2.2.1
      have f_layerA1 := (g71 20 (by decide) (by decide) (by decide) (by decide)).trans X.2.2.2.2.1
      have f_layerB1 := (g71 21 (by decide) (by decide) (by decide) (by decide)).trans X.2.2.2.2.2.1
      have f_bound1 := (g71 22 (by decide) (by decide) (by decide) (by decide)).trans X.2.2.2.2.2.2.1
      have f_run1 := (g71 23 (by decide) (by decide) (by decide) (by decide)).trans X.2.2.2.2.2.2.2.1
      have f_volt1 := (g71 24 (by decide) (by decide) (by decide) (by decide)).trans X.2.2.2.2.2.2.2.2.1
      have f_end1 := (g71 25 (by decide) (by decide) (by decide) (by decide)).trans X.2.2.2.2.2.2.2.2.2.1
      have f_names1 := (g71 26 (by decide) (by decide) (by decide) (by decide)).trans X.2.2.2.2.2.2.2.2.2.2
      have f_right1 := g41
      refine v_l2i dX13_readRule_115 rfl ?_
      refine v_goto (tgt := 121) dX13_readRule_116 (by decide) ?_
      refine v_sub (L' := [(6, _), (5, _), (2, _), (0, _)]) [0, 1, 2, 3] rfl ?_
      refine t_rEE G h0 _ _ b n tp fs ly X j1 r1 gk ga gb gl gr gv ge nm Hh1 nm0 d j0 hd hn0 k a _ ?_
      rcases hc with ⟨y0, y1, y2, y3, y4, y5, y6, y7, y8, y9⟩ | q
      · have h7 : 7 ≤ k := Int32.not_lt.mp c_103
        rcases e1 with ⟨s1, s2, s3⟩ | ⟨s1, s2, s3⟩
        · refine Or.inl ⟨s1, y1, y2, ?_⟩
          rw [y9] at s2 s3 ⊢
          rw [w_nvi s2.2, s3]
          rw [rd_rl, if_pos y3, if_pos y4, ← y5, if_neg y6, if_pos y7, if_pos h7, if_pos s2.2, ← y8]
          rfl
        · refine Or.inr ⟨s1, Or.inr ⟨y1, ?_⟩⟩
          rw [y9] at s2 s3
          rw [s3]
          rw [rd_rl, if_pos y3, if_pos y4, ← y5, if_neg y6, if_pos y7, if_pos h7, if_neg (fun y => s2 ⟨y0, y⟩)]
      · exact absurd q.1 c_96

set_option maxHeartbeats 4000000 in
set_option maxRecDepth 100000 in
theorem t_rC (G : sv_G) (h0 h : sv_h) (z b n : Nat) (tp : Nat → Int32) (fs : List Value) (ly : Int32) (X : mx_ b n tp fs ly) (j : Nat) (r : Int32) (gk ga gb : Nat → Int32) (gl gr gv ge nm : Nat → Int64) (Hh : mh_ G b n tp fs h0 h j r gk ga gb gl gr gv ge nm) (nm0 : Nat → Int64) (d j0 : Nat) (hd : d ≤ 20) (hn0 : ∀ i, i ≠ d → nm i = nm0 i) (k : Int32) (hc : (r = 1 ∧ d < 20 ∧ nm d = wV n tp j0 ∧ rd_new n tp nm0 d j0 ∧ w_sg n tp 61 (j0 + 1) ∧ k = rd_k n tp (j0 + 2) ∧ j = j0 + 2) ∨ (r = 0 ∧ mf_ n tp ly nm0 d j0 j)) : V G mX13_readRule (sv_MQ G mX13_readRule (mq_ G b n tp fs ly d j0 h0 z gk ga gb gl gr gv ge nm0)) 63 [(2, .int (nI (20 + d))), (0, .ref (b + 220))] [.int k] h z 0 0 := by
  have hr : r = 0 ∨ r = 1 := by
    rcases hc with q | q
    · exact Or.inr q.1
    · exact Or.inl q.1
  obtain ⟨⟨F, hm, H⟩, ⟨f, t, u⟩, ⟨a1, a2, a3, a4, a5, a6, a7, a8⟩, fr⟩ := id Hh
  obtain ⟨g0, g1, g2, g3, g4, g5, g6, g7⟩ := id H
  have hlen := g0
  have f_layers := (g7 1 (by decide) (by decide) (by decide) (by decide)).trans X.2.2.1
  have f_kind := (g7 19 (by decide) (by decide) (by decide) (by decide)).trans X.2.2.2.1
  have f_layerA := (g7 20 (by decide) (by decide) (by decide) (by decide)).trans X.2.2.2.2.1
  have f_layerB := (g7 21 (by decide) (by decide) (by decide) (by decide)).trans X.2.2.2.2.2.1
  have f_bound := (g7 22 (by decide) (by decide) (by decide) (by decide)).trans X.2.2.2.2.2.2.1
  have f_run := (g7 23 (by decide) (by decide) (by decide) (by decide)).trans X.2.2.2.2.2.2.2.1
  have f_volt := (g7 24 (by decide) (by decide) (by decide) (by decide)).trans X.2.2.2.2.2.2.2.2.1
  have f_end := (g7 25 (by decide) (by decide) (by decide) (by decide)).trans X.2.2.2.2.2.2.2.2.2.1
  have f_names := (g7 26 (by decide) (by decide) (by decide) (by decide)).trans X.2.2.2.2.2.2.2.2.2.2
  have f_right := g4
  refine v_istore (L' := [(5, _), (2, _), (0, _)]) dX13_readRule_63 (Nat.le_of_ble_eq_true rfl) rfl ?_
  refine v_aload_n dX13_readRule_65 rfl 2 rfl ?_
  refine v_iload dX13_readRule_66 0 rfl ?_
  refine v_iconst (v := (-1)) dX13_readRule_68 (by decide) ?_
  refine v_icmp_eq (tgt := 76) dX13_readRule_69 (by decide) (fun c_69 => ?_) (fun c_69 => ?_)
  · refine v_iconst (v := 0) dX13_readRule_76 (by decide) ?_
    refine v_callVq (M' := mX13_take_) (n := 1) (As := [_]) (ci := 11) (r := (RX13, TX13, 71)) gX13_readRule_X13_take_ rfl (by decide +kernel) ⟨(Nat.le_of_ble_eq_true rfl), (Nat.le_of_ble_eq_true rfl)⟩ rfl rfl dX13_readRule_77 rfl ⟨(Nat.le_of_ble_eq_true rfl), (Nat.le_of_ble_eq_true rfl)⟩ (Nat.le_of_ble_eq_true rfl) (by repeat (first | with_reducible assumption | (with_reducible refine sv_us.trans ?_; exact rfl) | with_reducible refine (sv_un (by omega)).trans ?_)) rfl (m_takeH G _ _ _ _ _ _ _ _ X _ _ _ _ _ _ _ _ _ _ Hh _ hr (by first | exact sv_if01 | exact Or.inl rfl | exact Or.inr rfl)) (fun v h1 z1 hq => ?_)
    obtain ⟨rfl, rfl, j1, r1, Hh1, e1⟩ := hq
    obtain ⟨⟨F1, hm1, H1⟩, ⟨f1, t1, u1⟩, ⟨a11, a21, a31, a41, a51, a61, a71, a81⟩, fr1⟩ := id Hh1
    obtain ⟨g01, g11, g21, g31, g41, g51, g61, g71⟩ := id H1
    have hlen1 := g01
    have f_layers1 := (g71 1 (by decide) (by decide) (by decide) (by decide)).trans X.2.2.1
    have f_kind1 := (g71 19 (by decide) (by decide) (by decide) (by decide)).trans X.2.2.2.1
    have f_layerA1 := (g71 20 (by decide) (by decide) (by decide) (by decide)).trans X.2.2.2.2.1
    have f_layerB1 := (g71 21 (by decide) (by decide) (by decide) (by decide)).trans X.2.2.2.2.2.1
    have f_bound1 := (g71 22 (by decide) (by decide) (by decide) (by decide)).trans X.2.2.2.2.2.2.1
    have f_run1 := (g71 23 (by decide) (by decide) (by decide) (by decide)).trans X.2.2.2.2.2.2.2.1
    have f_volt1 := (g71 24 (by decide) (by decide) (by decide) (by decide)).trans X.2.2.2.2.2.2.2.2.1
    have f_end1 := (g71 25 (by decide) (by decide) (by decide) (by decide)).trans X.2.2.2.2.2.2.2.2.2.1
    have f_names1 := (g71 26 (by decide) (by decide) (by decide) (by decide)).trans X.2.2.2.2.2.2.2.2.2.2
    have f_right1 := g41
    refine v_aload_n dX13_readRule_80 rfl 2 rfl ?_
    refine v_aload_n dX13_readRule_81 rfl 2 rfl ?_
    refine v_getf 1 (ci := 11) (C := RX13) (T := TX13) (N := 71) rfl iwX13_readRule_X13 (Nat.le_of_ble_eq_true rfl) (by decide +kernel) dX13_readRule_82 (by repeat (first | with_reducible assumption | (with_reducible refine sv_us.trans ?_; exact rfl) | with_reducible refine (sv_un (by omega)).trans ?_)) (by repeat (first | with_reducible assumption | (with_reducible refine (sv_ls (by first | omega | (simp only [List.length_set]; omega))).trans ?_; exact rfl) | with_reducible refine (List.getElem?_set_ne (by decide)).trans ?_)) ?_
    refine v_i2l dX13_readRule_85 rfl ?_
    refine v_callVq (M' := mX13_number) (n := 1) (As := [_]) (ci := 11) (r := (RX13, TX13, 71)) gX13_readRule_X13_number rfl (by decide +kernel) ⟨(Nat.le_of_ble_eq_true rfl), (Nat.le_of_ble_eq_true rfl)⟩ rfl rfl dX13_readRule_86 rfl ⟨(Nat.le_of_ble_eq_true rfl), (Nat.le_of_ble_eq_true rfl)⟩ (Nat.le_of_ble_eq_true rfl) (by repeat (first | with_reducible assumption | (with_reducible refine sv_us.trans ?_; exact rfl) | with_reducible refine (sv_un (by omega)).trans ?_)) rfl (m_numberH G _ _ _ _ _ _ _ _ X _ _ _ _ _ _ _ _ _ _ Hh1 ly (by rcases e1 with q | q; exact Or.inr q.1; exact Or.inl q.1)) (fun v h1 z1 hq => ?_)
    obtain ⟨rfl, rfl, j2, r2, Hh2, e2⟩ := hq
    obtain ⟨⟨F2, hm2, H2⟩, ⟨f2, t2, u2⟩, ⟨a12, a22, a32, a42, a52, a62, a72, a82⟩, fr2⟩ := id Hh2
    obtain ⟨g02, g12, g22, g32, g42, g52, g62, g72⟩ := id H2
    have hlen2 := g02
    have f_layers2 := (g72 1 (by decide) (by decide) (by decide) (by decide)).trans X.2.2.1
    have f_kind2 := (g72 19 (by decide) (by decide) (by decide) (by decide)).trans X.2.2.2.1
    have f_layerA2 := (g72 20 (by decide) (by decide) (by decide) (by decide)).trans X.2.2.2.2.1
    have f_layerB2 := (g72 21 (by decide) (by decide) (by decide) (by decide)).trans X.2.2.2.2.2.1
    have f_bound2 := (g72 22 (by decide) (by decide) (by decide) (by decide)).trans X.2.2.2.2.2.2.1
    have f_run2 := (g72 23 (by decide) (by decide) (by decide) (by decide)).trans X.2.2.2.2.2.2.2.1
    have f_volt2 := (g72 24 (by decide) (by decide) (by decide) (by decide)).trans X.2.2.2.2.2.2.2.2.1
    have f_end2 := (g72 25 (by decide) (by decide) (by decide) (by decide)).trans X.2.2.2.2.2.2.2.2.2.1
    have f_names2 := (g72 26 (by decide) (by decide) (by decide) (by decide)).trans X.2.2.2.2.2.2.2.2.2.2
    have f_right2 := g42
    refine v_l2i dX13_readRule_89 rfl ?_
    refine v_istore (L' := [(6, _), (5, _), (2, _), (0, _)]) dX13_readRule_90 (Nat.le_of_ble_eq_true rfl) rfl ?_
    refine v_sub (L' := [(6, _), (5, _), (2, _), (0, _)]) [0, 1, 2, 3] rfl ?_
    refine t_rD G h0 _ _ b n tp fs ly X j2 r2 gk ga gb gl gr gv ge nm Hh2 nm0 d j0 hd hn0 k _ ?_
    have hk9 : r1 = 1 → ¬ k = -1 := by first | exact fun _ => c_69 | exact fun y => (by rcases e1 with ⟨p1, p2, p3⟩ | ⟨p1, p2, p3⟩; exact absurd p2.2 (by decide); exact absurd (p1.symm.trans y) (by decide))
    have hk8 : r = 1 → ¬ r1 = 1 → k = -1 := by first | exact fun _ _ => c_69 | exact fun x y => (by rcases e1 with ⟨p1, p2, p3⟩ | ⟨p1, p2, p3⟩; exact absurd p1 y; exact absurd ⟨x, rfl⟩ p2)
    rcases hc with ⟨y0, y1, y2, y3, y4, y5, y6⟩ | q
    · rcases e2 with ⟨s1, s2, s3⟩ | ⟨s1, s2, s3⟩
      · have hk := hk9 s2.1
        rcases e1 with ⟨p1, p2, p3⟩ | ⟨p1, p2, p3⟩
        · rw [p3, y6] at s2 s3
          refine Or.inl ⟨s1, y1, y2, y3, y4, y5, hk, s2.2, ?_, s3⟩
          rw [p3, y6, w_nvi s2.2]; rfl
        · exact absurd (p1.symm.trans s2.1) (by decide)
      · refine Or.inr ⟨s1, Or.inr ⟨y1, ?_⟩⟩
        rw [s3]
        rcases e1 with ⟨p1, p2, p3⟩ | ⟨p1, p2, p3⟩
        · rw [p3, y6] at s2
          rw [p3, y6, rd_rl, if_pos y3, if_pos y4, ← y5, if_neg (hk9 p1), if_neg (fun y => s2 ⟨p1, y⟩)]
        · rw [p3, y6, rd_rl, if_pos y3, if_pos y4, ← y5, if_pos (hk8 y0 (fun y => absurd (p1.symm.trans y) (by decide)))]
    · rcases e1 with ⟨p1, p2, p3⟩ | ⟨p1, p2, p3⟩
      · exact absurd (q.1.symm.trans p2.1) (by decide)
      · rcases e2 with ⟨s1, s2, s3⟩ | ⟨s1, s2, s3⟩
        · exact absurd (p1.symm.trans s2.1) (by decide)
        · refine Or.inr ⟨s1, ?_⟩
          rw [s3, p3]; exact q.2
  · refine v_iconst (v := 1) dX13_readRule_72 (by decide) ?_
    refine v_goto (tgt := 77) dX13_readRule_73 (by decide) ?_
    refine v_callVq (M' := mX13_take_) (n := 1) (As := [_]) (ci := 11) (r := (RX13, TX13, 71)) gX13_readRule_X13_take_ rfl (by decide +kernel) ⟨(Nat.le_of_ble_eq_true rfl), (Nat.le_of_ble_eq_true rfl)⟩ rfl rfl dX13_readRule_77 rfl ⟨(Nat.le_of_ble_eq_true rfl), (Nat.le_of_ble_eq_true rfl)⟩ (Nat.le_of_ble_eq_true rfl) (by repeat (first | with_reducible assumption | (with_reducible refine sv_us.trans ?_; exact rfl) | with_reducible refine (sv_un (by omega)).trans ?_)) rfl (m_takeH G _ _ _ _ _ _ _ _ X _ _ _ _ _ _ _ _ _ _ Hh _ hr (by first | exact sv_if01 | exact Or.inl rfl | exact Or.inr rfl)) (fun v h1 z1 hq => ?_)
    obtain ⟨rfl, rfl, j1, r1, Hh1, e1⟩ := hq
    obtain ⟨⟨F1, hm1, H1⟩, ⟨f1, t1, u1⟩, ⟨a11, a21, a31, a41, a51, a61, a71, a81⟩, fr1⟩ := id Hh1
    obtain ⟨g01, g11, g21, g31, g41, g51, g61, g71⟩ := id H1
    have hlen1 := g01
    have f_layers1 := (g71 1 (by decide) (by decide) (by decide) (by decide)).trans X.2.2.1
    have f_kind1 := (g71 19 (by decide) (by decide) (by decide) (by decide)).trans X.2.2.2.1
    have f_layerA1 := (g71 20 (by decide) (by decide) (by decide) (by decide)).trans X.2.2.2.2.1
    have f_layerB1 := (g71 21 (by decide) (by decide) (by decide) (by decide)).trans X.2.2.2.2.2.1
    have f_bound1 := (g71 22 (by decide) (by decide) (by decide) (by decide)).trans X.2.2.2.2.2.2.1
    have f_run1 := (g71 23 (by decide) (by decide) (by decide) (by decide)).trans X.2.2.2.2.2.2.2.1
    have f_volt1 := (g71 24 (by decide) (by decide) (by decide) (by decide)).trans X.2.2.2.2.2.2.2.2.1
    have f_end1 := (g71 25 (by decide) (by decide) (by decide) (by decide)).trans X.2.2.2.2.2.2.2.2.2.1
    have f_names1 := (g71 26 (by decide) (by decide) (by decide) (by decide)).trans X.2.2.2.2.2.2.2.2.2.2
    have f_right1 := g41
    refine v_aload_n dX13_readRule_80 rfl 2 rfl ?_
    refine v_aload_n dX13_readRule_81 rfl 2 rfl ?_
    refine v_getf 1 (ci := 11) (C := RX13) (T := TX13) (N := 71) rfl iwX13_readRule_X13 (Nat.le_of_ble_eq_true rfl) (by decide +kernel) dX13_readRule_82 (by repeat (first | with_reducible assumption | (with_reducible refine sv_us.trans ?_; exact rfl) | with_reducible refine (sv_un (by omega)).trans ?_)) (by repeat (first | with_reducible assumption | (with_reducible refine (sv_ls (by first | omega | (simp only [List.length_set]; omega))).trans ?_; exact rfl) | with_reducible refine (List.getElem?_set_ne (by decide)).trans ?_)) ?_
    refine v_i2l dX13_readRule_85 rfl ?_
    refine v_callVq (M' := mX13_number) (n := 1) (As := [_]) (ci := 11) (r := (RX13, TX13, 71)) gX13_readRule_X13_number rfl (by decide +kernel) ⟨(Nat.le_of_ble_eq_true rfl), (Nat.le_of_ble_eq_true rfl)⟩ rfl rfl dX13_readRule_86 rfl ⟨(Nat.le_of_ble_eq_true rfl), (Nat.le_of_ble_eq_true rfl)⟩ (Nat.le_of_ble_eq_true rfl) (by repeat (first | with_reducible assumption | (with_reducible refine sv_us.trans ?_; exact rfl) | with_reducible refine (sv_un (by omega)).trans ?_)) rfl (m_numberH G _ _ _ _ _ _ _ _ X _ _ _ _ _ _ _ _ _ _ Hh1 ly (by rcases e1 with q | q; exact Or.inr q.1; exact Or.inl q.1)) (fun v h1 z1 hq => ?_)
    obtain ⟨rfl, rfl, j2, r2, Hh2, e2⟩ := hq
    obtain ⟨⟨F2, hm2, H2⟩, ⟨f2, t2, u2⟩, ⟨a12, a22, a32, a42, a52, a62, a72, a82⟩, fr2⟩ := id Hh2
    obtain ⟨g02, g12, g22, g32, g42, g52, g62, g72⟩ := id H2
    have hlen2 := g02
    have f_layers2 := (g72 1 (by decide) (by decide) (by decide) (by decide)).trans X.2.2.1
    have f_kind2 := (g72 19 (by decide) (by decide) (by decide) (by decide)).trans X.2.2.2.1
    have f_layerA2 := (g72 20 (by decide) (by decide) (by decide) (by decide)).trans X.2.2.2.2.1
    have f_layerB2 := (g72 21 (by decide) (by decide) (by decide) (by decide)).trans X.2.2.2.2.2.1
    have f_bound2 := (g72 22 (by decide) (by decide) (by decide) (by decide)).trans X.2.2.2.2.2.2.1
    have f_run2 := (g72 23 (by decide) (by decide) (by decide) (by decide)).trans X.2.2.2.2.2.2.2.1
    have f_volt2 := (g72 24 (by decide) (by decide) (by decide) (by decide)).trans X.2.2.2.2.2.2.2.2.1
    have f_end2 := (g72 25 (by decide) (by decide) (by decide) (by decide)).trans X.2.2.2.2.2.2.2.2.2.1
    have f_names2 := (g72 26 (by decide) (by decide) (by decide) (by decide)).trans X.2.2.2.2.2.2.2.2.2.2
    have f_right2 := g42
    refine v_l2i dX13_readRule_89 rfl ?_
    refine v_istore (L' := [(6, _), (5, _), (2, _), (0, _)]) dX13_readRule_90 (Nat.le_of_ble_eq_true rfl) rfl ?_
    refine v_sub (L' := [(6, _), (5, _), (2, _), (0, _)]) [0, 1, 2, 3] rfl ?_
    refine t_rD G h0 _ _ b n tp fs ly X j2 r2 gk ga gb gl gr gv ge nm Hh2 nm0 d j0 hd hn0 k _ ?_
    have hk9 : r1 = 1 → ¬ k = -1 := by first | exact fun _ => c_69 | exact fun y => (by rcases e1 with ⟨p1, p2, p3⟩ | ⟨p1, p2, p3⟩; exact absurd p2.2 (by decide); exact absurd (p1.symm.trans y) (by decide))
    have hk8 : r = 1 → ¬ r1 = 1 → k = -1 := by first | exact fun _ _ => c_69 | exact fun x y => (by rcases e1 with ⟨p1, p2, p3⟩ | ⟨p1, p2, p3⟩; exact absurd p1 y; exact absurd ⟨x, rfl⟩ p2)
    rcases hc with ⟨y0, y1, y2, y3, y4, y5, y6⟩ | q
    · rcases e2 with ⟨s1, s2, s3⟩ | ⟨s1, s2, s3⟩
      · have hk := hk9 s2.1
        rcases e1 with ⟨p1, p2, p3⟩ | ⟨p1, p2, p3⟩
        · rw [p3, y6] at s2 s3
          refine Or.inl ⟨s1, y1, y2, y3, y4, y5, hk, s2.2, ?_, s3⟩
          rw [p3, y6, w_nvi s2.2]; rfl
        · exact absurd (p1.symm.trans s2.1) (by decide)
      · refine Or.inr ⟨s1, Or.inr ⟨y1, ?_⟩⟩
        rw [s3]
        rcases e1 with ⟨p1, p2, p3⟩ | ⟨p1, p2, p3⟩
        · rw [p3, y6] at s2
          rw [p3, y6, rd_rl, if_pos y3, if_pos y4, ← y5, if_neg (hk9 p1), if_neg (fun y => s2 ⟨p1, y⟩)]
        · rw [p3, y6, rd_rl, if_pos y3, if_pos y4, ← y5, if_pos (hk8 y0 (fun y => absurd (p1.symm.trans y) (by decide)))]
    · rcases e1 with ⟨p1, p2, p3⟩ | ⟨p1, p2, p3⟩
      · exact absurd (q.1.symm.trans p2.1) (by decide)
      · rcases e2 with ⟨s1, s2, s3⟩ | ⟨s1, s2, s3⟩
        · exact absurd (p1.symm.trans s2.1) (by decide)
        · refine Or.inr ⟨s1, ?_⟩
          rw [s3, p3]; exact q.2

set_option maxHeartbeats 4000000 in
set_option maxRecDepth 100000 in
theorem t_rB (G : sv_G) (h0 h : sv_h) (z b n : Nat) (tp : Nat → Int32) (fs : List Value) (ly : Int32) (X : mx_ b n tp fs ly) (j : Nat) (r : Int32) (gk ga gb : Nat → Int32) (gl gr gv ge nm : Nat → Int64) (Hh : mh_ G b n tp fs h0 h j r gk ga gb gl gr gv ge nm) (nm0 : Nat → Int64) (d j0 : Nat) (hd : d ≤ 20) (hn0 : ∀ i, i ≠ d → nm i = nm0 i) (hc : (r = 1 ∧ d < 20 ∧ nm d = wV n tp j0 ∧ rd_new n tp nm0 d j0 ∧ j = j0 + 1) ∨ (r = 0 ∧ mf_ n tp ly nm0 d j0 j)) : V G mX13_readRule (sv_MQ G mX13_readRule (mq_ G b n tp fs ly d j0 h0 z gk ga gb gl gr gv ge nm0)) 34 [(2, .int (nI (20 + d))), (0, .ref (b + 220))] [] h z 0 0 := by
  have hr : r = 0 ∨ r = 1 := by
    rcases hc with q | q
    · exact Or.inr q.1
    · exact Or.inl q.1
  obtain ⟨⟨F, hm, H⟩, ⟨f, t, u⟩, ⟨a1, a2, a3, a4, a5, a6, a7, a8⟩, fr⟩ := id Hh
  obtain ⟨g0, g1, g2, g3, g4, g5, g6, g7⟩ := id H
  have hlen := g0
  have f_layers := (g7 1 (by decide) (by decide) (by decide) (by decide)).trans X.2.2.1
  have f_kind := (g7 19 (by decide) (by decide) (by decide) (by decide)).trans X.2.2.2.1
  have f_layerA := (g7 20 (by decide) (by decide) (by decide) (by decide)).trans X.2.2.2.2.1
  have f_layerB := (g7 21 (by decide) (by decide) (by decide) (by decide)).trans X.2.2.2.2.2.1
  have f_bound := (g7 22 (by decide) (by decide) (by decide) (by decide)).trans X.2.2.2.2.2.2.1
  have f_run := (g7 23 (by decide) (by decide) (by decide) (by decide)).trans X.2.2.2.2.2.2.2.1
  have f_volt := (g7 24 (by decide) (by decide) (by decide) (by decide)).trans X.2.2.2.2.2.2.2.2.1
  have f_end := (g7 25 (by decide) (by decide) (by decide) (by decide)).trans X.2.2.2.2.2.2.2.2.2.1
  have f_names := (g7 26 (by decide) (by decide) (by decide) (by decide)).trans X.2.2.2.2.2.2.2.2.2.2
  have f_right := g4
  refine v_aload_n dX13_readRule_34 rfl 1 rfl ?_
  refine v_aload_n dX13_readRule_35 rfl 1 rfl ?_
  refine v_bipush (v := 61) dX13_readRule_36 (by decide) ?_
  refine v_callVq (M' := mX13_is) (n := 1) (As := [_]) (ci := 11) (r := (RX13, TX13, 71)) gX13_readRule_X13_is rfl (by decide +kernel) ⟨(Nat.le_of_ble_eq_true rfl), (Nat.le_of_ble_eq_true rfl)⟩ rfl rfl dX13_readRule_38 rfl ⟨(Nat.le_of_ble_eq_true rfl), (Nat.le_of_ble_eq_true rfl)⟩ (Nat.le_of_ble_eq_true rfl) (by repeat (first | with_reducible assumption | (with_reducible refine sv_us.trans ?_; exact rfl) | with_reducible refine (sv_un (by omega)).trans ?_)) rfl (m_isH G _ _ _ _ _ _ _ _ X _ _ _ _ _ _ _ _ _ _ Hh 61 (by decide)) (fun v h1 z1 hq => v_pq hq ?_)
  refine v_callVq (M' := mX13_take_) (n := 1) (As := [_]) (ci := 11) (r := (RX13, TX13, 71)) gX13_readRule_X13_take_ rfl (by decide +kernel) ⟨(Nat.le_of_ble_eq_true rfl), (Nat.le_of_ble_eq_true rfl)⟩ rfl rfl dX13_readRule_41 rfl ⟨(Nat.le_of_ble_eq_true rfl), (Nat.le_of_ble_eq_true rfl)⟩ (Nat.le_of_ble_eq_true rfl) (by repeat (first | with_reducible assumption | (with_reducible refine sv_us.trans ?_; exact rfl) | with_reducible refine (sv_un (by omega)).trans ?_)) rfl (m_takeH G _ _ _ _ _ _ _ _ X _ _ _ _ _ _ _ _ _ _ Hh _ hr (by first | exact sv_if01 | exact Or.inl rfl | exact Or.inr rfl)) (fun v h1 z1 hq => ?_)
  obtain ⟨rfl, rfl, j1, r1, Hh1, e1⟩ := hq
  obtain ⟨⟨F1, hm1, H1⟩, ⟨f1, t1, u1⟩, ⟨a11, a21, a31, a41, a51, a61, a71, a81⟩, fr1⟩ := id Hh1
  obtain ⟨g01, g11, g21, g31, g41, g51, g61, g71⟩ := id H1
  have hlen1 := g01
  have f_layers1 := (g71 1 (by decide) (by decide) (by decide) (by decide)).trans X.2.2.1
  have f_kind1 := (g71 19 (by decide) (by decide) (by decide) (by decide)).trans X.2.2.2.1
  have f_layerA1 := (g71 20 (by decide) (by decide) (by decide) (by decide)).trans X.2.2.2.2.1
  have f_layerB1 := (g71 21 (by decide) (by decide) (by decide) (by decide)).trans X.2.2.2.2.2.1
  have f_bound1 := (g71 22 (by decide) (by decide) (by decide) (by decide)).trans X.2.2.2.2.2.2.1
  have f_run1 := (g71 23 (by decide) (by decide) (by decide) (by decide)).trans X.2.2.2.2.2.2.2.1
  have f_volt1 := (g71 24 (by decide) (by decide) (by decide) (by decide)).trans X.2.2.2.2.2.2.2.2.1
  have f_end1 := (g71 25 (by decide) (by decide) (by decide) (by decide)).trans X.2.2.2.2.2.2.2.2.2.1
  have f_names1 := (g71 26 (by decide) (by decide) (by decide) (by decide)).trans X.2.2.2.2.2.2.2.2.2.2
  have f_right1 := g41
  refine v_aload_n dX13_readRule_44 rfl 1 rfl ?_
  refine v_getf 70 (ci := 11) (C := RX13) (T := TX13) (N := 71) rfl iwX13_readRule_X13 (Nat.le_of_ble_eq_true rfl) (by decide +kernel) dX13_readRule_45 (by repeat (first | with_reducible assumption | (with_reducible refine sv_us.trans ?_; exact rfl) | with_reducible refine (sv_un (by omega)).trans ?_)) (by repeat (first | with_reducible assumption | (with_reducible refine (sv_ls (by first | omega | (simp only [List.length_set]; omega))).trans ?_; exact rfl) | with_reducible refine (List.getElem?_set_ne (by decide)).trans ?_)) ?_
  refine v_if_eq (tgt := 62) dX13_readRule_48 (by decide) (fun c_48 => ?_) (fun c_48 => ?_)
  · refine v_iconst (v := (-1)) dX13_readRule_62 (by decide) ?_
    refine t_rC G h0 _ _ b n tp fs ly X j1 r1 gk ga gb gl gr gv ge nm Hh1 nm0 d j0 hd hn0 _ ?_
    rcases e1 with ⟨p1, p2, p3⟩ | ⟨p1, p2, p3⟩
    · exact absurd (p1.symm.trans c_48) (by decide)
    · refine Or.inr ⟨p1, ?_⟩
      rw [p3]
      rcases hc with ⟨y0, y1, y2, y3, y4⟩ | q
      · rw [y4] at p2
        refine Or.inr ⟨y1, ?_⟩
        rw [y4, rd_rl, if_pos y3, if_neg (fun y => p2 ⟨y0, sv_if1.mpr y⟩)]
      · exact q.2
  · refine v_aload_n dX13_readRule_51 rfl 1 rfl ?_
    refine v_aload_n dX13_readRule_52 rfl 1 rfl ?_
    refine v_callVq (M' := mX13_name) (n := 0) (As := []) (ci := 11) (r := (RX13, TX13, 71)) gX13_readRule_X13_name rfl (by decide +kernel) ⟨(Nat.le_of_ble_eq_true rfl), (Nat.le_of_ble_eq_true rfl)⟩ rfl rfl dX13_readRule_53 rfl ⟨(Nat.le_of_ble_eq_true rfl), (Nat.le_of_ble_eq_true rfl)⟩ (Nat.le_of_ble_eq_true rfl) (by repeat (first | with_reducible assumption | (with_reducible refine sv_us.trans ?_; exact rfl) | with_reducible refine (sv_un (by omega)).trans ?_)) rfl (m_nameH G _ _ _ _ _ _ _ _ X _ _ _ _ _ _ _ _ _ _ Hh1) (fun v h1 z1 hq => v_pq hq ?_)
    refine v_callVq (M' := mX13_kindOf) (n := 1) (As := [_]) (ci := 11) (r := (RX13, TX13, 71)) gX13_readRule_X13_kindOf rfl (by decide +kernel) ⟨(Nat.le_of_ble_eq_true rfl), (Nat.le_of_ble_eq_true rfl)⟩ rfl rfl dX13_readRule_56 rfl ⟨(Nat.le_of_ble_eq_true rfl), (Nat.le_of_ble_eq_true rfl)⟩ (Nat.le_of_ble_eq_true rfl) (by repeat (first | with_reducible assumption | (with_reducible refine sv_us.trans ?_; exact rfl) | with_reducible refine (sv_un (by omega)).trans ?_)) rfl (m_kindOf G _ _ _ _) (fun v h1 z1 hq => v_pq hq ?_)
    refine v_goto (tgt := 63) dX13_readRule_59 (by decide) ?_
    refine t_rC G h0 _ _ b n tp fs ly X j1 r1 gk ga gb gl gr gv ge nm Hh1 nm0 d j0 hd hn0 _ ?_
    rcases e1 with ⟨p1, p2, p3⟩ | ⟨p1, p2, p3⟩
    · rcases hc with ⟨y0, y1, y2, y3, y4⟩ | q
      · rw [y4] at p2 p3
        exact Or.inl ⟨p1, y1, y2, y3, sv_if1.mp p2.2, by rw [rd_knm, p3], p3⟩
      · exact absurd (q.1.symm.trans p2.1) (by decide)
    · exact absurd p1 c_48

set_option maxHeartbeats 4000000 in
set_option maxRecDepth 100000 in
theorem m_readRule (G : sv_G) (h0 h : sv_h) (z b n : Nat) (tp : Nat → Int32) (fs : List Value) (ly : Int32) (X : mx_ b n tp fs ly) (j : Nat) (r : Int32) (gk ga gb : Nat → Int32) (gl gr gv ge nm : Nat → Int64) (Hh : mh_ G b n tp fs h0 h j r gk ga gb gl gr gv ge nm) (hr1 : r = 1) (d : Nat) (hd : d ≤ 20) : CT G mX13_readRule [.ref (b + 220), .int (nI d)] h z (mq_ G b n tp fs ly d j h0 z gk ga gb gl gr gv ge nm) := by
  refine CT.of (by decide +kernel) rfl rfl (Nat.le_of_ble_eq_true rfl) ?_
  obtain ⟨⟨F, hm, H⟩, ⟨f, t, u⟩, ⟨a1, a2, a3, a4, a5, a6, a7, a8⟩, fr⟩ := id Hh
  obtain ⟨g0, g1, g2, g3, g4, g5, g6, g7⟩ := id H
  have hlen := g0
  have f_layers := (g7 1 (by decide) (by decide) (by decide) (by decide)).trans X.2.2.1
  have f_kind := (g7 19 (by decide) (by decide) (by decide) (by decide)).trans X.2.2.2.1
  have f_layerA := (g7 20 (by decide) (by decide) (by decide) (by decide)).trans X.2.2.2.2.1
  have f_layerB := (g7 21 (by decide) (by decide) (by decide) (by decide)).trans X.2.2.2.2.2.1
  have f_bound := (g7 22 (by decide) (by decide) (by decide) (by decide)).trans X.2.2.2.2.2.2.1
  have f_run := (g7 23 (by decide) (by decide) (by decide) (by decide)).trans X.2.2.2.2.2.2.2.1
  have f_volt := (g7 24 (by decide) (by decide) (by decide) (by decide)).trans X.2.2.2.2.2.2.2.2.1
  have f_end := (g7 25 (by decide) (by decide) (by decide) (by decide)).trans X.2.2.2.2.2.2.2.2.2.1
  have f_names := (g7 26 (by decide) (by decide) (by decide) (by decide)).trans X.2.2.2.2.2.2.2.2.2.2
  have f_right := g4
  refine v_bipush (v := 20) dX13_readRule_0 (by decide) ?_
  refine v_iload_n dX13_readRule_2 rfl 1 rfl ?_
  refine v_iadd dX13_readRule_3 ?_
  rw [show (20 : Int32) + nI d = nI (20 + d) from nI_add 20 d]
  refine v_istore_n (L' := [(2, _), (0, _), (1, _)]) dX13_readRule_4 rfl (Nat.le_of_ble_eq_true rfl) rfl ?_
  refine v_aload_n dX13_readRule_5 rfl 1 rfl ?_
  refine v_callVq (M' := mX13_name) (n := 0) (As := []) (ci := 11) (r := (RX13, TX13, 71)) gX13_readRule_X13_name rfl (by decide +kernel) ⟨(Nat.le_of_ble_eq_true rfl), (Nat.le_of_ble_eq_true rfl)⟩ rfl rfl dX13_readRule_6 rfl ⟨(Nat.le_of_ble_eq_true rfl), (Nat.le_of_ble_eq_true rfl)⟩ (Nat.le_of_ble_eq_true rfl) (by repeat (first | with_reducible assumption | (with_reducible refine sv_us.trans ?_; exact rfl) | with_reducible refine (sv_un (by omega)).trans ?_)) rfl (m_nameH G _ _ _ _ _ _ _ _ X _ _ _ _ _ _ _ _ _ _ Hh) (fun v h1 z1 hq => v_pq hq ?_)
  refine v_lstore_n (L' := [(3, _), (2, _), (0, _), (1, _)]) dX13_readRule_9 rfl (Nat.le_of_ble_eq_true rfl) rfl ?_
  refine v_aload_n dX13_readRule_10 rfl 2 rfl ?_
  refine v_aload_n dX13_readRule_11 rfl 2 rfl ?_
  refine v_lload_n dX13_readRule_12 rfl 0 rfl ?_
  refine v_iload_n dX13_readRule_13 rfl 3 rfl ?_
  refine v_callVq (M' := mX13_isNew) (n := 2) (As := [_, _]) (ci := 11) (r := (RX13, TX13, 71)) gX13_readRule_X13_isNew rfl (by decide +kernel) ⟨(Nat.le_of_ble_eq_true rfl), (Nat.le_of_ble_eq_true rfl)⟩ rfl rfl dX13_readRule_14 rfl ⟨(Nat.le_of_ble_eq_true rfl), (Nat.le_of_ble_eq_true rfl)⟩ (Nat.le_of_ble_eq_true rfl) (by repeat (first | with_reducible assumption | (with_reducible refine sv_us.trans ?_; exact rfl) | with_reducible refine (sv_un (by omega)).trans ?_)) rfl (m_isNewH G _ _ _ _ _ _ _ _ X _ _ _ _ _ _ _ _ _ _ Hh d hd) (fun v h1 z1 hq => v_pq hq ?_)
  refine v_callVq (M' := mX13_take_) (n := 1) (As := [_]) (ci := 11) (r := (RX13, TX13, 71)) gX13_readRule_X13_take_ rfl (by decide +kernel) ⟨(Nat.le_of_ble_eq_true rfl), (Nat.le_of_ble_eq_true rfl)⟩ rfl rfl dX13_readRule_17 rfl ⟨(Nat.le_of_ble_eq_true rfl), (Nat.le_of_ble_eq_true rfl)⟩ (Nat.le_of_ble_eq_true rfl) (by repeat (first | with_reducible assumption | (with_reducible refine sv_us.trans ?_; exact rfl) | with_reducible refine (sv_un (by omega)).trans ?_)) rfl (m_takeH G _ _ _ _ _ _ _ _ X _ _ _ _ _ _ _ _ _ _ Hh _ (Or.inr hr1) (by first | exact sv_if01 | exact Or.inl rfl | exact Or.inr rfl)) (fun v h1 z1 hq => ?_)
  obtain ⟨rfl, rfl, j1, r1, Hh1, e1⟩ := hq
  obtain ⟨⟨F1, hm1, H1⟩, ⟨f1, t1, u1⟩, ⟨a11, a21, a31, a41, a51, a61, a71, a81⟩, fr1⟩ := id Hh1
  obtain ⟨g01, g11, g21, g31, g41, g51, g61, g71⟩ := id H1
  have hlen1 := g01
  have f_layers1 := (g71 1 (by decide) (by decide) (by decide) (by decide)).trans X.2.2.1
  have f_kind1 := (g71 19 (by decide) (by decide) (by decide) (by decide)).trans X.2.2.2.1
  have f_layerA1 := (g71 20 (by decide) (by decide) (by decide) (by decide)).trans X.2.2.2.2.1
  have f_layerB1 := (g71 21 (by decide) (by decide) (by decide) (by decide)).trans X.2.2.2.2.2.1
  have f_bound1 := (g71 22 (by decide) (by decide) (by decide) (by decide)).trans X.2.2.2.2.2.2.1
  have f_run1 := (g71 23 (by decide) (by decide) (by decide) (by decide)).trans X.2.2.2.2.2.2.2.1
  have f_volt1 := (g71 24 (by decide) (by decide) (by decide) (by decide)).trans X.2.2.2.2.2.2.2.2.1
  have f_end1 := (g71 25 (by decide) (by decide) (by decide) (by decide)).trans X.2.2.2.2.2.2.2.2.2.1
  have f_names1 := (g71 26 (by decide) (by decide) (by decide) (by decide)).trans X.2.2.2.2.2.2.2.2.2.2
  have f_right1 := g41
  refine v_aload_n dX13_readRule_20 rfl 2 rfl ?_
  refine v_getf 70 (ci := 11) (C := RX13) (T := TX13) (N := 71) rfl iwX13_readRule_X13 (Nat.le_of_ble_eq_true rfl) (by decide +kernel) dX13_readRule_21 (by repeat (first | with_reducible assumption | (with_reducible refine sv_us.trans ?_; exact rfl) | with_reducible refine (sv_un (by omega)).trans ?_)) (by repeat (first | with_reducible assumption | (with_reducible refine (sv_ls (by first | omega | (simp only [List.length_set]; omega))).trans ?_; exact rfl) | with_reducible refine (List.getElem?_set_ne (by decide)).trans ?_)) ?_
  refine v_if_eq (tgt := 34) dX13_readRule_24 (by decide) (fun c_24 => ?_) (fun c_24 => ?_)
  · refine v_sub (L' := [(2, _), (0, _)]) [1, 2] rfl ?_
    rcases e1 with ⟨p1, p2, p3⟩ | ⟨p1, p2, p3⟩
    · exact absurd (p1.symm.trans c_24) (by decide)
    · refine t_rB G h0 _ _ b n tp fs ly X j1 r1 gk ga gb gl gr gv ge nm Hh1 nm d j hd (fun i hi => rfl) (Or.inr ⟨p1, ?_⟩)
      rw [p3]
      by_cases e9 : d = 20
      · exact Or.inl ⟨e9, rfl⟩
      · exact Or.inr ⟨by omega, by rw [rd_rl, if_neg (fun y => p2 ⟨hr1, sv_if1.mpr ⟨by omega, y⟩⟩)]⟩
  · refine v_aload_n dX13_readRule_27 rfl 2 rfl ?_
    refine v_getf 26 (ci := 11) (C := RX13) (T := TX13) (N := 71) rfl iwX13_readRule_X13 (Nat.le_of_ble_eq_true rfl) (by decide +kernel) dX13_readRule_28 (by repeat (first | with_reducible assumption | (with_reducible refine sv_us.trans ?_; exact rfl) | with_reducible refine (sv_un (by omega)).trans ?_)) (by repeat (first | with_reducible assumption | (with_reducible refine (sv_ls (by first | omega | (simp only [List.length_set]; omega))).trans ?_; exact rfl) | with_reducible refine (List.getElem?_set_ne (by decide)).trans ?_)) ?_
    refine v_iload_n dX13_readRule_31 rfl 3 rfl ?_
    refine v_lload_n dX13_readRule_32 rfl 0 rfl ?_
    refine v_last dX13_readRule_33 (by repeat (first | with_reducible assumption | (with_reducible refine sv_us.trans ?_; exact rfl) | with_reducible refine (sv_un (by omega)).trans ?_)) (vp_in_nI (by rcases e1 with q | q; exact (sv_if1.mp q.2.1.2).1; exact absurd q.1 c_24) (by omega)) ?_
    refine v_sub (L' := [(2, _), (0, _)]) [1, 2] rfl ?_
    have ecl : (nI d).toNatClampNeg = d := nI_clamp (by omega)
    rw [ecl]
    rcases e1 with ⟨p1, p2, p3⟩ | ⟨p1, p2, p3⟩
    · have y := sv_if1.mp p2.2
      rw [if_pos y.2.1]
      refine t_rB G h0 _ _ b n tp fs ly X j1 r1 gk ga gb gl gr gv ge (vp_updL nm d (wV n tp j)) (Hh1.arr ⟨(sv_un (by omega)).trans a11, (sv_un (by omega)).trans a21, (sv_un (by omega)).trans a31, (sv_un (by omega)).trans a41, (sv_un (by omega)).trans a51, (sv_un (by omega)).trans a61, (sv_un (by omega)).trans a71, sv_us⟩ (fun w q => sv_un (by omega))) nm d j hd (fun i hi => pk_uLn hi) (Or.inl ⟨p1, y.1, pk_uLs, y.2, p3⟩)
    · exact absurd p1 c_24

