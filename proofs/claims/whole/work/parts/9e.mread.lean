set_option maxHeartbeats 4000000 in
set_option maxRecDepth 100000 in
theorem m_nextF (G : sv_G) (h : sv_h) (z b n : Nat) (fs : List Value) (f tp : Nat → Int32) (wd : Int32) (ht2 : ab_I G h (b + 232) 600 f) (htp : ∀ i, i < n → f i = tp i) (hn : n ≤ 600) (p : Nat) (hp : p ≤ n) (hlen : fs.length = 71) (hmo : h (b + 220) = some (.inr (11, fs))) (f_word : fs[69]? = some (.int wd)) (f_to : fs[68]? = some (.int (nI p))) (f_length : fs[17]? = some (.int (nI n))) (f_tape : fs[16]? = some (.ref (b + 232))) : CT G mX13_next [.ref (b + 220)] h z (fun v h1 z1 => v = none ∧ z1 = z ∧ (∃ (a e : Nat) (F : List Value), lx_T n tp p a e ∧ h1 (b + 220) = some (.inr (11, F)) ∧ F.length = 71 ∧ F[69]? = some (.int (wd + 1)) ∧ F[67]? = some (.int (nI a)) ∧ F[68]? = some (.int (nI e)) ∧ F[17]? = some (.int (nI n)) ∧ F[16]? = some (.ref (b + 232)) ∧ (∀ i, i ≠ 69 → i ≠ 67 → i ≠ 68 → F[i]? = fs[i]?)) ∧ ∀ w, w ≠ b + 220 → h1 w = h w) := by
  refine CT.of (by decide +kernel) rfl rfl (Nat.le_of_ble_eq_true rfl) ?_
  refine v_aload_n dX13_next_0 rfl 0 rfl ?_
  refine v_dup dX13_next_1 rfl ?_
  refine v_getf 69 (ci := 11) (C := RX13) (T := TX13) (N := 71) rfl iwX13_next_X13 (Nat.le_of_ble_eq_true rfl) (by decide +kernel) dX13_next_2 (by repeat (first | with_reducible assumption | (with_reducible refine sv_us.trans ?_; exact rfl))) (by repeat (first | with_reducible assumption | (with_reducible refine (sv_ls (by first | omega | (simp only [List.length_set]; omega))).trans ?_; exact rfl) | with_reducible refine (List.getElem?_set_ne (by decide)).trans ?_)) ?_
  refine v_iconst (v := 1) dX13_next_5 (by decide) ?_
  refine v_iadd dX13_next_6 ?_
  refine v_putf 69 (fs' := _) (ci := 11) (C := RX13) (T := TX13) (N := 71) (ty := .int) rfl iwX13_next_X13 tyX13 tyX13_ok nmX13 (Nat.le_of_ble_eq_true rfl) (by decide +kernel) rfl rfl dX13_next_7 rfl rfl (by repeat (first | with_reducible assumption | (with_reducible refine sv_us.trans ?_; exact rfl))) (by first | omega | (simp only [List.length_set]; omega)) rfl ?_
  refine v_aload_n dX13_next_10 rfl 0 rfl ?_
  refine v_aload_n dX13_next_11 rfl 0 rfl ?_
  refine v_getf 68 (ci := 11) (C := RX13) (T := TX13) (N := 71) rfl iwX13_next_X13 (Nat.le_of_ble_eq_true rfl) (by decide +kernel) dX13_next_12 (by repeat (first | with_reducible assumption | (with_reducible refine sv_us.trans ?_; exact rfl))) (by repeat (first | with_reducible assumption | (with_reducible refine (sv_ls (by first | omega | (simp only [List.length_set]; omega))).trans ?_; exact rfl) | with_reducible refine (List.getElem?_set_ne (by decide)).trans ?_)) ?_
  refine v_putf 67 (fs' := _) (ci := 11) (C := RX13) (T := TX13) (N := 71) (ty := .int) rfl iwX13_next_X13 tyX13 tyX13_ok nmX13 (Nat.le_of_ble_eq_true rfl) (by decide +kernel) rfl rfl dX13_next_15 rfl rfl (by repeat (first | with_reducible assumption | (with_reducible refine sv_us.trans ?_; exact rfl))) (by first | omega | (simp only [List.length_set]; omega)) rfl ?_
  refine v_sub (L' := [(0, _)]) [0] rfl ?_
  refine l_next1 G h z b n fs f tp (wd + 1) ht2 htp hn p hp (nI p) (n - p) 0 _ _ (by omega) (fun i h1 h2 => absurd h2 (by omega)) sv_us ?_ (fun w q => (sv_un q).trans (sv_un q))
  exact ⟨by simp only [List.length_set]; exact hlen, (List.getElem?_set_ne (by decide)).trans (sv_ls (by omega)), sv_ls (by simp only [List.length_set]; omega), (List.getElem?_set_ne (by decide)).trans ((List.getElem?_set_ne (by decide)).trans f_to), (List.getElem?_set_ne (by decide)).trans ((List.getElem?_set_ne (by decide)).trans f_length), (List.getElem?_set_ne (by decide)).trans ((List.getElem?_set_ne (by decide)).trans f_tape), fun i q1 q2 q3 => (List.getElem?_set_ne (fun q => q2 q.symm)).trans (List.getElem?_set_ne (fun q => q1 q.symm))⟩
theorem ab_fs.agree {b : Nat} {k : Int32} {nc np pl tn nr nl : Nat} {lq lf : Int32} {nw : Nat} {fs F : List Value} (H : ab_fs b k nc np pl tn nr nl lq lf nw fs) (hl : F.length = 71) (e : ∀ i, i ≠ 69 → i ≠ 67 → i ≠ 68 → i ≠ 70 → F[i]? = fs[i]?) : ab_fs b k nc np pl tn nr nl lq lf nw F := by
  obtain ⟨h0, ⟨r58, h1⟩, h2, h3, h4, h5, h6, h7, h8, h9, h10, h11, h12, h13, h14, h15, h16, h17, h18, h19, h20, h21, h22, h23, h24, h25, h26, h27, h28, h29, h30, h31, h32, h33, h34, h35, h36, h37, h38, h39, h40, h41, h42, h43, h44, h45, h46, h47, h48, h49, h50, h51⟩ := H
  exact ⟨hl, ⟨r58, (e 58 (by decide) (by decide) (by decide) (by decide)).trans h1⟩, (e 1 (by decide) (by decide) (by decide) (by decide)).trans h2, (e 2 (by decide) (by decide) (by decide) (by decide)).trans h3, (e 3 (by decide) (by decide) (by decide) (by decide)).trans h4, (e 4 (by decide) (by decide) (by decide) (by decide)).trans h5, (e 5 (by decide) (by decide) (by decide) (by decide)).trans h6, (e 6 (by decide) (by decide) (by decide) (by decide)).trans h7, (e 7 (by decide) (by decide) (by decide) (by decide)).trans h8, (e 8 (by decide) (by decide) (by decide) (by decide)).trans h9, (e 9 (by decide) (by decide) (by decide) (by decide)).trans h10, (e 10 (by decide) (by decide) (by decide) (by decide)).trans h11, (e 11 (by decide) (by decide) (by decide) (by decide)).trans h12, (e 12 (by decide) (by decide) (by decide) (by decide)).trans h13, (e 13 (by decide) (by decide) (by decide) (by decide)).trans h14, (e 14 (by decide) (by decide) (by decide) (by decide)).trans h15, (e 15 (by decide) (by decide) (by decide) (by decide)).trans h16, (e 16 (by decide) (by decide) (by decide) (by decide)).trans h17, (e 17 (by decide) (by decide) (by decide) (by decide)).trans h18, (e 18 (by decide) (by decide) (by decide) (by decide)).trans h19, (e 19 (by decide) (by decide) (by decide) (by decide)).trans h20, (e 20 (by decide) (by decide) (by decide) (by decide)).trans h21, (e 21 (by decide) (by decide) (by decide) (by decide)).trans h22, (e 22 (by decide) (by decide) (by decide) (by decide)).trans h23, (e 23 (by decide) (by decide) (by decide) (by decide)).trans h24, (e 24 (by decide) (by decide) (by decide) (by decide)).trans h25, (e 25 (by decide) (by decide) (by decide) (by decide)).trans h26, (e 26 (by decide) (by decide) (by decide) (by decide)).trans h27, (e 27 (by decide) (by decide) (by decide) (by decide)).trans h28, (e 30 (by decide) (by decide) (by decide) (by decide)).trans h29, (e 31 (by decide) (by decide) (by decide) (by decide)).trans h30, (e 32 (by decide) (by decide) (by decide) (by decide)).trans h31, (e 33 (by decide) (by decide) (by decide) (by decide)).trans h32, (e 34 (by decide) (by decide) (by decide) (by decide)).trans h33, (e 35 (by decide) (by decide) (by decide) (by decide)).trans h34, (e 37 (by decide) (by decide) (by decide) (by decide)).trans h35, (e 38 (by decide) (by decide) (by decide) (by decide)).trans h36, (e 39 (by decide) (by decide) (by decide) (by decide)).trans h37, (e 40 (by decide) (by decide) (by decide) (by decide)).trans h38, (e 42 (by decide) (by decide) (by decide) (by decide)).trans h39, (e 43 (by decide) (by decide) (by decide) (by decide)).trans h40, (e 44 (by decide) (by decide) (by decide) (by decide)).trans h41, (e 45 (by decide) (by decide) (by decide) (by decide)).trans h42, (e 46 (by decide) (by decide) (by decide) (by decide)).trans h43, (e 47 (by decide) (by decide) (by decide) (by decide)).trans h44, (e 48 (by decide) (by decide) (by decide) (by decide)).trans h45, (e 49 (by decide) (by decide) (by decide) (by decide)).trans h46, (e 50 (by decide) (by decide) (by decide) (by decide)).trans h47, (e 51 (by decide) (by decide) (by decide) (by decide)).trans h48, (e 63 (by decide) (by decide) (by decide) (by decide)).trans h49, (e 65 (by decide) (by decide) (by decide) (by decide)).trans h50, (e 66 (by decide) (by decide) (by decide) (by decide)).trans h51⟩
theorem ab_fs.mx {b n : Nat} {tp : Nat → Int32} {k : Int32} {nc np pl nr nl : Nat} {lq lf : Int32} {nw : Nat} {fs : List Value} (H : ab_fs b k nc np pl n nr nl lq lf nw fs) (hn : n ≤ 600) (hok : ∀ i, i < n → tp i = 10 ∨ (32 ≤ tp i ∧ tp i ≤ 126)) : mx_ b n tp fs k := ⟨hn, hok, H.f_layers, H.f_kind, H.f_layerA, H.f_layerB, H.f_bound, H.f_run, H.f_volt, H.f_end, H.f_names⟩
theorem rd_rl_c {n : Nat} {tp : Nat → Int32} {ly : Int32} {nm nm' : Nat → Int64} {d j : Nat} (e : ∀ i, i < d → nm i = nm' i) : rd_rl n tp ly nm d j = rd_rl n tp ly nm' d j := by
  by_cases c : rd_new n tp nm d j
  · have c' : rd_new n tp nm' d j := ⟨c.1, fun i hi => by rw [← e i hi]; exact c.2 i hi⟩
    rw [rd_rl, rd_rl, if_pos c, if_pos c']
  · have c' : ¬ rd_new n tp nm' d j := fun q => c ⟨q.1, fun i hi => by rw [e i hi]; exact q.2 i hi⟩
    rw [rd_rl, rd_rl, if_neg c, if_neg c']
/-- copied from behind, q of them -/
def cq_ {α : Type} (q : Nat) (a g : Nat → α) : Prop := (∀ i, i < q → a i = g (20 + i)) ∧ ∀ i, 20 ≤ i → a i = g i
theorem cq_.sI {q : Nat} {a g : Nat → Int32} (H : cq_ q a g) (hq : q < 20) : cq_ (q + 1) (upd a q (a (20 + q))) g := by
  refine ⟨fun i hi => ?_, fun i hi => ?_⟩
  · by_cases e : i = q
    · rw [e]; exact (if_pos rfl).trans (H.2 _ (by omega))
    · exact (if_neg e).trans (H.1 i (by omega))
  · exact (if_neg (by omega)).trans (H.2 i hi)
theorem cq_.sJ {q : Nat} {a g : Nat → Int64} (H : cq_ q a g) (hq : q < 20) : cq_ (q + 1) (vp_updL a q (a (20 + q))) g := by
  refine ⟨fun i hi => ?_, fun i hi => ?_⟩
  · by_cases e : i = q
    · rw [e]; exact pk_uLs.trans (H.2 _ (by omega))
    · exact (pk_uLn e).trans (H.1 i (by omega))
  · exact (pk_uLn (by omega)).trans (H.2 i hi)
theorem cq_.z {α : Type} {g : Nat → α} : cq_ 0 g g := ⟨fun i hi => absurd hi (Nat.not_lt_zero i), fun _ _ => rfl⟩
set_option maxHeartbeats 4000000 in
set_option maxRecDepth 100000 in
theorem l_mcopy (G : sv_G) (Qr : Option Value → sv_h → Nat → Prop) (h0 : sv_h) (z b : Nat) (F : List Value) (hlen : F.length = 71) (f_kind : F[19]? = some (.ref (b + 233))) (f_layerA : F[20]? = some (.ref (b + 234))) (f_layerB : F[21]? = some (.ref (b + 235))) (f_bound : F[22]? = some (.ref (b + 236))) (f_run : F[23]? = some (.ref (b + 237))) (f_volt : F[24]? = some (.ref (b + 238))) (f_end : F[25]? = some (.ref (b + 239))) (d : Nat) (hd : d ≤ 20) (nm : Nat → Int64) (gk ga gb : Nat → Int32) (gl gr gv ge : Nat → Int64) (hk : ∀ (h1 : sv_h) (ak aa ab : Nat → Int32) (al ar av ae : Nat → Int64), h1 (b + 220) = some (.inr (11, F)) → ma_ G h1 b ak aa ab al ar av ae nm → cq_ d ak gk ∧ cq_ d aa ga ∧ cq_ d ab gb ∧ cq_ d al gl ∧ cq_ d ar gr ∧ cq_ d av gv ∧ cq_ d ae ge → (∀ w, ¬ (b + 233 ≤ w ∧ w ≤ b + 239) → h1 w = h0 w) → V G mX13_read (sv_MQ G mX13_read Qr) 209 [(1, .int (nI d)), (0, .ref (b + 220))] [] h1 z 0 0) : ∀ (c q : Nat) (h : sv_h) (ak aa ab : Nat → Int32) (al ar av ae : Nat → Int64), q + c = d → h (b + 220) = some (.inr (11, F)) → ma_ G h b ak aa ab al ar av ae nm → cq_ q ak gk ∧ cq_ q aa ga ∧ cq_ q ab gb ∧ cq_ q al gl ∧ cq_ q ar gr ∧ cq_ q av gv ∧ cq_ q ae ge → (∀ w, ¬ (b + 233 ≤ w ∧ w ≤ b + 239) → h w = h0 w) → V G mX13_read (sv_MQ G mX13_read Qr) 93 [(3, .int (nI q)), (1, .int (nI d)), (0, .ref (b + 220))] [] h z 0 0 := by
  intro c
  induction c with
  | zero =>
    intro q h ak aa ab al ar av ae hqc hm A Q fr
    obtain ⟨a1, a2, a3, a4, a5, a6, a7, a8⟩ := id A
    obtain ⟨q1, q2, q3, q4, q5, q6, q7⟩ := Q
    refine v_iload_n dX13_read_93 rfl 0 rfl ?_
    refine v_iload_n dX13_read_94 rfl 1 rfl ?_
    refine v_icmp_ge (tgt := 209) dX13_read_95 (by decide) (fun c_95 => ?_) (fun c_95 => ?_)
    · refine v_sub (L' := [(1, _), (0, _)]) [1, 2] rfl ?_
      have e : q = d := by omega
      subst e
      exact hk h ak aa ab al ar av ae hm A ⟨q1, q2, q3, q4, q5, q6, q7⟩ fr
    · exact absurd (nI_le (show d ≤ q by omega) (by omega)) c_95
  | succ c ih =>
    intro q h ak aa ab al ar av ae hqc hm A Q fr
    obtain ⟨a1, a2, a3, a4, a5, a6, a7, a8⟩ := id A
    obtain ⟨q1, q2, q3, q4, q5, q6, q7⟩ := Q
    refine v_iload_n dX13_read_93 rfl 0 rfl ?_
    refine v_iload_n dX13_read_94 rfl 1 rfl ?_
    refine v_icmp_ge (tgt := 209) dX13_read_95 (by decide) (fun c_95 => ?_) (fun c_95 => ?_)
    · exact absurd c_95 (nI_ge (by omega) (by omega))
    · refine v_aload_n dX13_read_98 rfl 2 rfl ?_
      refine v_getf 19 (ci := 11) (C := RX13) (T := TX13) (N := 71) rfl iwX13_read_X13 (Nat.le_of_ble_eq_true rfl) (by decide +kernel) dX13_read_99 (by repeat (first | with_reducible assumption | (with_reducible refine sv_us.trans ?_; exact rfl) | with_reducible refine (sv_un (by omega)).trans ?_)) (by repeat (first | with_reducible assumption | (with_reducible refine (sv_ls (by first | omega | (simp only [List.length_set]; omega))).trans ?_; exact rfl) | with_reducible refine (List.getElem?_set_ne (by decide)).trans ?_)) ?_
      refine v_iload_n dX13_read_102 rfl 0 rfl ?_
      refine v_aload_n dX13_read_103 rfl 2 rfl ?_
      refine v_getf 19 (ci := 11) (C := RX13) (T := TX13) (N := 71) rfl iwX13_read_X13 (Nat.le_of_ble_eq_true rfl) (by decide +kernel) dX13_read_104 (by repeat (first | with_reducible assumption | (with_reducible refine sv_us.trans ?_; exact rfl) | with_reducible refine (sv_un (by omega)).trans ?_)) (by repeat (first | with_reducible assumption | (with_reducible refine (sv_ls (by first | omega | (simp only [List.length_set]; omega))).trans ?_; exact rfl) | with_reducible refine (List.getElem?_set_ne (by decide)).trans ?_)) ?_
      refine v_bipush (v := 20) dX13_read_107 (by decide) ?_
      refine v_iload_n dX13_read_109 rfl 0 rfl ?_
      refine v_iadd dX13_read_110 ?_
      rw [show (20 : Int32) + nI q = nI (20 + q) from nI_add 20 q]
      refine v_ialdS (v := ak (20 + q)) dX13_read_111 (by repeat (first | with_reducible assumption | (with_reducible refine sv_us.trans ?_; exact rfl) | with_reducible refine (sv_un (by omega)).trans ?_)) (vp_in_nI (by omega) (by omega)) (by rw [nI_clamp (by omega)]) ?_
      refine v_iast dX13_read_112 (by repeat (first | with_reducible assumption | (with_reducible refine sv_us.trans ?_; exact rfl) | with_reducible refine (sv_un (by omega)).trans ?_)) (vp_in_nI (by omega) (by omega)) ?_
      refine v_aload_n dX13_read_113 rfl 2 rfl ?_
      refine v_getf 20 (ci := 11) (C := RX13) (T := TX13) (N := 71) rfl iwX13_read_X13 (Nat.le_of_ble_eq_true rfl) (by decide +kernel) dX13_read_114 (by repeat (first | with_reducible assumption | (with_reducible refine sv_us.trans ?_; exact rfl) | with_reducible refine (sv_un (by omega)).trans ?_)) (by repeat (first | with_reducible assumption | (with_reducible refine (sv_ls (by first | omega | (simp only [List.length_set]; omega))).trans ?_; exact rfl) | with_reducible refine (List.getElem?_set_ne (by decide)).trans ?_)) ?_
      refine v_iload_n dX13_read_117 rfl 0 rfl ?_
      refine v_aload_n dX13_read_118 rfl 2 rfl ?_
      refine v_getf 20 (ci := 11) (C := RX13) (T := TX13) (N := 71) rfl iwX13_read_X13 (Nat.le_of_ble_eq_true rfl) (by decide +kernel) dX13_read_119 (by repeat (first | with_reducible assumption | (with_reducible refine sv_us.trans ?_; exact rfl) | with_reducible refine (sv_un (by omega)).trans ?_)) (by repeat (first | with_reducible assumption | (with_reducible refine (sv_ls (by first | omega | (simp only [List.length_set]; omega))).trans ?_; exact rfl) | with_reducible refine (List.getElem?_set_ne (by decide)).trans ?_)) ?_
      refine v_bipush (v := 20) dX13_read_122 (by decide) ?_
      refine v_iload_n dX13_read_124 rfl 0 rfl ?_
      refine v_iadd dX13_read_125 ?_
      rw [show (20 : Int32) + nI q = nI (20 + q) from nI_add 20 q]
      refine v_ialdS (v := aa (20 + q)) dX13_read_126 (by repeat (first | with_reducible assumption | (with_reducible refine sv_us.trans ?_; exact rfl) | with_reducible refine (sv_un (by omega)).trans ?_)) (vp_in_nI (by omega) (by omega)) (by rw [nI_clamp (by omega)]) ?_
      refine v_iast dX13_read_127 (by repeat (first | with_reducible assumption | (with_reducible refine sv_us.trans ?_; exact rfl) | with_reducible refine (sv_un (by omega)).trans ?_)) (vp_in_nI (by omega) (by omega)) ?_
      refine v_aload_n dX13_read_128 rfl 2 rfl ?_
      refine v_getf 21 (ci := 11) (C := RX13) (T := TX13) (N := 71) rfl iwX13_read_X13 (Nat.le_of_ble_eq_true rfl) (by decide +kernel) dX13_read_129 (by repeat (first | with_reducible assumption | (with_reducible refine sv_us.trans ?_; exact rfl) | with_reducible refine (sv_un (by omega)).trans ?_)) (by repeat (first | with_reducible assumption | (with_reducible refine (sv_ls (by first | omega | (simp only [List.length_set]; omega))).trans ?_; exact rfl) | with_reducible refine (List.getElem?_set_ne (by decide)).trans ?_)) ?_
      refine v_iload_n dX13_read_132 rfl 0 rfl ?_
      refine v_aload_n dX13_read_133 rfl 2 rfl ?_
      refine v_getf 21 (ci := 11) (C := RX13) (T := TX13) (N := 71) rfl iwX13_read_X13 (Nat.le_of_ble_eq_true rfl) (by decide +kernel) dX13_read_134 (by repeat (first | with_reducible assumption | (with_reducible refine sv_us.trans ?_; exact rfl) | with_reducible refine (sv_un (by omega)).trans ?_)) (by repeat (first | with_reducible assumption | (with_reducible refine (sv_ls (by first | omega | (simp only [List.length_set]; omega))).trans ?_; exact rfl) | with_reducible refine (List.getElem?_set_ne (by decide)).trans ?_)) ?_
      refine v_bipush (v := 20) dX13_read_137 (by decide) ?_
      refine v_iload_n dX13_read_139 rfl 0 rfl ?_
      refine v_iadd dX13_read_140 ?_
      rw [show (20 : Int32) + nI q = nI (20 + q) from nI_add 20 q]
      refine v_ialdS (v := ab (20 + q)) dX13_read_141 (by repeat (first | with_reducible assumption | (with_reducible refine sv_us.trans ?_; exact rfl) | with_reducible refine (sv_un (by omega)).trans ?_)) (vp_in_nI (by omega) (by omega)) (by rw [nI_clamp (by omega)]) ?_
      refine v_iast dX13_read_142 (by repeat (first | with_reducible assumption | (with_reducible refine sv_us.trans ?_; exact rfl) | with_reducible refine (sv_un (by omega)).trans ?_)) (vp_in_nI (by omega) (by omega)) ?_
      refine v_aload_n dX13_read_143 rfl 2 rfl ?_
      refine v_getf 22 (ci := 11) (C := RX13) (T := TX13) (N := 71) rfl iwX13_read_X13 (Nat.le_of_ble_eq_true rfl) (by decide +kernel) dX13_read_144 (by repeat (first | with_reducible assumption | (with_reducible refine sv_us.trans ?_; exact rfl) | with_reducible refine (sv_un (by omega)).trans ?_)) (by repeat (first | with_reducible assumption | (with_reducible refine (sv_ls (by first | omega | (simp only [List.length_set]; omega))).trans ?_; exact rfl) | with_reducible refine (List.getElem?_set_ne (by decide)).trans ?_)) ?_
      refine v_iload_n dX13_read_147 rfl 0 rfl ?_
      refine v_aload_n dX13_read_148 rfl 2 rfl ?_
      refine v_getf 22 (ci := 11) (C := RX13) (T := TX13) (N := 71) rfl iwX13_read_X13 (Nat.le_of_ble_eq_true rfl) (by decide +kernel) dX13_read_149 (by repeat (first | with_reducible assumption | (with_reducible refine sv_us.trans ?_; exact rfl) | with_reducible refine (sv_un (by omega)).trans ?_)) (by repeat (first | with_reducible assumption | (with_reducible refine (sv_ls (by first | omega | (simp only [List.length_set]; omega))).trans ?_; exact rfl) | with_reducible refine (List.getElem?_set_ne (by decide)).trans ?_)) ?_
      refine v_bipush (v := 20) dX13_read_152 (by decide) ?_
      refine v_iload_n dX13_read_154 rfl 0 rfl ?_
      refine v_iadd dX13_read_155 ?_
      rw [show (20 : Int32) + nI q = nI (20 + q) from nI_add 20 q]
      refine v_laldS (v := al (20 + q)) dX13_read_156 (by repeat (first | with_reducible assumption | (with_reducible refine sv_us.trans ?_; exact rfl) | with_reducible refine (sv_un (by omega)).trans ?_)) (vp_in_nI (by omega) (by omega)) (by rw [nI_clamp (by omega)]) ?_
      refine v_last dX13_read_157 (by repeat (first | with_reducible assumption | (with_reducible refine sv_us.trans ?_; exact rfl) | with_reducible refine (sv_un (by omega)).trans ?_)) (vp_in_nI (by omega) (by omega)) ?_
      refine v_aload_n dX13_read_158 rfl 2 rfl ?_
      refine v_getf 23 (ci := 11) (C := RX13) (T := TX13) (N := 71) rfl iwX13_read_X13 (Nat.le_of_ble_eq_true rfl) (by decide +kernel) dX13_read_159 (by repeat (first | with_reducible assumption | (with_reducible refine sv_us.trans ?_; exact rfl) | with_reducible refine (sv_un (by omega)).trans ?_)) (by repeat (first | with_reducible assumption | (with_reducible refine (sv_ls (by first | omega | (simp only [List.length_set]; omega))).trans ?_; exact rfl) | with_reducible refine (List.getElem?_set_ne (by decide)).trans ?_)) ?_
      refine v_iload_n dX13_read_162 rfl 0 rfl ?_
      refine v_aload_n dX13_read_163 rfl 2 rfl ?_
      refine v_getf 23 (ci := 11) (C := RX13) (T := TX13) (N := 71) rfl iwX13_read_X13 (Nat.le_of_ble_eq_true rfl) (by decide +kernel) dX13_read_164 (by repeat (first | with_reducible assumption | (with_reducible refine sv_us.trans ?_; exact rfl) | with_reducible refine (sv_un (by omega)).trans ?_)) (by repeat (first | with_reducible assumption | (with_reducible refine (sv_ls (by first | omega | (simp only [List.length_set]; omega))).trans ?_; exact rfl) | with_reducible refine (List.getElem?_set_ne (by decide)).trans ?_)) ?_
      refine v_bipush (v := 20) dX13_read_167 (by decide) ?_
      refine v_iload_n dX13_read_169 rfl 0 rfl ?_
      refine v_iadd dX13_read_170 ?_
      rw [show (20 : Int32) + nI q = nI (20 + q) from nI_add 20 q]
      refine v_laldS (v := ar (20 + q)) dX13_read_171 (by repeat (first | with_reducible assumption | (with_reducible refine sv_us.trans ?_; exact rfl) | with_reducible refine (sv_un (by omega)).trans ?_)) (vp_in_nI (by omega) (by omega)) (by rw [nI_clamp (by omega)]) ?_
      refine v_last dX13_read_172 (by repeat (first | with_reducible assumption | (with_reducible refine sv_us.trans ?_; exact rfl) | with_reducible refine (sv_un (by omega)).trans ?_)) (vp_in_nI (by omega) (by omega)) ?_
      refine v_aload_n dX13_read_173 rfl 2 rfl ?_
      refine v_getf 24 (ci := 11) (C := RX13) (T := TX13) (N := 71) rfl iwX13_read_X13 (Nat.le_of_ble_eq_true rfl) (by decide +kernel) dX13_read_174 (by repeat (first | with_reducible assumption | (with_reducible refine sv_us.trans ?_; exact rfl) | with_reducible refine (sv_un (by omega)).trans ?_)) (by repeat (first | with_reducible assumption | (with_reducible refine (sv_ls (by first | omega | (simp only [List.length_set]; omega))).trans ?_; exact rfl) | with_reducible refine (List.getElem?_set_ne (by decide)).trans ?_)) ?_
      refine v_iload_n dX13_read_177 rfl 0 rfl ?_
      refine v_aload_n dX13_read_178 rfl 2 rfl ?_
      refine v_getf 24 (ci := 11) (C := RX13) (T := TX13) (N := 71) rfl iwX13_read_X13 (Nat.le_of_ble_eq_true rfl) (by decide +kernel) dX13_read_179 (by repeat (first | with_reducible assumption | (with_reducible refine sv_us.trans ?_; exact rfl) | with_reducible refine (sv_un (by omega)).trans ?_)) (by repeat (first | with_reducible assumption | (with_reducible refine (sv_ls (by first | omega | (simp only [List.length_set]; omega))).trans ?_; exact rfl) | with_reducible refine (List.getElem?_set_ne (by decide)).trans ?_)) ?_
      refine v_bipush (v := 20) dX13_read_182 (by decide) ?_
      refine v_iload_n dX13_read_184 rfl 0 rfl ?_
      refine v_iadd dX13_read_185 ?_
      rw [show (20 : Int32) + nI q = nI (20 + q) from nI_add 20 q]
      refine v_laldS (v := av (20 + q)) dX13_read_186 (by repeat (first | with_reducible assumption | (with_reducible refine sv_us.trans ?_; exact rfl) | with_reducible refine (sv_un (by omega)).trans ?_)) (vp_in_nI (by omega) (by omega)) (by rw [nI_clamp (by omega)]) ?_
      refine v_last dX13_read_187 (by repeat (first | with_reducible assumption | (with_reducible refine sv_us.trans ?_; exact rfl) | with_reducible refine (sv_un (by omega)).trans ?_)) (vp_in_nI (by omega) (by omega)) ?_
      refine v_aload_n dX13_read_188 rfl 2 rfl ?_
      refine v_getf 25 (ci := 11) (C := RX13) (T := TX13) (N := 71) rfl iwX13_read_X13 (Nat.le_of_ble_eq_true rfl) (by decide +kernel) dX13_read_189 (by repeat (first | with_reducible assumption | (with_reducible refine sv_us.trans ?_; exact rfl) | with_reducible refine (sv_un (by omega)).trans ?_)) (by repeat (first | with_reducible assumption | (with_reducible refine (sv_ls (by first | omega | (simp only [List.length_set]; omega))).trans ?_; exact rfl) | with_reducible refine (List.getElem?_set_ne (by decide)).trans ?_)) ?_
      refine v_iload_n dX13_read_192 rfl 0 rfl ?_
      refine v_aload_n dX13_read_193 rfl 2 rfl ?_
      refine v_getf 25 (ci := 11) (C := RX13) (T := TX13) (N := 71) rfl iwX13_read_X13 (Nat.le_of_ble_eq_true rfl) (by decide +kernel) dX13_read_194 (by repeat (first | with_reducible assumption | (with_reducible refine sv_us.trans ?_; exact rfl) | with_reducible refine (sv_un (by omega)).trans ?_)) (by repeat (first | with_reducible assumption | (with_reducible refine (sv_ls (by first | omega | (simp only [List.length_set]; omega))).trans ?_; exact rfl) | with_reducible refine (List.getElem?_set_ne (by decide)).trans ?_)) ?_
      refine v_bipush (v := 20) dX13_read_197 (by decide) ?_
      refine v_iload_n dX13_read_199 rfl 0 rfl ?_
      refine v_iadd dX13_read_200 ?_
      rw [show (20 : Int32) + nI q = nI (20 + q) from nI_add 20 q]
      refine v_laldS (v := ae (20 + q)) dX13_read_201 (by repeat (first | with_reducible assumption | (with_reducible refine sv_us.trans ?_; exact rfl) | with_reducible refine (sv_un (by omega)).trans ?_)) (vp_in_nI (by omega) (by omega)) (by rw [nI_clamp (by omega)]) ?_
      refine v_last dX13_read_202 (by repeat (first | with_reducible assumption | (with_reducible refine sv_us.trans ?_; exact rfl) | with_reducible refine (sv_un (by omega)).trans ?_)) (vp_in_nI (by omega) (by omega)) ?_
      refine v_iinc (j := 0) (L' := [(3, _), (1, _), (0, _)]) (v := nI (q + 1)) dX13_read_203 rfl (nI_1 _) (Nat.le_of_ble_eq_true rfl) rfl ?_
      refine v_goto (tgt := 93) dX13_read_206 (by decide) ?_
      refine v_sub (L' := [(3, _), (1, _), (0, _)]) [0, 1, 2] rfl ?_
      have ecl : (nI q).toNatClampNeg = q := nI_clamp (by omega)
      rw [ecl]
      refine ih (q + 1) _ _ _ _ _ _ _ _ (by omega) ((sv_un (by omega)).trans ((sv_un (by omega)).trans ((sv_un (by omega)).trans ((sv_un (by omega)).trans ((sv_un (by omega)).trans ((sv_un (by omega)).trans ((sv_un (by omega)).trans (hm)))))))) ⟨(sv_un (by omega)).trans ((sv_un (by omega)).trans ((sv_un (by omega)).trans ((sv_un (by omega)).trans ((sv_un (by omega)).trans ((sv_un (by omega)).trans (sv_us)))))), (sv_un (by omega)).trans ((sv_un (by omega)).trans ((sv_un (by omega)).trans ((sv_un (by omega)).trans ((sv_un (by omega)).trans (sv_us))))), (sv_un (by omega)).trans ((sv_un (by omega)).trans ((sv_un (by omega)).trans ((sv_un (by omega)).trans (sv_us)))), (sv_un (by omega)).trans ((sv_un (by omega)).trans ((sv_un (by omega)).trans (sv_us))), (sv_un (by omega)).trans ((sv_un (by omega)).trans (sv_us)), (sv_un (by omega)).trans (sv_us), sv_us, (sv_un (by omega)).trans ((sv_un (by omega)).trans ((sv_un (by omega)).trans ((sv_un (by omega)).trans ((sv_un (by omega)).trans ((sv_un (by omega)).trans ((sv_un (by omega)).trans (a8)))))))⟩ ⟨q1.sI (by omega), q2.sI (by omega), q3.sI (by omega), q4.sJ (by omega), q5.sJ (by omega), q6.sJ (by omega), q7.sJ (by omega)⟩ (fun w p => (sv_un (by omega)).trans ((sv_un (by omega)).trans ((sv_un (by omega)).trans ((sv_un (by omega)).trans ((sv_un (by omega)).trans ((sv_un (by omega)).trans ((sv_un (by omega)).trans (fr w p))))))))

set_option maxHeartbeats 4000000 in
set_option maxRecDepth 100000 in
theorem t_m0 (G : sv_G) (Qr : Option Value → sv_h → Nat → Prop) (h0 h : sv_h) (z b n : Nat) (tp : Nat → Int32) (fs : List Value) (ly : Int32) (X : mx_ b n tp fs ly) (j : Nat) (r : Int32) (gk ga gb : Nat → Int32) (gl gr gv ge nm : Nat → Int64) (Hh : mh_ G b n tp fs h0 h j r gk ga gb gl gr gv ge nm) (hr0 : r = 0) (d : Nat) (mo : Int32) (hk : ∀ (h1 : sv_h) (F : List Value), h1 (b + 220) = some (.inr (11, F.set 17 (.int 0))) → ms_ b n tp fs F j r → ma_ G h1 b gk ga gb gl gr gv ge nm → (∀ w, w ≠ b + 220 → ¬ (b + 233 ≤ w ∧ w ≤ b + 240) → h1 w = h0 w) → Qr (some (.int (-1 - nI j))) h1 z) : V G mX13_read (sv_MQ G mX13_read Qr) 28 [(2, .int mo), (1, .int (nI d)), (0, .ref (b + 220))] [] h z 0 0 := by
  obtain ⟨⟨F, hm, H⟩, ⟨f, t, u⟩, ⟨a1, a2, a3, a4, a5, a6, a7, a8⟩, fr⟩ := id Hh
  obtain ⟨g0, g1, g2, g3, g4, g5, g6, g7⟩ := id H
  have hlen := g0
  have f_layers := (g7 1 (by decide) (by decide) (by decide) (by decide)).trans X.2.2.1
  have f_kind := (g7 19 (by decide) (by decide) (by decide) (by decide)).trans X.2.2.2.1
  have f_layerA := (g7 20 (by decide) (by decide) (by decide) (by decide)).trans X.2.2.2.2.1
  have f_layerB := (g7 21 (by decide) (by decide) (by decide) (by decide)).trans X.2.2.2.2.2.1
  have f_bound := (g7 22 (by decide) (by decide) (by decide) (by decide)).trans X.2.2.2.2.2.2.1
  have f_run := (g7 23 (by decide) (by decide) (by decide) (by decide)).trans X.2.2.2.2.2.2.2.1
  have f_volt := (g7 24 (by decide) (by decide) (by decide) (by decide)).trans X.2.2.2.2.2.2.2.2.1
  have f_end := (g7 25 (by decide) (by decide) (by decide) (by decide)).trans X.2.2.2.2.2.2.2.2.2.1
  have f_names := (g7 26 (by decide) (by decide) (by decide) (by decide)).trans X.2.2.2.2.2.2.2.2.2.2
  have f_right := g4
  have f_word := g1
  refine v_aload_n dX13_read_28 rfl 2 rfl ?_
  refine v_getf 70 (ci := 11) (C := RX13) (T := TX13) (N := 71) rfl iwX13_read_X13 (Nat.le_of_ble_eq_true rfl) (by decide +kernel) dX13_read_29 (by repeat (first | with_reducible assumption | (with_reducible refine sv_us.trans ?_; exact rfl) | with_reducible refine (sv_un (by omega)).trans ?_)) (by repeat (first | with_reducible assumption | (with_reducible refine (sv_ls (by first | omega | (simp only [List.length_set]; omega))).trans ?_; exact rfl) | with_reducible refine (List.getElem?_set_ne (by decide)).trans ?_)) ?_
  refine v_if_eq (tgt := 67) dX13_read_32 (by decide) (fun c_32 => ?_) (fun c_32 => ?_)
  · refine v_aload_n dX13_read_67 rfl 2 rfl ?_
    refine v_iconst (v := 0) dX13_read_68 (by decide) ?_
    refine v_putf 17 (fs' := _) (ci := 11) (C := RX13) (T := TX13) (N := 71) (ty := .int) rfl iwX13_read_X13 tyX13 tyX13_ok nmX13 (Nat.le_of_ble_eq_true rfl) (by decide +kernel) rfl rfl dX13_read_69 rfl rfl (by repeat (first | with_reducible assumption | (with_reducible refine sv_us.trans ?_; exact rfl) | with_reducible refine (sv_un (by omega)).trans ?_)) (by first | omega | (simp only [List.length_set]; omega)) rfl ?_
    refine v_aload_n dX13_read_72 rfl 2 rfl ?_
    refine v_getf 70 (ci := 11) (C := RX13) (T := TX13) (N := 71) rfl iwX13_read_X13 (Nat.le_of_ble_eq_true rfl) (by decide +kernel) dX13_read_73 (by repeat (first | with_reducible assumption | (with_reducible refine sv_us.trans ?_; exact rfl) | with_reducible refine (sv_un (by omega)).trans ?_)) (by repeat (first | with_reducible assumption | (with_reducible refine (sv_ls (by first | omega | (simp only [List.length_set]; omega))).trans ?_; exact rfl) | with_reducible refine (List.getElem?_set_ne (by decide)).trans ?_)) ?_
    refine v_if_ne (tgt := 86) dX13_read_76 (by decide) (fun c_76 => ?_) (fun c_76 => ?_)
    · exact absurd hr0 c_76
    · refine v_iconst (v := (-1)) dX13_read_79 (by decide) ?_
      refine v_aload_n dX13_read_80 rfl 2 rfl ?_
      refine v_getf 69 (ci := 11) (C := RX13) (T := TX13) (N := 71) rfl iwX13_read_X13 (Nat.le_of_ble_eq_true rfl) (by decide +kernel) dX13_read_81 (by repeat (first | with_reducible assumption | (with_reducible refine sv_us.trans ?_; exact rfl) | with_reducible refine (sv_un (by omega)).trans ?_)) (by repeat (first | with_reducible assumption | (with_reducible refine (sv_ls (by first | omega | (simp only [List.length_set]; omega))).trans ?_; exact rfl) | with_reducible refine (List.getElem?_set_ne (by decide)).trans ?_)) ?_
      refine v_isub dX13_read_84 ?_
      exact v_iret rfl dX13_read_85 (Nat.le_of_ble_eq_true rfl) (Nat.le_of_ble_eq_true rfl) rfl (hk _ F sv_us H ⟨(sv_un (by omega)).trans a1, (sv_un (by omega)).trans a2, (sv_un (by omega)).trans a3, (sv_un (by omega)).trans a4, (sv_un (by omega)).trans a5, (sv_un (by omega)).trans a6, (sv_un (by omega)).trans a7, (sv_un (by omega)).trans a8⟩ (fun w p q => (sv_un p).trans (fr w p q)))
  · exact absurd hr0 c_32

set_option maxHeartbeats 4000000 in
set_option maxRecDepth 100000 in
theorem t_m1 (G : sv_G) (Qr : Option Value → sv_h → Nat → Prop) (h0 h : sv_h) (z b n : Nat) (tp : Nat → Int32) (fs : List Value) (ly : Int32) (X : mx_ b n tp fs ly) (j : Nat) (gk ga gb : Nat → Int32) (gl gr gv ge nm : Nat → Int64) (Hh : mh_ G b n tp fs h0 h j 1 gk ga gb gl gr gv ge nm) (d : Nat) (hd : d ≤ 20) (hk : ∀ (h1 : sv_h) (F : List Value) (ak aa ab : Nat → Int32) (al ar av ae : Nat → Int64), h1 (b + 220) = some (.inr (11, (((((F.set 17 (.int 0)).set 18 (.int (nI d))).set 30 (.int 0)).set 31 (.int (-1))).set 33 (.int 0)))) → ms_ b n tp fs F j 1 → ma_ G h1 b ak aa ab al ar av ae nm → cq_ d ak gk ∧ cq_ d aa ga ∧ cq_ d ab gb ∧ cq_ d al gl ∧ cq_ d ar gr ∧ cq_ d av gv ∧ cq_ d ae ge → (∀ w, w ≠ b + 220 → ¬ (b + 233 ≤ w ∧ w ≤ b + 240) → h1 w = h0 w) → Qr (some (.int (nI d))) h1 z) : V G mX13_read (sv_MQ G mX13_read Qr) 28 [(2, .int 0), (1, .int (nI d)), (0, .ref (b + 220))] [] h z 0 0 := by
  obtain ⟨⟨F, hm, H⟩, ⟨f, t, u⟩, ⟨a1, a2, a3, a4, a5, a6, a7, a8⟩, fr⟩ := id Hh
  obtain ⟨g0, g1, g2, g3, g4, g5, g6, g7⟩ := id H
  have hlen := g0
  have f_layers := (g7 1 (by decide) (by decide) (by decide) (by decide)).trans X.2.2.1
  have f_kind := (g7 19 (by decide) (by decide) (by decide) (by decide)).trans X.2.2.2.1
  have f_layerA := (g7 20 (by decide) (by decide) (by decide) (by decide)).trans X.2.2.2.2.1
  have f_layerB := (g7 21 (by decide) (by decide) (by decide) (by decide)).trans X.2.2.2.2.2.1
  have f_bound := (g7 22 (by decide) (by decide) (by decide) (by decide)).trans X.2.2.2.2.2.2.1
  have f_run := (g7 23 (by decide) (by decide) (by decide) (by decide)).trans X.2.2.2.2.2.2.2.1
  have f_volt := (g7 24 (by decide) (by decide) (by decide) (by decide)).trans X.2.2.2.2.2.2.2.2.1
  have f_end := (g7 25 (by decide) (by decide) (by decide) (by decide)).trans X.2.2.2.2.2.2.2.2.2.1
  have f_names := (g7 26 (by decide) (by decide) (by decide) (by decide)).trans X.2.2.2.2.2.2.2.2.2.2
  have f_right := g4
  refine v_aload_n dX13_read_28 rfl 2 rfl ?_
  refine v_getf 70 (ci := 11) (C := RX13) (T := TX13) (N := 71) rfl iwX13_read_X13 (Nat.le_of_ble_eq_true rfl) (by decide +kernel) dX13_read_29 (by repeat (first | with_reducible assumption | (with_reducible refine sv_us.trans ?_; exact rfl) | with_reducible refine (sv_un (by omega)).trans ?_)) (by repeat (first | with_reducible assumption | (with_reducible refine (sv_ls (by first | omega | (simp only [List.length_set]; omega))).trans ?_; exact rfl) | with_reducible refine (List.getElem?_set_ne (by decide)).trans ?_)) ?_
  refine v_if_eq (tgt := 67) dX13_read_32 (by decide) (fun c_32 => ?_) (fun c_32 => ?_)
  · exact absurd c_32 (by decide)
  · refine v_iload_n dX13_read_35 rfl 0 rfl ?_
    refine v_if_eq (tgt := 67) dX13_read_36 (by decide) (fun c_36 => ?_) (fun c_36 => ?_)
    · refine v_aload_n dX13_read_67 rfl 2 rfl ?_
      refine v_iconst (v := 0) dX13_read_68 (by decide) ?_
      refine v_putf 17 (fs' := _) (ci := 11) (C := RX13) (T := TX13) (N := 71) (ty := .int) rfl iwX13_read_X13 tyX13 tyX13_ok nmX13 (Nat.le_of_ble_eq_true rfl) (by decide +kernel) rfl rfl dX13_read_69 rfl rfl (by repeat (first | with_reducible assumption | (with_reducible refine sv_us.trans ?_; exact rfl) | with_reducible refine (sv_un (by omega)).trans ?_)) (by first | omega | (simp only [List.length_set]; omega)) rfl ?_
      refine v_aload_n dX13_read_72 rfl 2 rfl ?_
      refine v_getf 70 (ci := 11) (C := RX13) (T := TX13) (N := 71) rfl iwX13_read_X13 (Nat.le_of_ble_eq_true rfl) (by decide +kernel) dX13_read_73 (by repeat (first | with_reducible assumption | (with_reducible refine sv_us.trans ?_; exact rfl) | with_reducible refine (sv_un (by omega)).trans ?_)) (by repeat (first | with_reducible assumption | (with_reducible refine (sv_ls (by first | omega | (simp only [List.length_set]; omega))).trans ?_; exact rfl) | with_reducible refine (List.getElem?_set_ne (by decide)).trans ?_)) ?_
      refine v_if_ne (tgt := 86) dX13_read_76 (by decide) (fun c_76 => ?_) (fun c_76 => ?_)
      · refine v_aload_n dX13_read_86 rfl 2 rfl ?_
        refine v_iload_n dX13_read_87 rfl 1 rfl ?_
        refine v_putf 18 (fs' := _) (ci := 11) (C := RX13) (T := TX13) (N := 71) (ty := .int) rfl iwX13_read_X13 tyX13 tyX13_ok nmX13 (Nat.le_of_ble_eq_true rfl) (by decide +kernel) rfl rfl dX13_read_88 rfl rfl (by repeat (first | with_reducible assumption | (with_reducible refine sv_us.trans ?_; exact rfl) | with_reducible refine (sv_un (by omega)).trans ?_)) (by first | omega | (simp only [List.length_set]; omega)) rfl ?_
        refine v_iconst (v := 0) dX13_read_91 (by decide) ?_
        refine v_istore_n (L' := [(3, _), (2, _), (1, _), (0, _)]) dX13_read_92 rfl (Nat.le_of_ble_eq_true rfl) rfl ?_
        refine v_sub (L' := [(3, _), (1, _), (0, _)]) [0, 2, 3] rfl ?_
        refine l_mcopy G Qr _ z b ((F.set 17 (.int 0)).set 18 (.int (nI d))) (by simp only [List.length_set]; exact hlen) (by repeat (first | with_reducible assumption | with_reducible refine (List.getElem?_set_ne (by decide)).trans ?_)) (by repeat (first | with_reducible assumption | with_reducible refine (List.getElem?_set_ne (by decide)).trans ?_)) (by repeat (first | with_reducible assumption | with_reducible refine (List.getElem?_set_ne (by decide)).trans ?_)) (by repeat (first | with_reducible assumption | with_reducible refine (List.getElem?_set_ne (by decide)).trans ?_)) (by repeat (first | with_reducible assumption | with_reducible refine (List.getElem?_set_ne (by decide)).trans ?_)) (by repeat (first | with_reducible assumption | with_reducible refine (List.getElem?_set_ne (by decide)).trans ?_)) (by repeat (first | with_reducible assumption | with_reducible refine (List.getElem?_set_ne (by decide)).trans ?_)) d hd nm gk ga gb gl gr gv ge (fun h1 ak aa ab al ar av ae hm1 A1 Q fr1 => ?_) d 0 _ gk ga gb gl gr gv ge (by omega) sv_us ⟨(sv_un (by omega)).trans ((sv_un (by omega)).trans a1), (sv_un (by omega)).trans ((sv_un (by omega)).trans a2), (sv_un (by omega)).trans ((sv_un (by omega)).trans a3), (sv_un (by omega)).trans ((sv_un (by omega)).trans a4), (sv_un (by omega)).trans ((sv_un (by omega)).trans a5), (sv_un (by omega)).trans ((sv_un (by omega)).trans a6), (sv_un (by omega)).trans ((sv_un (by omega)).trans a7), (sv_un (by omega)).trans ((sv_un (by omega)).trans a8)⟩ ⟨cq_.z, cq_.z, cq_.z, cq_.z, cq_.z, cq_.z, cq_.z⟩ (fun w _ => rfl)
        obtain ⟨b1, b2, b3, b4, b5, b6, b7, b8⟩ := id A1
        have hl9 : ((F.set 17 (.int 0)).set 18 (.int (nI d))).length = 71 := (by simp only [List.length_set]; exact hlen)
        refine v_aload_n dX13_read_209 rfl 1 rfl ?_
        refine v_iconst (v := 0) dX13_read_210 (by decide) ?_
        refine v_putf 30 (fs' := _) (ci := 11) (C := RX13) (T := TX13) (N := 71) (ty := .int) rfl iwX13_read_X13 tyX13 tyX13_ok nmX13 (Nat.le_of_ble_eq_true rfl) (by decide +kernel) rfl rfl dX13_read_211 rfl rfl (by repeat (first | with_reducible assumption | (with_reducible refine sv_us.trans ?_; exact rfl) | with_reducible refine (sv_un (by omega)).trans ?_)) (by first | omega | (simp only [List.length_set]; omega)) rfl ?_
        refine v_aload_n dX13_read_214 rfl 1 rfl ?_
        refine v_iconst (v := (-1)) dX13_read_215 (by decide) ?_
        refine v_putf 31 (fs' := _) (ci := 11) (C := RX13) (T := TX13) (N := 71) (ty := .int) rfl iwX13_read_X13 tyX13 tyX13_ok nmX13 (Nat.le_of_ble_eq_true rfl) (by decide +kernel) rfl rfl dX13_read_216 rfl rfl (by repeat (first | with_reducible assumption | (with_reducible refine sv_us.trans ?_; exact rfl) | with_reducible refine (sv_un (by omega)).trans ?_)) (by first | omega | (simp only [List.length_set]; omega)) rfl ?_
        refine v_aload_n dX13_read_219 rfl 1 rfl ?_
        refine v_iconst (v := 0) dX13_read_220 (by decide) ?_
        refine v_putf 33 (fs' := _) (ci := 11) (C := RX13) (T := TX13) (N := 71) (ty := .int) rfl iwX13_read_X13 tyX13 tyX13_ok nmX13 (Nat.le_of_ble_eq_true rfl) (by decide +kernel) rfl rfl dX13_read_221 rfl rfl (by repeat (first | with_reducible assumption | (with_reducible refine sv_us.trans ?_; exact rfl) | with_reducible refine (sv_un (by omega)).trans ?_)) (by first | omega | (simp only [List.length_set]; omega)) rfl ?_
        refine v_iload_n dX13_read_224 rfl 0 rfl ?_
        exact v_iret rfl dX13_read_225 (Nat.le_of_ble_eq_true rfl) (Nat.le_of_ble_eq_true rfl) rfl (hk _ F ak aa ab al ar av ae sv_us H ⟨(sv_un (by omega)).trans ((sv_un (by omega)).trans ((sv_un (by omega)).trans (b1))), (sv_un (by omega)).trans ((sv_un (by omega)).trans ((sv_un (by omega)).trans (b2))), (sv_un (by omega)).trans ((sv_un (by omega)).trans ((sv_un (by omega)).trans (b3))), (sv_un (by omega)).trans ((sv_un (by omega)).trans ((sv_un (by omega)).trans (b4))), (sv_un (by omega)).trans ((sv_un (by omega)).trans ((sv_un (by omega)).trans (b5))), (sv_un (by omega)).trans ((sv_un (by omega)).trans ((sv_un (by omega)).trans (b6))), (sv_un (by omega)).trans ((sv_un (by omega)).trans ((sv_un (by omega)).trans (b7))), (sv_un (by omega)).trans ((sv_un (by omega)).trans ((sv_un (by omega)).trans (b8)))⟩ Q (fun w p q => (sv_un p).trans ((sv_un p).trans ((sv_un p).trans ((fr1 w (by omega)).trans ((sv_un p).trans ((sv_un p).trans (fr w p q))))))))
      · exact absurd c_76 (by decide)
    · exact absurd rfl c_36

set_option maxHeartbeats 4000000 in
set_option maxRecDepth 100000 in
theorem l_mread (G : sv_G) (h0 : sv_h) (z b n : Nat) (tp : Nat → Int32) (fs : List Value) (ly : Int32) (X : mx_ b n tp fs ly) (gk0 ga0 gb0 : Nat → Int32) (gl0 gr0 gv0 ge0 : Nat → Int64) : ∀ (c d j : Nat) (gk ga gb : Nat → Int32) (gl gr gv ge nm : Nat → Int64) (nm0 : Nat → Int64) (r0 : Nat → Nat → Int32) (h : sv_h), mh_ G b n tp fs h0 h j 1 gk ga gb gl gr gv ge nm → d + c = 20 → (∀ i, i < d → nm i = nm0 i) → (∀ i, i < d → gk (20 + i) = r0 0 i ∧ ga (20 + i) = r0 1 i ∧ gb (20 + i) = r0 2 i ∧ gl (20 + i) = (r0 3 i).toInt64 ∧ gr (20 + i) = (if r0 4 i < 1 then 1 else r0 4 i).toInt64 ∧ gv (20 + i) = (r0 5 i).toInt64 ∧ ge (20 + i) = (r0 6 i).toInt64) → (∀ i, i < 20 → gk i = gk0 i ∧ ga i = ga0 i ∧ gb i = gb0 i ∧ gl i = gl0 i ∧ gr i = gr0 i ∧ gv i = gv0 i ∧ ge i = ge0 i) → V G mX13_read (sv_MQ G mX13_read (fun v h1 z1 => z1 = z ∧ ∃ F : List Value, (∀ w, w ≠ b + 220 → ¬ (b + 233 ≤ w ∧ w ≤ b + 240) → h1 w = h0 w) ∧ (∃ (j1 : Nat) (r9 : Int32), ms_ b n tp fs F j1 r9) ∧ ((∃ (d1 : Nat) (r1 : Nat → Nat → Int32) (ak aa ab : Nat → Int32) (al ar av ae nm1 : Nat → Int64), rd_all n tp ly c d nm0 r0 j = .inr (d1, r1) ∧ d1 ≤ 20 ∧ v = some (.int (nI d1)) ∧ h1 (b + 220) = some (.inr (11, (((((F.set 17 (.int 0)).set 18 (.int (nI d1))).set 30 (.int 0)).set 31 (.int (-1))).set 33 (.int 0)))) ∧ ma_ G h1 b ak aa ab al ar av ae nm1 ∧ ∀ i, i < d1 → ak i = r1 0 i ∧ aa i = r1 1 i ∧ ab i = r1 2 i ∧ al i = (r1 3 i).toInt64 ∧ ar i = (if r1 4 i < 1 then 1 else r1 4 i).toInt64 ∧ av i = (r1 5 i).toInt64 ∧ ae i = (r1 6 i).toInt64) ∨ (∃ (e : Nat) (ak aa ab : Nat → Int32) (al ar av ae nm1 : Nat → Int64), rd_all n tp ly c d nm0 r0 j = .inl e ∧ v = some (.int (-1 - nI e)) ∧ h1 (b + 220) = some (.inr (11, F.set 17 (.int 0))) ∧ ma_ G h1 b ak aa ab al ar av ae nm1 ∧ ∀ i, i < 20 → ak i = gk0 i ∧ aa i = ga0 i ∧ ab i = gb0 i ∧ al i = gl0 i ∧ ar i = gr0 i ∧ av i = gv0 i ∧ ae i = ge0 i)))) 28 [(2, .int 1), (1, .int (nI d)), (0, .ref (b + 220))] [] h z 0 0 := by
  intro c
  induction c with
  | zero =>
    intro d j gk ga gb gl gr gv ge nm nm0 r0 h Hh hdc hnm hrw hkp
    obtain ⟨⟨F, hm, H⟩, ⟨f, t, u⟩, ⟨a1, a2, a3, a4, a5, a6, a7, a8⟩, fr⟩ := id Hh
    obtain ⟨g0, g1, g2, g3, g4, g5, g6, g7⟩ := id H
    have hlen := g0
    have f_layers := (g7 1 (by decide) (by decide) (by decide) (by decide)).trans X.2.2.1
    have f_kind := (g7 19 (by decide) (by decide) (by decide) (by decide)).trans X.2.2.2.1
    have f_layerA := (g7 20 (by decide) (by decide) (by decide) (by decide)).trans X.2.2.2.2.1
    have f_layerB := (g7 21 (by decide) (by decide) (by decide) (by decide)).trans X.2.2.2.2.2.1
    have f_bound := (g7 22 (by decide) (by decide) (by decide) (by decide)).trans X.2.2.2.2.2.2.1
    have f_run := (g7 23 (by decide) (by decide) (by decide) (by decide)).trans X.2.2.2.2.2.2.2.1
    have f_volt := (g7 24 (by decide) (by decide) (by decide) (by decide)).trans X.2.2.2.2.2.2.2.2.1
    have f_end := (g7 25 (by decide) (by decide) (by decide) (by decide)).trans X.2.2.2.2.2.2.2.2.2.1
    have f_names := (g7 26 (by decide) (by decide) (by decide) (by decide)).trans X.2.2.2.2.2.2.2.2.2.2
    have f_right := g4
    refine v_aload_n dX13_read_28 rfl 2 rfl ?_
    refine v_getf 70 (ci := 11) (C := RX13) (T := TX13) (N := 71) rfl iwX13_read_X13 (Nat.le_of_ble_eq_true rfl) (by decide +kernel) dX13_read_29 (by repeat (first | with_reducible assumption | (with_reducible refine sv_us.trans ?_; exact rfl) | with_reducible refine (sv_un (by omega)).trans ?_)) (by repeat (first | with_reducible assumption | (with_reducible refine (sv_ls (by first | omega | (simp only [List.length_set]; omega))).trans ?_; exact rfl) | with_reducible refine (List.getElem?_set_ne (by decide)).trans ?_)) ?_
    refine v_if_eq (tgt := 67) dX13_read_32 (by decide) (fun c_32 => ?_) (fun c_32 => ?_)
    · exact absurd c_32 (by decide)
    · refine v_iload_n dX13_read_35 rfl 0 rfl ?_
      refine v_if_eq (tgt := 67) dX13_read_36 (by decide) (fun c_36 => ?_) (fun c_36 => ?_)
      · exact absurd c_36 (by decide)
      · refine v_aload_n dX13_read_39 rfl 2 rfl ?_
        refine v_iload_n dX13_read_40 rfl 1 rfl ?_
        refine v_callVq (M' := mX13_readRule) (n := 1) (As := [_]) (ci := 11) (r := (RX13, TX13, 71)) gX13_read_X13_readRule rfl (by decide +kernel) ⟨(Nat.le_of_ble_eq_true rfl), (Nat.le_of_ble_eq_true rfl)⟩ rfl rfl dX13_read_41 rfl ⟨(Nat.le_of_ble_eq_true rfl), (Nat.le_of_ble_eq_true rfl)⟩ (Nat.le_of_ble_eq_true rfl) (by repeat (first | with_reducible assumption | (with_reducible refine sv_us.trans ?_; exact rfl) | with_reducible refine (sv_un (by omega)).trans ?_)) rfl (m_readRule G h0 h z b n tp fs ly X j 1 gk ga gb gl gr gv ge nm Hh rfl d (by omega)) (fun v h1 z1 hq => ?_)
        obtain ⟨rfl, rfl, gk1, ga1, gb1, gl1, gr1, gv1, ge1, nm1, j1, r1, Hh1, U1, U2, e1⟩ := hq
        obtain ⟨⟨F1, hm1, H1⟩, ⟨f1, t1, u1⟩, ⟨a11, a21, a31, a41, a51, a61, a71, a81⟩, fr1⟩ := id Hh1
        obtain ⟨g01, g11, g21, g31, g41, g51, g61, g71⟩ := id H1
        have hlen1 := g01
        have f_layers1 := (g71 1 (by decide) (by decide) (by decide) (by decide)).trans X.2.2.1
        have f_kind1 := (g71 19 (by decide) (by decide) (by decide) (by decide)).trans X.2.2.2.1
        have f_layerA1 := (g71 20 (by decide) (by decide) (by decide) (by decide)).trans X.2.2.2.2.1
        have f_layerB1 := (g71 21 (by decide) (by decide) (by decide) (by decide)).trans X.2.2.2.2.2.1
        have f_bound1 := (g71 22 (by decide) (by decide) (by decide) (by decide)).trans X.2.2.2.2.2.2.1
        have f_run1 := (g71 23 (by decide) (by decide) (by decide) (by decide)).trans X.2.2.2.2.2.2.2.1
        have f_volt1 := (g71 24 (by decide) (by decide) (by decide) (by decide)).trans X.2.2.2.2.2.2.2.2.1
        have f_end1 := (g71 25 (by decide) (by decide) (by decide) (by decide)).trans X.2.2.2.2.2.2.2.2.2.1
        have f_names1 := (g71 26 (by decide) (by decide) (by decide) (by decide)).trans X.2.2.2.2.2.2.2.2.2.2
        have f_from1 := g21
        have f_length1 := g51
        refine v_iinc (j := 1) (L' := [(1, _), (2, _), (0, _)]) (v := nI (d + 1)) dX13_read_44 rfl (nI_1 _) (Nat.le_of_ble_eq_true rfl) rfl ?_
        refine v_aload_n dX13_read_47 rfl 2 rfl ?_
        refine v_getf 67 (ci := 11) (C := RX13) (T := TX13) (N := 71) rfl iwX13_read_X13 (Nat.le_of_ble_eq_true rfl) (by decide +kernel) dX13_read_48 (by repeat (first | with_reducible assumption | (with_reducible refine sv_us.trans ?_; exact rfl) | with_reducible refine (sv_un (by omega)).trans ?_)) (by repeat (first | with_reducible assumption | (with_reducible refine (sv_ls (by first | omega | (simp only [List.length_set]; omega))).trans ?_; exact rfl) | with_reducible refine (List.getElem?_set_ne (by decide)).trans ?_)) ?_
        refine v_aload_n dX13_read_51 rfl 2 rfl ?_
        refine v_getf 17 (ci := 11) (C := RX13) (T := TX13) (N := 71) rfl iwX13_read_X13 (Nat.le_of_ble_eq_true rfl) (by decide +kernel) dX13_read_52 (by repeat (first | with_reducible assumption | (with_reducible refine sv_us.trans ?_; exact rfl) | with_reducible refine (sv_un (by omega)).trans ?_)) (by repeat (first | with_reducible assumption | (with_reducible refine (sv_ls (by first | omega | (simp only [List.length_set]; omega))).trans ?_; exact rfl) | with_reducible refine (List.getElem?_set_ne (by decide)).trans ?_)) ?_
        refine v_icmp_ge (tgt := 62) dX13_read_55 (by decide) (fun c_55 => ?_) (fun c_55 => ?_)
        · refine v_iconst (v := 0) dX13_read_62 (by decide) ?_
          refine v_istore_n (L' := [(2, _), (1, _), (0, _)]) dX13_read_63 rfl (Nat.le_of_ble_eq_true rfl) rfl ?_
          refine v_goto (tgt := 28) dX13_read_64 (by decide) ?_
          refine v_sub (L' := [(2, _), (1, _), (0, _)]) [0, 1, 2] rfl ?_
          have e0 : rd_rl n tp ly nm d j = rd_rl n tp ly nm0 d j := rd_rl_c hnm
          have K1 : ∀ i, i < 20 → gk1 i = gk0 i ∧ ga1 i = ga0 i ∧ gb1 i = gb0 i ∧ gl1 i = gl0 i ∧ gr1 i = gr0 i ∧ gv1 i = gv0 i ∧ ge1 i = ge0 i := by
            intro i hi
            obtain ⟨k1, k2, k3, k4, k5, k6, k7⟩ := hkp i hi
            obtain ⟨v1, v2, v3, v4, v5, v6, v7⟩ := U1 i (by omega)
            exact ⟨v1.trans k1, v2.trans k2, v3.trans k3, v4.trans k4, v5.trans k5, v6.trans k6, v7.trans k7⟩
          rcases e1 with ⟨s1, s2, x, s3, s4, x0, x1, x2, x3, x4, x5, x6⟩ | ⟨s1, s2⟩
          · subst s1
            omega
          · refine t_m0 G _ h0 h1 _ b n tp fs ly X j1 r1 gk1 ga1 gb1 gl1 gr1 gv1 ge1 nm1 Hh1 s1 (d + 1) _ (fun h2 F m1 m2 m3 m4 => ?_)
            refine ⟨rfl, F, m4, ⟨_, _, m2⟩, Or.inr ⟨j1, gk1, ga1, gb1, gl1, gr1, gv1, ge1, nm1, ?_, rfl, m1, m3, K1⟩⟩
            have e9 : d = 20 := by omega
            rcases s2 with ⟨_, q2⟩ | ⟨q1, _⟩
            · rw [rd_all, q2]
            · omega
        · refine v_iconst (v := 1) dX13_read_58 (by decide) ?_
          refine v_goto (tgt := 63) dX13_read_59 (by decide) ?_
          refine v_istore_n (L' := [(2, _), (1, _), (0, _)]) dX13_read_63 rfl (Nat.le_of_ble_eq_true rfl) rfl ?_
          refine v_goto (tgt := 28) dX13_read_64 (by decide) ?_
          refine v_sub (L' := [(2, _), (1, _), (0, _)]) [0, 1, 2] rfl ?_
          have e0 : rd_rl n tp ly nm d j = rd_rl n tp ly nm0 d j := rd_rl_c hnm
          have K1 : ∀ i, i < 20 → gk1 i = gk0 i ∧ ga1 i = ga0 i ∧ gb1 i = gb0 i ∧ gl1 i = gl0 i ∧ gr1 i = gr0 i ∧ gv1 i = gv0 i ∧ ge1 i = ge0 i := by
            intro i hi
            obtain ⟨k1, k2, k3, k4, k5, k6, k7⟩ := hkp i hi
            obtain ⟨v1, v2, v3, v4, v5, v6, v7⟩ := U1 i (by omega)
            exact ⟨v1.trans k1, v2.trans k2, v3.trans k3, v4.trans k4, v5.trans k5, v6.trans k6, v7.trans k7⟩
          rcases e1 with ⟨s1, s2, x, s3, s4, x0, x1, x2, x3, x4, x5, x6⟩ | ⟨s1, s2⟩
          · subst s1
            omega
          · refine t_m0 G _ h0 h1 _ b n tp fs ly X j1 r1 gk1 ga1 gb1 gl1 gr1 gv1 ge1 nm1 Hh1 s1 (d + 1) _ (fun h2 F m1 m2 m3 m4 => ?_)
            refine ⟨rfl, F, m4, ⟨_, _, m2⟩, Or.inr ⟨j1, gk1, ga1, gb1, gl1, gr1, gv1, ge1, nm1, ?_, rfl, m1, m3, K1⟩⟩
            have e9 : d = 20 := by omega
            rcases s2 with ⟨_, q2⟩ | ⟨q1, _⟩
            · rw [rd_all, q2]
            · omega
  | succ c ih =>
    intro d j gk ga gb gl gr gv ge nm nm0 r0 h Hh hdc hnm hrw hkp
    obtain ⟨⟨F, hm, H⟩, ⟨f, t, u⟩, ⟨a1, a2, a3, a4, a5, a6, a7, a8⟩, fr⟩ := id Hh
    obtain ⟨g0, g1, g2, g3, g4, g5, g6, g7⟩ := id H
    have hlen := g0
    have f_layers := (g7 1 (by decide) (by decide) (by decide) (by decide)).trans X.2.2.1
    have f_kind := (g7 19 (by decide) (by decide) (by decide) (by decide)).trans X.2.2.2.1
    have f_layerA := (g7 20 (by decide) (by decide) (by decide) (by decide)).trans X.2.2.2.2.1
    have f_layerB := (g7 21 (by decide) (by decide) (by decide) (by decide)).trans X.2.2.2.2.2.1
    have f_bound := (g7 22 (by decide) (by decide) (by decide) (by decide)).trans X.2.2.2.2.2.2.1
    have f_run := (g7 23 (by decide) (by decide) (by decide) (by decide)).trans X.2.2.2.2.2.2.2.1
    have f_volt := (g7 24 (by decide) (by decide) (by decide) (by decide)).trans X.2.2.2.2.2.2.2.2.1
    have f_end := (g7 25 (by decide) (by decide) (by decide) (by decide)).trans X.2.2.2.2.2.2.2.2.2.1
    have f_names := (g7 26 (by decide) (by decide) (by decide) (by decide)).trans X.2.2.2.2.2.2.2.2.2.2
    have f_right := g4
    refine v_aload_n dX13_read_28 rfl 2 rfl ?_
    refine v_getf 70 (ci := 11) (C := RX13) (T := TX13) (N := 71) rfl iwX13_read_X13 (Nat.le_of_ble_eq_true rfl) (by decide +kernel) dX13_read_29 (by repeat (first | with_reducible assumption | (with_reducible refine sv_us.trans ?_; exact rfl) | with_reducible refine (sv_un (by omega)).trans ?_)) (by repeat (first | with_reducible assumption | (with_reducible refine (sv_ls (by first | omega | (simp only [List.length_set]; omega))).trans ?_; exact rfl) | with_reducible refine (List.getElem?_set_ne (by decide)).trans ?_)) ?_
    refine v_if_eq (tgt := 67) dX13_read_32 (by decide) (fun c_32 => ?_) (fun c_32 => ?_)
    · exact absurd c_32 (by decide)
    · refine v_iload_n dX13_read_35 rfl 0 rfl ?_
      refine v_if_eq (tgt := 67) dX13_read_36 (by decide) (fun c_36 => ?_) (fun c_36 => ?_)
      · exact absurd c_36 (by decide)
      · refine v_aload_n dX13_read_39 rfl 2 rfl ?_
        refine v_iload_n dX13_read_40 rfl 1 rfl ?_
        refine v_callVq (M' := mX13_readRule) (n := 1) (As := [_]) (ci := 11) (r := (RX13, TX13, 71)) gX13_read_X13_readRule rfl (by decide +kernel) ⟨(Nat.le_of_ble_eq_true rfl), (Nat.le_of_ble_eq_true rfl)⟩ rfl rfl dX13_read_41 rfl ⟨(Nat.le_of_ble_eq_true rfl), (Nat.le_of_ble_eq_true rfl)⟩ (Nat.le_of_ble_eq_true rfl) (by repeat (first | with_reducible assumption | (with_reducible refine sv_us.trans ?_; exact rfl) | with_reducible refine (sv_un (by omega)).trans ?_)) rfl (m_readRule G h0 h z b n tp fs ly X j 1 gk ga gb gl gr gv ge nm Hh rfl d (by omega)) (fun v h1 z1 hq => ?_)
        obtain ⟨rfl, rfl, gk1, ga1, gb1, gl1, gr1, gv1, ge1, nm1, j1, r1, Hh1, U1, U2, e1⟩ := hq
        obtain ⟨⟨F1, hm1, H1⟩, ⟨f1, t1, u1⟩, ⟨a11, a21, a31, a41, a51, a61, a71, a81⟩, fr1⟩ := id Hh1
        obtain ⟨g01, g11, g21, g31, g41, g51, g61, g71⟩ := id H1
        have hlen1 := g01
        have f_layers1 := (g71 1 (by decide) (by decide) (by decide) (by decide)).trans X.2.2.1
        have f_kind1 := (g71 19 (by decide) (by decide) (by decide) (by decide)).trans X.2.2.2.1
        have f_layerA1 := (g71 20 (by decide) (by decide) (by decide) (by decide)).trans X.2.2.2.2.1
        have f_layerB1 := (g71 21 (by decide) (by decide) (by decide) (by decide)).trans X.2.2.2.2.2.1
        have f_bound1 := (g71 22 (by decide) (by decide) (by decide) (by decide)).trans X.2.2.2.2.2.2.1
        have f_run1 := (g71 23 (by decide) (by decide) (by decide) (by decide)).trans X.2.2.2.2.2.2.2.1
        have f_volt1 := (g71 24 (by decide) (by decide) (by decide) (by decide)).trans X.2.2.2.2.2.2.2.2.1
        have f_end1 := (g71 25 (by decide) (by decide) (by decide) (by decide)).trans X.2.2.2.2.2.2.2.2.2.1
        have f_names1 := (g71 26 (by decide) (by decide) (by decide) (by decide)).trans X.2.2.2.2.2.2.2.2.2.2
        have f_from1 := g21
        have f_length1 := g51
        refine v_iinc (j := 1) (L' := [(1, _), (2, _), (0, _)]) (v := nI (d + 1)) dX13_read_44 rfl (nI_1 _) (Nat.le_of_ble_eq_true rfl) rfl ?_
        refine v_aload_n dX13_read_47 rfl 2 rfl ?_
        refine v_getf 67 (ci := 11) (C := RX13) (T := TX13) (N := 71) rfl iwX13_read_X13 (Nat.le_of_ble_eq_true rfl) (by decide +kernel) dX13_read_48 (by repeat (first | with_reducible assumption | (with_reducible refine sv_us.trans ?_; exact rfl) | with_reducible refine (sv_un (by omega)).trans ?_)) (by repeat (first | with_reducible assumption | (with_reducible refine (sv_ls (by first | omega | (simp only [List.length_set]; omega))).trans ?_; exact rfl) | with_reducible refine (List.getElem?_set_ne (by decide)).trans ?_)) ?_
        refine v_aload_n dX13_read_51 rfl 2 rfl ?_
        refine v_getf 17 (ci := 11) (C := RX13) (T := TX13) (N := 71) rfl iwX13_read_X13 (Nat.le_of_ble_eq_true rfl) (by decide +kernel) dX13_read_52 (by repeat (first | with_reducible assumption | (with_reducible refine sv_us.trans ?_; exact rfl) | with_reducible refine (sv_un (by omega)).trans ?_)) (by repeat (first | with_reducible assumption | (with_reducible refine (sv_ls (by first | omega | (simp only [List.length_set]; omega))).trans ?_; exact rfl) | with_reducible refine (List.getElem?_set_ne (by decide)).trans ?_)) ?_
        refine v_icmp_ge (tgt := 62) dX13_read_55 (by decide) (fun c_55 => ?_) (fun c_55 => ?_)
        · refine v_iconst (v := 0) dX13_read_62 (by decide) ?_
          refine v_istore_n (L' := [(2, _), (1, _), (0, _)]) dX13_read_63 rfl (Nat.le_of_ble_eq_true rfl) rfl ?_
          refine v_goto (tgt := 28) dX13_read_64 (by decide) ?_
          refine v_sub (L' := [(2, _), (1, _), (0, _)]) [0, 1, 2] rfl ?_
          have e0 : rd_rl n tp ly nm d j = rd_rl n tp ly nm0 d j := rd_rl_c hnm
          have K1 : ∀ i, i < 20 → gk1 i = gk0 i ∧ ga1 i = ga0 i ∧ gb1 i = gb0 i ∧ gl1 i = gl0 i ∧ gr1 i = gr0 i ∧ gv1 i = gv0 i ∧ ge1 i = ge0 i := by
            intro i hi
            obtain ⟨k1, k2, k3, k4, k5, k6, k7⟩ := hkp i hi
            obtain ⟨v1, v2, v3, v4, v5, v6, v7⟩ := U1 i (by omega)
            exact ⟨v1.trans k1, v2.trans k2, v3.trans k3, v4.trans k4, v5.trans k5, v6.trans k6, v7.trans k7⟩
          rcases e1 with ⟨s1, s2, x, s3, s4, x0, x1, x2, x3, x4, x5, x6⟩ | ⟨s1, s2⟩
          · subst s1
            have hd20 : d < 20 := s2
            have RW1 : ∀ i, i < d + 1 → gk1 (20 + i) = rd_ut r0 d x 0 i ∧ ga1 (20 + i) = rd_ut r0 d x 1 i ∧ gb1 (20 + i) = rd_ut r0 d x 2 i ∧ gl1 (20 + i) = (rd_ut r0 d x 3 i).toInt64 ∧ gr1 (20 + i) = (if rd_ut r0 d x 4 i < 1 then 1 else rd_ut r0 d x 4 i).toInt64 ∧ gv1 (20 + i) = (rd_ut r0 d x 5 i).toInt64 ∧ ge1 (20 + i) = (rd_ut r0 d x 6 i).toInt64 := by
              intro i hi
              by_cases e9 : i = d
              · subst e9
                simp only [rd_ut, if_pos]
                exact ⟨x0, x1, x2, x3, x4, x5, x6⟩
              · obtain ⟨k1, k2, k3, k4, k5, k6, k7⟩ := hrw i (by omega)
                obtain ⟨v1, v2, v3, v4, v5, v6, v7⟩ := U1 (20 + i) (by omega)
                simp only [rd_ut, if_neg e9]
                exact ⟨v1.trans k1, v2.trans k2, v3.trans k3, v4.trans k4, v5.trans k5, v6.trans k6, v7.trans k7⟩
            have hw9 : wS n tp j1 = 0 := w_end.mpr (fun q => absurd c_55 (nI_ge q (by have := X.1; omega)))
            have e8 : rd_all n tp ly (c + 1) d nm0 r0 j = .inr (d + 1, rd_ut r0 d x) := by
              rw [rd_all, ← e0, s3]; exact if_pos hw9
            refine t_m1 G _ h0 h1 _ b n tp fs ly X j1 gk1 ga1 gb1 gl1 gr1 gv1 ge1 nm1 Hh1 (d + 1) (by omega) (fun h2 F ak aa ab al ar av ae m1 m2 m3 m4 m5 => ?_)
            refine ⟨rfl, F, m5, ⟨_, _, m2⟩, Or.inl ⟨d + 1, rd_ut r0 d x, ak, aa, ab, al, ar, av, ae, nm1, e8, by omega, rfl, m1, m3, fun i hi => ?_⟩⟩
            obtain ⟨k1, k2, k3, k4, k5, k6, k7⟩ := RW1 i hi
            obtain ⟨v1, v2, v3, v4, v5, v6, v7⟩ := m4
            exact ⟨(v1.1 i hi).trans k1, (v2.1 i hi).trans k2, (v3.1 i hi).trans k3, (v4.1 i hi).trans k4, (v5.1 i hi).trans k5, (v6.1 i hi).trans k6, (v7.1 i hi).trans k7⟩
          · refine t_m0 G _ h0 h1 _ b n tp fs ly X j1 r1 gk1 ga1 gb1 gl1 gr1 gv1 ge1 nm1 Hh1 s1 (d + 1) _ (fun h2 F m1 m2 m3 m4 => ?_)
            refine ⟨rfl, F, m4, ⟨_, _, m2⟩, Or.inr ⟨j1, gk1, ga1, gb1, gl1, gr1, gv1, ge1, nm1, ?_, rfl, m1, m3, K1⟩⟩
            rcases s2 with ⟨q1, _⟩ | ⟨_, q2⟩
            · omega
            · rw [rd_all, ← e0, q2]
        · refine v_iconst (v := 1) dX13_read_58 (by decide) ?_
          refine v_goto (tgt := 63) dX13_read_59 (by decide) ?_
          refine v_istore_n (L' := [(2, _), (1, _), (0, _)]) dX13_read_63 rfl (Nat.le_of_ble_eq_true rfl) rfl ?_
          refine v_goto (tgt := 28) dX13_read_64 (by decide) ?_
          refine v_sub (L' := [(2, _), (1, _), (0, _)]) [0, 1, 2] rfl ?_
          have e0 : rd_rl n tp ly nm d j = rd_rl n tp ly nm0 d j := rd_rl_c hnm
          have K1 : ∀ i, i < 20 → gk1 i = gk0 i ∧ ga1 i = ga0 i ∧ gb1 i = gb0 i ∧ gl1 i = gl0 i ∧ gr1 i = gr0 i ∧ gv1 i = gv0 i ∧ ge1 i = ge0 i := by
            intro i hi
            obtain ⟨k1, k2, k3, k4, k5, k6, k7⟩ := hkp i hi
            obtain ⟨v1, v2, v3, v4, v5, v6, v7⟩ := U1 i (by omega)
            exact ⟨v1.trans k1, v2.trans k2, v3.trans k3, v4.trans k4, v5.trans k5, v6.trans k6, v7.trans k7⟩
          rcases e1 with ⟨s1, s2, x, s3, s4, x0, x1, x2, x3, x4, x5, x6⟩ | ⟨s1, s2⟩
          · subst s1
            have hd20 : d < 20 := s2
            have RW1 : ∀ i, i < d + 1 → gk1 (20 + i) = rd_ut r0 d x 0 i ∧ ga1 (20 + i) = rd_ut r0 d x 1 i ∧ gb1 (20 + i) = rd_ut r0 d x 2 i ∧ gl1 (20 + i) = (rd_ut r0 d x 3 i).toInt64 ∧ gr1 (20 + i) = (if rd_ut r0 d x 4 i < 1 then 1 else rd_ut r0 d x 4 i).toInt64 ∧ gv1 (20 + i) = (rd_ut r0 d x 5 i).toInt64 ∧ ge1 (20 + i) = (rd_ut r0 d x 6 i).toInt64 := by
              intro i hi
              by_cases e9 : i = d
              · subst e9
                simp only [rd_ut, if_pos]
                exact ⟨x0, x1, x2, x3, x4, x5, x6⟩
              · obtain ⟨k1, k2, k3, k4, k5, k6, k7⟩ := hrw i (by omega)
                obtain ⟨v1, v2, v3, v4, v5, v6, v7⟩ := U1 (20 + i) (by omega)
                simp only [rd_ut, if_neg e9]
                exact ⟨v1.trans k1, v2.trans k2, v3.trans k3, v4.trans k4, v5.trans k5, v6.trans k6, v7.trans k7⟩
            have hw9 : ¬ wS n tp j1 = 0 := fun q => absurd (w_end.mp q) (not_not_intro ((nI_ltI (by have := lx_W_le n tp j1; have := X.1; omega) (by have := X.1; omega)).mp (Int32.not_le.mp c_55)))
            have e8 : rd_all n tp ly (c + 1) d nm0 r0 j = rd_all n tp ly c (d + 1) (rd_un nm0 d (wV n tp j)) (rd_ut r0 d x) j1 := by
              rw [rd_all, ← e0, s3]; exact if_neg hw9
            refine v_mq ?_ (ih (d + 1) j1 gk1 ga1 gb1 gl1 gr1 gv1 ge1 nm1 (rd_un nm0 d (wV n tp j)) (rd_ut r0 d x) h1 Hh1 (by omega) (fun i hi => ?_) RW1 K1)
            · intro v h2 z2 hq
              rw [e8]
              exact hq
            · by_cases e9 : i = d
              · rw [e9, s4, rd_un, if_pos rfl]
              · rw [rd_un, if_neg e9, U2 i e9]; exact hnm i (by omega)
          · refine t_m0 G _ h0 h1 _ b n tp fs ly X j1 r1 gk1 ga1 gb1 gl1 gr1 gv1 ge1 nm1 Hh1 s1 (d + 1) _ (fun h2 F m1 m2 m3 m4 => ?_)
            refine ⟨rfl, F, m4, ⟨_, _, m2⟩, Or.inr ⟨j1, gk1, ga1, gb1, gl1, gr1, gv1, ge1, nm1, ?_, rfl, m1, m3, K1⟩⟩
            rcases s2 with ⟨q1, _⟩ | ⟨_, q2⟩
            · omega
            · rw [rd_all, ← e0, q2]

set_option maxHeartbeats 4000000 in
set_option maxRecDepth 100000 in
theorem m_read (G : sv_G) (h : sv_h) (z b n : Nat) (tp : Nat → Int32) (fs : List Value) (ly : Int32) (X : mx_ b n tp (fs.set 0 (.int 0)) ly) (hlen : fs.length = 71) (f_length : fs[17]? = some (.int (nI n))) (f_tape : fs[16]? = some (.ref (b + 232))) (hm : h (b + 220) = some (.inr (11, fs))) (f : Nat → Int32) (t2 : ab_I G h (b + 232) 600 f) (htp : ∀ i, i < n → f i = tp i) (gk ga gb : Nat → Int32) (gl gr gv ge nm : Nat → Int64) (A : ma_ G h b gk ga gb gl gr gv ge nm) : CT G mX13_read [.ref (b + 220)] h z (fun v h1 z1 => z1 = z ∧ ∃ F : List Value, (∀ w, w ≠ b + 220 → ¬ (b + 233 ≤ w ∧ w ≤ b + 240) → h1 w = h w) ∧ (∃ (j1 : Nat) (r9 : Int32), ms_ b n tp (fs.set 0 (.int 0)) F j1 r9) ∧ ((∃ (d1 : Nat) (r1 : Nat → Nat → Int32) (ak aa ab : Nat → Int32) (al ar av ae nm1 : Nat → Int64), rd_all n tp ly 20 0 (fun _ => 0) (fun _ _ => 0) 0 = .inr (d1, r1) ∧ d1 ≤ 20 ∧ v = some (.int (nI d1)) ∧ h1 (b + 220) = some (.inr (11, (((((F.set 17 (.int 0)).set 18 (.int (nI d1))).set 30 (.int 0)).set 31 (.int (-1))).set 33 (.int 0)))) ∧ ma_ G h1 b ak aa ab al ar av ae nm1 ∧ ∀ i, i < d1 → ak i = r1 0 i ∧ aa i = r1 1 i ∧ ab i = r1 2 i ∧ al i = (r1 3 i).toInt64 ∧ ar i = (if r1 4 i < 1 then 1 else r1 4 i).toInt64 ∧ av i = (r1 5 i).toInt64 ∧ ae i = (r1 6 i).toInt64) ∨ (∃ (e : Nat) (ak aa ab : Nat → Int32) (al ar av ae nm1 : Nat → Int64), rd_all n tp ly 20 0 (fun _ => 0) (fun _ _ => 0) 0 = .inl e ∧ v = some (.int (-1 - nI e)) ∧ h1 (b + 220) = some (.inr (11, F.set 17 (.int 0))) ∧ ma_ G h1 b ak aa ab al ar av ae nm1 ∧ ∀ i, i < 20 → ak i = gk i ∧ aa i = ga i ∧ ab i = gb i ∧ al i = gl i ∧ ar i = gr i ∧ av i = gv i ∧ ae i = ge i))) := by
  refine CT.of (by decide +kernel) rfl rfl (Nat.le_of_ble_eq_true rfl) ?_
  obtain ⟨a1, a2, a3, a4, a5, a6, a7, a8⟩ := id A
  refine v_aload_n dX13_read_0 rfl 0 rfl ?_
  refine v_iconst (v := 0) dX13_read_1 (by decide) ?_
  refine v_putf 0 (fs' := _) (ci := 11) (C := RX13) (T := TX13) (N := 71) (ty := .int) rfl iwX13_read_X13 tyX13 tyX13_ok nmX13 (Nat.le_of_ble_eq_true rfl) (by decide +kernel) rfl rfl dX13_read_2 rfl rfl (by repeat (first | with_reducible assumption | (with_reducible refine sv_us.trans ?_; exact rfl) | with_reducible refine (sv_un (by omega)).trans ?_)) (by first | omega | (simp only [List.length_set]; omega)) rfl ?_
  refine v_aload_n dX13_read_5 rfl 0 rfl ?_
  refine v_iconst (v := 0) dX13_read_6 (by decide) ?_
  refine v_putf 68 (fs' := _) (ci := 11) (C := RX13) (T := TX13) (N := 71) (ty := .int) rfl iwX13_read_X13 tyX13 tyX13_ok nmX13 (Nat.le_of_ble_eq_true rfl) (by decide +kernel) rfl rfl dX13_read_7 rfl rfl (by repeat (first | with_reducible assumption | (with_reducible refine sv_us.trans ?_; exact rfl) | with_reducible refine (sv_un (by omega)).trans ?_)) (by first | omega | (simp only [List.length_set]; omega)) rfl ?_
  refine v_aload_n dX13_read_10 rfl 0 rfl ?_
  refine v_iconst (v := (-1)) dX13_read_11 (by decide) ?_
  refine v_putf 69 (fs' := _) (ci := 11) (C := RX13) (T := TX13) (N := 71) (ty := .int) rfl iwX13_read_X13 tyX13 tyX13_ok nmX13 (Nat.le_of_ble_eq_true rfl) (by decide +kernel) rfl rfl dX13_read_12 rfl rfl (by repeat (first | with_reducible assumption | (with_reducible refine sv_us.trans ?_; exact rfl) | with_reducible refine (sv_un (by omega)).trans ?_)) (by first | omega | (simp only [List.length_set]; omega)) rfl ?_
  refine v_aload_n dX13_read_15 rfl 0 rfl ?_
  refine v_iconst (v := 1) dX13_read_16 (by decide) ?_
  refine v_putf 70 (fs' := _) (ci := 11) (C := RX13) (T := TX13) (N := 71) (ty := .boolean) rfl iwX13_read_X13 tyX13 tyX13_ok nmX13 (Nat.le_of_ble_eq_true rfl) (by decide +kernel) rfl rfl dX13_read_17 rfl rfl (by repeat (first | with_reducible assumption | (with_reducible refine sv_us.trans ?_; exact rfl) | with_reducible refine (sv_un (by omega)).trans ?_)) (by first | omega | (simp only [List.length_set]; omega)) rfl ?_
  refine v_aload_n dX13_read_20 rfl 0 rfl ?_
  refine v_callVq (M' := mX13_next) (n := 0) (As := []) (ci := 11) (r := (RX13, TX13, 71)) gX13_read_X13_next rfl (by decide +kernel) ⟨(Nat.le_of_ble_eq_true rfl), (Nat.le_of_ble_eq_true rfl)⟩ rfl rfl dX13_read_21 rfl ⟨(Nat.le_of_ble_eq_true rfl), (Nat.le_of_ble_eq_true rfl)⟩ (Nat.le_of_ble_eq_true rfl) (by repeat (first | with_reducible assumption | (with_reducible refine sv_us.trans ?_; exact rfl) | with_reducible refine (sv_un (by omega)).trans ?_)) rfl (m_nextF G _ z b n ((((fs.set 0 (.int 0)).set 68 (.int 0)).set 69 (.int (-1))).set 70 (.int 1)) f tp (-1) ((sv_un (by omega)).trans ((sv_un (by omega)).trans ((sv_un (by omega)).trans ((sv_un (by omega)).trans (t2))))) htp X.1 0 (Nat.zero_le n) (by simp only [List.length_set]; exact hlen) sv_us (by repeat (first | with_reducible assumption | (with_reducible refine (sv_ls (by first | omega | (simp only [List.length_set]; omega))).trans ?_; exact rfl) | with_reducible refine (List.getElem?_set_ne (by decide)).trans ?_)) (by rw [nI_0]; repeat (first | with_reducible assumption | (with_reducible refine (sv_ls (by first | omega | (simp only [List.length_set]; omega))).trans ?_; exact rfl) | with_reducible refine (List.getElem?_set_ne (by decide)).trans ?_)) (by repeat (first | with_reducible assumption | (with_reducible refine (sv_ls (by first | omega | (simp only [List.length_set]; omega))).trans ?_; exact rfl) | with_reducible refine (List.getElem?_set_ne (by decide)).trans ?_)) (by repeat (first | with_reducible assumption | (with_reducible refine (sv_ls (by first | omega | (simp only [List.length_set]; omega))).trans ?_; exact rfl) | with_reducible refine (List.getElem?_set_ne (by decide)).trans ?_))) (fun v h1 z1 hq => ?_)
  obtain ⟨rfl, rfl, ⟨a9, e9, F, T1, k2, k3, k4, k5, k6, k7, k8, k11⟩, k10⟩ := hq
  refine v_iconst (v := 0) dX13_read_24 (by decide) ?_
  refine v_istore_n (L' := [(1, _), (0, _)]) dX13_read_25 rfl (Nat.le_of_ble_eq_true rfl) rfl ?_
  refine v_iconst (v := 1) dX13_read_26 (by decide) ?_
  refine v_istore_n (L' := [(2, _), (1, _), (0, _)]) dX13_read_27 rfl (Nat.le_of_ble_eq_true rfl) rfl ?_
  refine v_sub (L' := [(2, _), (1, _), (0, _)]) [0, 1, 2] rfl ?_
  obtain ⟨rfl, rfl⟩ := lx_W_0 T1
  have k9 : ∀ w, w ≠ b + 220 → h1 w = h w := fun w p => (k10 w p).trans ((sv_un p).trans ((sv_un p).trans ((sv_un p).trans (sv_un p))))
  refine l_mread G h _ b n tp (fs.set 0 (.int 0)) ly X gk ga gb gl gr gv ge 20 0 0 gk ga gb gl gr gv ge nm (fun _ => 0) (fun _ _ => 0) h1 ⟨⟨F, k2, k3, ?_, k5, k6, ?_, k7, k8, fun i i1 i2 i3 i4 => ?_⟩, ⟨f, (k9 _ (by omega)).trans t2, htp⟩, ⟨(k9 _ (by omega)).trans a1, (k9 _ (by omega)).trans a2, (k9 _ (by omega)).trans a3, (k9 _ (by omega)).trans a4, (k9 _ (by omega)).trans a5, (k9 _ (by omega)).trans a6, (k9 _ (by omega)).trans a7, (k9 _ (by omega)).trans a8⟩, fun w p _ => k9 w p⟩ (by omega) (fun i hi => absurd hi (Nat.not_lt_zero i)) (fun i hi => absurd hi (Nat.not_lt_zero i)) (fun i hi => ⟨rfl, rfl, rfl, rfl, rfl, rfl, rfl⟩)
  · rw [k4]; rfl
  · rw [k11 70 (by decide) (by decide) (by decide)]; exact sv_ls (by simp only [List.length_set]; omega)
  · rw [k11 i i1 i2 i3]
    refine (List.getElem?_set_ne (fun q => i4 q.symm)).trans ((List.getElem?_set_ne (fun q => i1 q.symm)).trans ?_)
    exact List.getElem?_set_ne (fun q => i3 q.symm)

