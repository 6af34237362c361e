set_option maxHeartbeats 4000000 in
set_option maxRecDepth 100000 in
theorem l_tally3 (G : sv_G) (P : sv_P) (h : sv_h) (z b nc np pl : Nat) (k : Int32) (hly : h (b + 1) = some (.inr (1, [.int k, .int (nI nc), .ref (b + 2), .int (nI np), .ref (b + 3), .ref (b + 4), .ref (b + 5), .int (nI pl), .ref (b + 6), .ref (b + 7)]))) (hnc : nc ≤ 16) (g he : Nat → Int32) (hgg : ab_I G h (b + 7) 16 g) (hk : ∀ (hi : sv_h) (f : Nat → Int32) (w w2 : Int32), ab_I G hi (b + 6) 16 f → (∀ c, c < nc → f c = g c) → (∀ c, nc ≤ c → c < 16 → f c = he c) → ((w = 1) ∨ (w = 0 ∧ ∀ c, c < nc → he c = g c)) → (∀ w, w ≠ b + 6 → hi w = h w) → V G mX3_tallyOnce P 166 [(2, .int w2), (1, .int w), (0, .ref (b + 1))] [] hi z 0 0) : ∀ (c i : Nat) (hi : sv_h) (f : Nat → Int32) (w : Int32), i + c = nc → ab_I G hi (b + 6) 16 f → (∀ c, c < i → f c = g c) → (∀ c, i ≤ c → c < 16 → f c = he c) → ((w = 1) ∨ (w = 0 ∧ ∀ c, c < i → he c = g c)) → (∀ w, w ≠ b + 6 → hi w = h w) → V G mX3_tallyOnce P 115 [(2, .int (nI i)), (1, .int w), (0, .ref (b + 1))] [] hi z 0 0 := by
  intro c
  induction c with
  | zero =>
    intro i hi f w hic hf k1 k2 k3 hfr
    refine v_iload_n dX3_tallyOnce_115 rfl 0 rfl ?_
    refine v_aload_n dX3_tallyOnce_116 rfl 2 rfl ?_
    refine v_getf 1 (ci := 1) (C := RX3) (T := TX3) (N := 10) rfl iwX3_tallyOnce_X3 (Nat.le_of_ble_eq_true rfl) (by decide +kernel) dX3_tallyOnce_117 (by repeat (first | with_reducible assumption | with_reducible exact (hfr _ (by omega)).trans hly | with_reducible exact (hfr _ (by omega)).trans hgg | with_reducible refine (sv_un (by omega)).trans ?_)) (by exact rfl) ?_
    refine v_icmp_ge (tgt := 166) dX3_tallyOnce_120 (by decide) (fun c_120 => ?_) (fun c_120 => ?_)
    · (obtain rfl : i = nc := by omega)
      exact hk _ f _ _ hf k1 k2 k3 hfr
    · exact absurd (show nI nc ≤ nI i from nI_le (by omega) (by omega)) c_120
  | succ c ih =>
    intro i hi f w hic hf k1 k2 k3 hfr
    refine v_iload_n dX3_tallyOnce_115 rfl 0 rfl ?_
    refine v_aload_n dX3_tallyOnce_116 rfl 2 rfl ?_
    refine v_getf 1 (ci := 1) (C := RX3) (T := TX3) (N := 10) rfl iwX3_tallyOnce_X3 (Nat.le_of_ble_eq_true rfl) (by decide +kernel) dX3_tallyOnce_117 (by repeat (first | with_reducible assumption | with_reducible exact (hfr _ (by omega)).trans hly | with_reducible exact (hfr _ (by omega)).trans hgg | with_reducible refine (sv_un (by omega)).trans ?_)) (by exact rfl) ?_
    refine v_icmp_ge (tgt := 166) dX3_tallyOnce_120 (by decide) (fun c_120 => ?_) (fun c_120 => ?_)
    · exact absurd c_120 (nI_ge (by omega) (by omega))
    · refine v_iload_n dX3_tallyOnce_123 rfl 1 rfl ?_
      refine v_if_ne (tgt := 142) dX3_tallyOnce_124 (by decide) (fun c_124 => ?_) (fun c_124 => ?_)
      · refine v_iconst (v := 1) dX3_tallyOnce_142 (by decide) ?_
        refine v_goto (tgt := 147) dX3_tallyOnce_143 (by decide) ?_
        refine v_istore_n (L' := [(1, _), (2, _), (0, _)]) dX3_tallyOnce_147 rfl (Nat.le_of_ble_eq_true rfl) rfl ?_
        refine v_aload_n dX3_tallyOnce_148 rfl 2 rfl ?_
        refine v_getf 8 (ci := 1) (C := RX3) (T := TX3) (N := 10) rfl iwX3_tallyOnce_X3 (Nat.le_of_ble_eq_true rfl) (by decide +kernel) dX3_tallyOnce_149 (by repeat (first | with_reducible assumption | with_reducible exact (hfr _ (by omega)).trans hly | with_reducible exact (hfr _ (by omega)).trans hgg | with_reducible refine (sv_un (by omega)).trans ?_)) (by exact rfl) ?_
        refine v_iload_n dX3_tallyOnce_152 rfl 1 rfl ?_
        refine v_aload_n dX3_tallyOnce_153 rfl 2 rfl ?_
        refine v_getf 9 (ci := 1) (C := RX3) (T := TX3) (N := 10) rfl iwX3_tallyOnce_X3 (Nat.le_of_ble_eq_true rfl) (by decide +kernel) dX3_tallyOnce_154 (by repeat (first | with_reducible assumption | with_reducible exact (hfr _ (by omega)).trans hly | with_reducible exact (hfr _ (by omega)).trans hgg | with_reducible refine (sv_un (by omega)).trans ?_)) (by exact rfl) ?_
        refine v_iload_n dX3_tallyOnce_157 rfl 1 rfl ?_
        refine v_ialdS (v := g i) dX3_tallyOnce_158 (by repeat (first | with_reducible assumption | with_reducible exact (hfr _ (by omega)).trans hly | with_reducible exact (hfr _ (by omega)).trans hgg | with_reducible refine (sv_un (by omega)).trans ?_)) (vp_in_nI (by omega) (by omega)) (by rw [nI_clamp (by omega)]) ?_
        refine v_iast dX3_tallyOnce_159 (by repeat (first | with_reducible assumption | with_reducible exact (hfr _ (by omega)).trans hly | with_reducible exact (hfr _ (by omega)).trans hgg | with_reducible refine (sv_un (by omega)).trans ?_)) (vp_in_nI (by omega) (by omega)) ?_
        refine v_iinc (j := 1) (L' := [(2, _), (1, _), (0, _)]) (v := nI (i + 1)) dX3_tallyOnce_160 rfl (nI_1 _) (Nat.le_of_ble_eq_true rfl) rfl ?_
        refine v_goto (tgt := 115) dX3_tallyOnce_163 (by decide) ?_
        refine v_sub (L' := [(2, _), (1, _), (0, _)]) [0, 1, 2] rfl ?_
        rw [nI_clamp (n := i) (by omega)]
        refine ih (i + 1) _ _ _ (by omega) sv_us (fun c hc => ?_) (fun c h1 h2 => ?_) ?_ (fun w q => (sv_un q).trans (hfr w q))
        · by_cases e : c = i
          · rw [e]; simp [upd]
          · simp only [upd, if_neg e]; exact k1 c (by omega)
        · have e : ¬ c = i := by omega
          simp only [upd, if_neg e]; exact k2 c (by omega) h2
        · first
          | exact Or.inl rfl
          | (refine Or.inr ⟨rfl, fun c hc => ?_⟩
             by_cases e : c = i
             · rw [e]; exact c_139
             · exact ((k3.resolve_left (fun q => by rw [q] at c_124; exact absurd c_124 (by decide))).2) c (by omega))
      · refine v_aload_n dX3_tallyOnce_127 rfl 2 rfl ?_
        refine v_getf 8 (ci := 1) (C := RX3) (T := TX3) (N := 10) rfl iwX3_tallyOnce_X3 (Nat.le_of_ble_eq_true rfl) (by decide +kernel) dX3_tallyOnce_128 (by repeat (first | with_reducible assumption | with_reducible exact (hfr _ (by omega)).trans hly | with_reducible exact (hfr _ (by omega)).trans hgg | with_reducible refine (sv_un (by omega)).trans ?_)) (by exact rfl) ?_
        refine v_iload_n dX3_tallyOnce_131 rfl 0 rfl ?_
        refine v_ialdS (v := he i) dX3_tallyOnce_132 (by repeat (first | with_reducible assumption | with_reducible exact (hfr _ (by omega)).trans hly | with_reducible exact (hfr _ (by omega)).trans hgg | with_reducible refine (sv_un (by omega)).trans ?_)) (vp_in_nI (by omega) (by omega)) (by rw [nI_clamp (by omega)]; exact k2 i (by omega) (by omega)) ?_
        refine v_aload_n dX3_tallyOnce_133 rfl 2 rfl ?_
        refine v_getf 9 (ci := 1) (C := RX3) (T := TX3) (N := 10) rfl iwX3_tallyOnce_X3 (Nat.le_of_ble_eq_true rfl) (by decide +kernel) dX3_tallyOnce_134 (by repeat (first | with_reducible assumption | with_reducible exact (hfr _ (by omega)).trans hly | with_reducible exact (hfr _ (by omega)).trans hgg | with_reducible refine (sv_un (by omega)).trans ?_)) (by exact rfl) ?_
        refine v_iload_n dX3_tallyOnce_137 rfl 0 rfl ?_
        refine v_ialdS (v := g i) dX3_tallyOnce_138 (by repeat (first | with_reducible assumption | with_reducible exact (hfr _ (by omega)).trans hly | with_reducible exact (hfr _ (by omega)).trans hgg | with_reducible refine (sv_un (by omega)).trans ?_)) (vp_in_nI (by omega) (by omega)) (by rw [nI_clamp (by omega)]) ?_
        refine v_icmp_eq (tgt := 146) dX3_tallyOnce_139 (by decide) (fun c_139 => ?_) (fun c_139 => ?_)
        · refine v_iconst (v := 0) dX3_tallyOnce_146 (by decide) ?_
          refine v_istore_n (L' := [(1, _), (2, _), (0, _)]) dX3_tallyOnce_147 rfl (Nat.le_of_ble_eq_true rfl) rfl ?_
          refine v_aload_n dX3_tallyOnce_148 rfl 2 rfl ?_
          refine v_getf 8 (ci := 1) (C := RX3) (T := TX3) (N := 10) rfl iwX3_tallyOnce_X3 (Nat.le_of_ble_eq_true rfl) (by decide +kernel) dX3_tallyOnce_149 (by repeat (first | with_reducible assumption | with_reducible exact (hfr _ (by omega)).trans hly | with_reducible exact (hfr _ (by omega)).trans hgg | with_reducible refine (sv_un (by omega)).trans ?_)) (by exact rfl) ?_
          refine v_iload_n dX3_tallyOnce_152 rfl 1 rfl ?_
          refine v_aload_n dX3_tallyOnce_153 rfl 2 rfl ?_
          refine v_getf 9 (ci := 1) (C := RX3) (T := TX3) (N := 10) rfl iwX3_tallyOnce_X3 (Nat.le_of_ble_eq_true rfl) (by decide +kernel) dX3_tallyOnce_154 (by repeat (first | with_reducible assumption | with_reducible exact (hfr _ (by omega)).trans hly | with_reducible exact (hfr _ (by omega)).trans hgg | with_reducible refine (sv_un (by omega)).trans ?_)) (by exact rfl) ?_
          refine v_iload_n dX3_tallyOnce_157 rfl 1 rfl ?_
          refine v_ialdS (v := g i) dX3_tallyOnce_158 (by repeat (first | with_reducible assumption | with_reducible exact (hfr _ (by omega)).trans hly | with_reducible exact (hfr _ (by omega)).trans hgg | with_reducible refine (sv_un (by omega)).trans ?_)) (vp_in_nI (by omega) (by omega)) (by rw [nI_clamp (by omega)]) ?_
          refine v_iast dX3_tallyOnce_159 (by repeat (first | with_reducible assumption | with_reducible exact (hfr _ (by omega)).trans hly | with_reducible exact (hfr _ (by omega)).trans hgg | with_reducible refine (sv_un (by omega)).trans ?_)) (vp_in_nI (by omega) (by omega)) ?_
          refine v_iinc (j := 1) (L' := [(2, _), (1, _), (0, _)]) (v := nI (i + 1)) dX3_tallyOnce_160 rfl (nI_1 _) (Nat.le_of_ble_eq_true rfl) rfl ?_
          refine v_goto (tgt := 115) dX3_tallyOnce_163 (by decide) ?_
          refine v_sub (L' := [(2, _), (1, _), (0, _)]) [0, 1, 2] rfl ?_
          rw [nI_clamp (n := i) (by omega)]
          refine ih (i + 1) _ _ _ (by omega) sv_us (fun c hc => ?_) (fun c h1 h2 => ?_) ?_ (fun w q => (sv_un q).trans (hfr w q))
          · by_cases e : c = i
            · rw [e]; simp [upd]
            · simp only [upd, if_neg e]; exact k1 c (by omega)
          · have e : ¬ c = i := by omega
            simp only [upd, if_neg e]; exact k2 c (by omega) h2
          · first
            | exact Or.inl rfl
            | (refine Or.inr ⟨rfl, fun c hc => ?_⟩
               by_cases e : c = i
               · rw [e]; exact c_139
               · exact ((k3.resolve_left (fun q => by rw [q] at c_124; exact absurd c_124 (by decide))).2) c (by omega))
        · refine v_iconst (v := 1) dX3_tallyOnce_142 (by decide) ?_
          refine v_goto (tgt := 147) dX3_tallyOnce_143 (by decide) ?_
          refine v_istore_n (L' := [(1, _), (2, _), (0, _)]) dX3_tallyOnce_147 rfl (Nat.le_of_ble_eq_true rfl) rfl ?_
          refine v_aload_n dX3_tallyOnce_148 rfl 2 rfl ?_
          refine v_getf 8 (ci := 1) (C := RX3) (T := TX3) (N := 10) rfl iwX3_tallyOnce_X3 (Nat.le_of_ble_eq_true rfl) (by decide +kernel) dX3_tallyOnce_149 (by repeat (first | with_reducible assumption | with_reducible exact (hfr _ (by omega)).trans hly | with_reducible exact (hfr _ (by omega)).trans hgg | with_reducible refine (sv_un (by omega)).trans ?_)) (by exact rfl) ?_
          refine v_iload_n dX3_tallyOnce_152 rfl 1 rfl ?_
          refine v_aload_n dX3_tallyOnce_153 rfl 2 rfl ?_
          refine v_getf 9 (ci := 1) (C := RX3) (T := TX3) (N := 10) rfl iwX3_tallyOnce_X3 (Nat.le_of_ble_eq_true rfl) (by decide +kernel) dX3_tallyOnce_154 (by repeat (first | with_reducible assumption | with_reducible exact (hfr _ (by omega)).trans hly | with_reducible exact (hfr _ (by omega)).trans hgg | with_reducible refine (sv_un (by omega)).trans ?_)) (by exact rfl) ?_
          refine v_iload_n dX3_tallyOnce_157 rfl 1 rfl ?_
          refine v_ialdS (v := g i) dX3_tallyOnce_158 (by repeat (first | with_reducible assumption | with_reducible exact (hfr _ (by omega)).trans hly | with_reducible exact (hfr _ (by omega)).trans hgg | with_reducible refine (sv_un (by omega)).trans ?_)) (vp_in_nI (by omega) (by omega)) (by rw [nI_clamp (by omega)]) ?_
          refine v_iast dX3_tallyOnce_159 (by repeat (first | with_reducible assumption | with_reducible exact (hfr _ (by omega)).trans hly | with_reducible exact (hfr _ (by omega)).trans hgg | with_reducible refine (sv_un (by omega)).trans ?_)) (vp_in_nI (by omega) (by omega)) ?_
          refine v_iinc (j := 1) (L' := [(2, _), (1, _), (0, _)]) (v := nI (i + 1)) dX3_tallyOnce_160 rfl (nI_1 _) (Nat.le_of_ble_eq_true rfl) rfl ?_
          refine v_goto (tgt := 115) dX3_tallyOnce_163 (by decide) ?_
          refine v_sub (L' := [(2, _), (1, _), (0, _)]) [0, 1, 2] rfl ?_
          rw [nI_clamp (n := i) (by omega)]
          refine ih (i + 1) _ _ _ (by omega) sv_us (fun c hc => ?_) (fun c h1 h2 => ?_) ?_ (fun w q => (sv_un q).trans (hfr w q))
          · by_cases e : c = i
            · rw [e]; simp [upd]
            · simp only [upd, if_neg e]; exact k1 c (by omega)
          · have e : ¬ c = i := by omega
            simp only [upd, if_neg e]; exact k2 c (by omega) h2
          · first
            | exact Or.inl rfl
            | (refine Or.inr ⟨rfl, fun c hc => ?_⟩
               by_cases e : c = i
               · rw [e]; exact c_139
               · exact ((k3.resolve_left (fun q => by rw [q] at c_124; exact absurd c_124 (by decide))).2) c (by omega))

set_option maxHeartbeats 4000000 in
set_option maxRecDepth 100000 in
theorem c_tallyOnce (G : sv_G) (h : sv_h) (z b nc np pl : Nat) (k : Int32) (R : Nat → Bool) (hm p3 p4 pa : Nat → Nat) (fq : Nat → Option Nat) (fh fg : Nat → Int32) (hly : h (b + 1) = some (.inr (1, [.int k, .int (nI nc), .ref (b + 2), .int (nI np), .ref (b + 3), .ref (b + 4), .ref (b + 5), .int (nI pl), .ref (b + 6), .ref (b + 7)]))) (hq2 : ab_Q G h (b + 2) 4 64 fq) (hqa : ∀ p, p < np → fq p = some (pa p) ∧ hm p < nc ∧ pa p ≠ b + 6 ∧ pa p ≠ b + 7 ∧ ∃ (l0 n0 vo ar : Int32) (x1 x2 x3 x4 : Nat), h (pa p) = some (.inr (3, [.int (nI (hm p)), .int l0, .ref x1, .ref x2, .int n0, .int vo, .int (if R p = true then 1 else 0), .int ar, .ref x3, .ref x4]))) (hh1 : ab_I G h (b + 3) 32 fh) (hh2 : ab_I G h (b + 4) 32 fg) (hnc : nc ≤ 16) (hnp : np ≤ 64) (hpl : pl ≤ 32) (hpp : ∀ i, i < pl → fh i = nI (p3 i) ∧ fg i = nI (p4 i) ∧ p3 i < nc ∧ p4 i < nc) (he : Nat → Int32) (hhe : ab_I G h (b + 6) 16 he) (r : Nat) (hev : ∀ c, c < nc → he c = nI (min 101 (oc_n np pl R hm p3 p4 r c))) (g0 : Nat → Int32) (hg0 : ab_I G h (b + 7) 16 g0) : CT G mX3_tallyOnce [.ref (b + 1)] h z (fun v h1 z1 => z1 = z ∧ ∃ (w : Int32) (he1 g1 : Nat → Int32), v = some (.int w) ∧ ab_I G h1 (b + 6) 16 he1 ∧ (∀ c, c < nc → he1 c = nI (min 101 (oc_n np pl R hm p3 p4 (r + 1) c))) ∧ (w = 1 ∨ (w = 0 ∧ ∀ c, c < nc → he c = he1 c)) ∧ ab_I G h1 (b + 7) 16 g1 ∧ ∀ a, a ≠ b + 6 → a ≠ b + 7 → h1 a = h a) := by
  refine CT.of (by decide +kernel) rfl rfl (Nat.le_of_ble_eq_true rfl) ?_
  refine v_aload_n dX3_tallyOnce_0 rfl 0 rfl ?_
  refine v_getf 9 (ci := 1) (C := RX3) (T := TX3) (N := 10) rfl iwX3_tallyOnce_X3 (Nat.le_of_ble_eq_true rfl) (by decide +kernel) dX3_tallyOnce_1 (by repeat (first | (with_reducible refine sv_us.trans ?_; exact rfl) | with_reducible assumption | with_reducible refine (sv_un (by omega)).trans ?_)) (by exact rfl) ?_
  refine v_iconst (v := 0) dX3_tallyOnce_4 (by decide) ?_
  refine v_callSq (M' := mJ7_fill_53178) (n := 2) (As := [_, _]) ggX3_tallyOnce_J7_fill_53178 (by decide +kernel) (by decide +kernel) (by decide +kernel) rfl (by decide +kernel) ⟨(Nat.le_of_ble_eq_true rfl), (Nat.le_of_ble_eq_true rfl)⟩ dX3_tallyOnce_5 rfl ⟨(Nat.le_of_ble_eq_true rfl), (Nat.le_of_ble_eq_true rfl)⟩ (Nat.le_of_ble_eq_true rfl) rfl (c_fill G _ _ (b + 7) 16 0 g0 (by decide) hg0) (fun v h1 z1 hq => ?_)
  obtain ⟨rfl, rfl, ⟨g1, j1, j2⟩, j3⟩ := hq
  refine v_iconst (v := 0) dX3_tallyOnce_8 (by decide) ?_
  refine v_istore_n (L' := [(1, _), (0, _)]) dX3_tallyOnce_9 rfl (Nat.le_of_ble_eq_true rfl) rfl ?_
  refine v_sub (L' := [(1, _), (0, _)]) [0, 1] rfl ?_
  refine l_tally1 G _ h _ b nc np pl k R hm p3 p4 pa fq fh fg hly hq2 hqa hh1 hh2 hnc hnp hpl hpp (fun h5 g5 w5 m1 m2 m3 => ?_) np 0 _ g1 (by omega) j1 (fun c hc => j2 c hc) j3
  refine v_iconst (v := 0) dX3_tallyOnce_54 (by decide) ?_
  refine v_istore_n (L' := [(1, _), (0, _)]) dX3_tallyOnce_55 rfl (Nat.le_of_ble_eq_true rfl) rfl ?_
  refine l_tally2 G _ h _ b nc np pl k R hm p3 p4 pa fq fh fg hly hq2 hqa hh1 hh2 hnc hnp hpl hpp he hhe r hev (fun h6 g6 w6 n1 n2 n3 => ?_) pl 0 h5 g5 (by omega) m1 (fun c hc => by rw [m2 c hc]; congr 1; have := oc_w_le R hm c np; show _ = min 101 (_ + 0); omega) m3
  refine v_iconst (v := 0) dX3_tallyOnce_111 (by decide) ?_
  refine v_istore_n (L' := [(1, _), (0, _)]) dX3_tallyOnce_112 rfl (Nat.le_of_ble_eq_true rfl) rfl ?_
  refine v_iconst (v := 0) dX3_tallyOnce_113 (by decide) ?_
  refine v_istore_n (L' := [(2, _), (1, _), (0, _)]) dX3_tallyOnce_114 rfl (Nat.le_of_ble_eq_true rfl) rfl ?_
  refine l_tally3 G _ h6 _ b nc np pl k ((n3 _ (by omega)).trans hly) hnc g6 he n1 (fun h7 f7 w7 w8 o1 o2 o3 o4 o5 => ?_) nc 0 h6 he 0 (by omega) ((n3 _ (by omega)).trans hhe) (fun c hc => absurd hc (Nat.not_lt_zero c)) (fun c _ _ => rfl) (Or.inr ⟨rfl, fun c hc => absurd hc (Nat.not_lt_zero c)⟩) (fun _ _ => rfl)
  refine v_iload_n dX3_tallyOnce_166 rfl 1 rfl ?_
  exact v_iret rfl dX3_tallyOnce_167 (Nat.le_of_ble_eq_true rfl) (Nat.le_of_ble_eq_true rfl) (by rcases o4 with e9 | ⟨e9, _⟩ <;> (rw [e9]; rfl)) ⟨rfl, w7, f7, g6, rfl, o1, fun c hc => (o2 c hc).trans (n2 c (by omega)), o4.imp (fun q => q) (fun q => ⟨q.1, fun c hc => (q.2 c hc).trans (o2 c hc).symm⟩), (o5 _ (by omega)).trans n1, fun a q1 q2 => (o5 a q1).trans (n3 a q2)⟩

theorem oc_stab {nc np pl : Nat} {R : Nat → Bool} {hm p3 p4 : Nat → Nat} {r : Nat} (hp : ∀ i, i < pl → p4 i < nc) (h : ∀ c, c < nc → min 101 (oc_n np pl R hm p3 p4 (r + 1) c) = min 101 (oc_n np pl R hm p3 p4 r c)) : ∀ k, ∀ c, c < nc → min 101 (oc_n np pl R hm p3 p4 (r + k) c) = min 101 (oc_n np pl R hm p3 p4 r c)
  | 0 => fun _ _ => rfl
  | k + 1 => by
    intro c hc
    have ih := oc_stab (nc := nc) (np := np) (pl := pl) (R := R) (hm := hm) (p3 := p3) (p4 := p4) (r := r) hp h k
    rw [← h c hc]
    show min 101 (oc_w R hm c np + oc_s p3 p4 (oc_n np pl R hm p3 p4 (r + k)) c pl) = min 101 (oc_w R hm c np + oc_s p3 p4 (oc_n np pl R hm p3 p4 r) c pl)
    exact oc_cl 101 pl (fun j hj => ih _ (hp j hj))
abbrev mX3_tally : sv_M := (cX3_tally, 3, yX3_tally, wsX3_tally, (some .int), { frames := 3, cells := 0, slots := 0, locals := 82 }, [])
theorem sv_ts {nc np pl r : Nat} {R : Nat → Bool} {hm p3 p4 : Nat → Nat} {he he1 : Nat → Int32} (h1 : ∀ c, c < nc → he c = nI (min 101 (oc_n np pl R hm p3 p4 r c))) (h2 : ∀ c, c < nc → he1 c = nI (min 101 (oc_n np pl R hm p3 p4 (r + 1) c))) (h3 : ∀ c, c < nc → he c = he1 c) (hp : ∀ i, i < pl → p4 i < nc) (hr : r < nc) : ∀ c, c < nc → nI (min 101 (oc_n np pl R hm p3 p4 (r + 1) c)) = nI (min 101 (oc_n np pl R hm p3 p4 nc c)) := by
  have e : ∀ c, c < nc → min 101 (oc_n np pl R hm p3 p4 (r + 1) c) = min 101 (oc_n np pl R hm p3 p4 r c) := by
    intro c hc
    have q := (h2 c hc).symm.trans ((h3 c hc).symm.trans (h1 c hc))
    exact (nI_eq (by omega) (by omega)).mp q
  intro c hc
  have q := oc_stab hp e (nc - r) c hc
  rw [show r + (nc - r) = nc by omega] at q
  rw [e c hc, q]
set_option maxHeartbeats 4000000 in
set_option maxRecDepth 100000 in
theorem l_tally (G : sv_G) (h : sv_h) (z b nc np pl : Nat) (k : Int32) (R : Nat → Bool) (hm p3 p4 pa : Nat → Nat) (fq : Nat → Option Nat) (fh fg : Nat → Int32) (hly : h (b + 1) = some (.inr (1, [.int k, .int (nI nc), .ref (b + 2), .int (nI np), .ref (b + 3), .ref (b + 4), .ref (b + 5), .int (nI pl), .ref (b + 6), .ref (b + 7)]))) (hq2 : ab_Q G h (b + 2) 4 64 fq) (hqa : ∀ p, p < np → fq p = some (pa p) ∧ hm p < nc ∧ pa p ≠ b + 6 ∧ pa p ≠ b + 7 ∧ ∃ (l0 n0 vo ar : Int32) (x1 x2 x3 x4 : Nat), h (pa p) = some (.inr (3, [.int (nI (hm p)), .int l0, .ref x1, .ref x2, .int n0, .int vo, .int (if R p = true then 1 else 0), .int ar, .ref x3, .ref x4]))) (hh1 : ab_I G h (b + 3) 32 fh) (hh2 : ab_I G h (b + 4) 32 fg) (hnc : nc ≤ 16) (hnp : np ≤ 64) (hpl : pl ≤ 32) (hpp : ∀ i, i < pl → fh i = nI (p3 i) ∧ fg i = nI (p4 i) ∧ p3 i < nc ∧ p4 i < nc) (cl : Nat) (hcl : cl < nc) : ∀ (c r : Nat) (hi : sv_h) (he g : Nat → Int32), r + c = nc → ab_I G hi (b + 6) 16 he → (∀ c, c < nc → he c = nI (min 101 (oc_n np pl R hm p3 p4 r c))) → ab_I G hi (b + 7) 16 g → (∀ a, a ≠ b + 6 → a ≠ b + 7 → hi a = h a) → V G mX3_tally (sv_MQ G mX3_tally (fun v h1 z1 => z1 = z ∧ v = some (.int (nI (min 101 (oc_n np pl R hm p3 p4 nc cl)))) ∧ (∃ he1 g1, ab_I G h1 (b + 6) 16 he1 ∧ (∀ c, c < nc → he1 c = nI (min 101 (oc_n np pl R hm p3 p4 nc c))) ∧ ab_I G h1 (b + 7) 16 g1) ∧ ∀ a, a ≠ b + 6 → a ≠ b + 7 → h1 a = h a)) 10 [(2, .int (nI r)), (0, .ref (b + 1)), (1, .int (nI cl))] [] hi z 0 0 := by
  intro c
  induction c with
  | zero =>
    intro r hi he g hrc hhe hev hg hfr
    refine v_iload_n dX3_tally_10 rfl 0 rfl ?_
    refine v_aload_n dX3_tally_11 rfl 1 rfl ?_
    refine v_getf 1 (ci := 1) (C := RX3) (T := TX3) (N := 10) rfl iwX3_tally_X3 (Nat.le_of_ble_eq_true rfl) (by decide +kernel) dX3_tally_12 (by first | with_reducible assumption | exact (hfr _ (by omega) (by omega)).trans hly) rfl ?_
    refine v_icmp_ge (tgt := 34) dX3_tally_15 (by decide) (fun c_15 => ?_) (fun c_15 => ?_)
    · refine v_aload_n dX3_tally_34 rfl 1 rfl ?_
      refine v_getf 8 (ci := 1) (C := RX3) (T := TX3) (N := 10) rfl iwX3_tally_X3 (Nat.le_of_ble_eq_true rfl) (by decide +kernel) dX3_tally_35 (by first | with_reducible assumption | exact (hfr _ (by omega) (by omega)).trans hly) rfl ?_
      refine v_iload_n dX3_tally_38 rfl 2 rfl ?_
      refine v_ialdS (v := nI (min 101 (oc_n np pl R hm p3 p4 nc cl))) dX3_tally_39 (by first | with_reducible assumption | exact (hfr _ (by omega) (by omega)).trans hly) (vp_in_nI (by omega) (by omega)) (by rw [nI_clamp (by omega), hev cl hcl, show r = nc by omega]) ?_
      exact v_iret rfl dX3_tally_40 (Nat.le_of_ble_eq_true rfl) (Nat.le_of_ble_eq_true rfl) rfl ⟨rfl, rfl, ⟨he, g, hhe, fun c hc => by rw [hev c hc, show r = nc by omega], hg⟩, hfr⟩
    · exact absurd (show nI nc ≤ nI r from nI_le (by omega) (by omega)) c_15
  | succ c ih =>
    intro r hi he g hrc hhe hev hg hfr
    refine v_iload_n dX3_tally_10 rfl 0 rfl ?_
    refine v_aload_n dX3_tally_11 rfl 1 rfl ?_
    refine v_getf 1 (ci := 1) (C := RX3) (T := TX3) (N := 10) rfl iwX3_tally_X3 (Nat.le_of_ble_eq_true rfl) (by decide +kernel) dX3_tally_12 (by first | with_reducible assumption | exact (hfr _ (by omega) (by omega)).trans hly | exact (u6 _ (by omega) (by omega)).trans ((hfr _ (by omega) (by omega)).trans hly)) rfl ?_
    refine v_icmp_ge (tgt := 34) dX3_tally_15 (by decide) (fun c_15 => ?_) (fun c_15 => ?_)
    · exact absurd c_15 (nI_ge (by omega) (by omega))
    · refine v_aload_n dX3_tally_18 rfl 1 rfl ?_
      refine v_callVq (M' := mX3_tallyOnce) (n := 0) (As := []) (ci := 1) (r := (RX3, TX3, 10)) gX3_tally_X3_tallyOnce rfl (by decide +kernel) ⟨(Nat.le_of_ble_eq_true rfl), (Nat.le_of_ble_eq_true rfl)⟩ rfl rfl dX3_tally_19 rfl ⟨(Nat.le_of_ble_eq_true rfl), (Nat.le_of_ble_eq_true rfl)⟩ (Nat.le_of_ble_eq_true rfl) (by first | with_reducible assumption | exact (hfr _ (by omega) (by omega)).trans hly | exact (u6 _ (by omega) (by omega)).trans ((hfr _ (by omega) (by omega)).trans hly)) rfl (c_tallyOnce G hi z b nc np pl k R hm p3 p4 pa fq fh fg ((hfr _ (by omega) (by omega)).trans hly) ((hfr _ (by omega) (by omega)).trans hq2) (fun p hp => by obtain ⟨s1, s2, s3, s4, l0, n0, vo, ar, x1, x2, x3, x4, sp⟩ := hqa p hp; exact ⟨s1, s2, s3, s4, l0, n0, vo, ar, x1, x2, x3, x4, (hfr _ s3 s4).trans sp⟩) ((hfr _ (by omega) (by omega)).trans hh1) ((hfr _ (by omega) (by omega)).trans hh2) hnc hnp hpl hpp he hhe r hev g hg) (fun v h1 z1 hq => ?_)
      obtain ⟨rfl, w9, he1, g1, rfl, u1, u2, u3, u4, u6⟩ := hq
      refine v_if_ne (tgt := 28) dX3_tally_22 (by decide) (fun c_22 => ?_) (fun c_22 => ?_)
      · refine v_iinc (j := 0) (L' := [(2, _), (0, _), (1, _)]) (v := nI (r + 1)) dX3_tally_28 rfl (nI_1 _) (Nat.le_of_ble_eq_true rfl) rfl ?_
        refine v_goto (tgt := 10) dX3_tally_31 (by decide) ?_
        refine v_sub (L' := [(2, _), (0, _), (1, _)]) [0, 1, 2] rfl ?_
        exact ih (r + 1) _ he1 g1 (by omega) u1 u2 u4 (fun a q1 q2 => (u6 a q1 q2).trans (hfr a q1 q2))
      · refine v_goto (tgt := 34) dX3_tally_25 (by decide) ?_
        refine v_aload_n dX3_tally_34 rfl 1 rfl ?_
        refine v_getf 8 (ci := 1) (C := RX3) (T := TX3) (N := 10) rfl iwX3_tally_X3 (Nat.le_of_ble_eq_true rfl) (by decide +kernel) dX3_tally_35 (by first | with_reducible assumption | exact (hfr _ (by omega) (by omega)).trans hly | exact (u6 _ (by omega) (by omega)).trans ((hfr _ (by omega) (by omega)).trans hly)) rfl ?_
        refine v_iload_n dX3_tally_38 rfl 2 rfl ?_
        refine v_ialdS (v := nI (min 101 (oc_n np pl R hm p3 p4 nc cl))) dX3_tally_39 (by first | with_reducible assumption | exact (hfr _ (by omega) (by omega)).trans hly | exact (u6 _ (by omega) (by omega)).trans ((hfr _ (by omega) (by omega)).trans hly)) (vp_in_nI (by omega) (by omega)) (by rw [nI_clamp (by omega), u2 cl hcl]; exact (sv_ts hev u2 ((u3.resolve_left (fun q => by rw [q] at c_22; exact absurd c_22 (by decide))).2) (fun i hi => (hpp i hi).2.2.2) (show r < nc by omega)) cl hcl) ?_
        exact v_iret rfl dX3_tally_40 (Nat.le_of_ble_eq_true rfl) (Nat.le_of_ble_eq_true rfl) rfl ⟨rfl, rfl, ⟨he1, g1, u1, fun c hc => by rw [u2 c hc]; exact (sv_ts hev u2 ((u3.resolve_left (fun q => by rw [q] at c_22; exact absurd c_22 (by decide))).2) (fun i hi => (hpp i hi).2.2.2) (show r < nc by omega)) c hc, u4⟩, fun a q1 q2 => (u6 a q1 q2).trans (hfr a q1 q2)⟩

set_option maxHeartbeats 4000000 in
set_option maxRecDepth 100000 in
theorem c_tally (G : sv_G) (h : sv_h) (z b nc np pl : Nat) (k : Int32) (R : Nat → Bool) (hm p3 p4 pa : Nat → Nat) (fq : Nat → Option Nat) (fh fg : Nat → Int32) (hly : h (b + 1) = some (.inr (1, [.int k, .int (nI nc), .ref (b + 2), .int (nI np), .ref (b + 3), .ref (b + 4), .ref (b + 5), .int (nI pl), .ref (b + 6), .ref (b + 7)]))) (hq2 : ab_Q G h (b + 2) 4 64 fq) (hqa : ∀ p, p < np → fq p = some (pa p) ∧ hm p < nc ∧ pa p ≠ b + 6 ∧ pa p ≠ b + 7 ∧ ∃ (l0 n0 vo ar : Int32) (x1 x2 x3 x4 : Nat), h (pa p) = some (.inr (3, [.int (nI (hm p)), .int l0, .ref x1, .ref x2, .int n0, .int vo, .int (if R p = true then 1 else 0), .int ar, .ref x3, .ref x4]))) (hh1 : ab_I G h (b + 3) 32 fh) (hh2 : ab_I G h (b + 4) 32 fg) (hnc : nc ≤ 16) (hnp : np ≤ 64) (hpl : pl ≤ 32) (hpp : ∀ i, i < pl → fh i = nI (p3 i) ∧ fg i = nI (p4 i) ∧ p3 i < nc ∧ p4 i < nc) (cl : Nat) (hcl : cl < nc) (f0 g0 : Nat → Int32) (hf0 : ab_I G h (b + 6) 16 f0) (hg0 : ab_I G h (b + 7) 16 g0) : CT G mX3_tally [.ref (b + 1), .int (nI cl)] h z (fun v h1 z1 => z1 = z ∧ v = some (.int (nI (min 101 (oc_n np pl R hm p3 p4 nc cl)))) ∧ (∃ he1 g1, ab_I G h1 (b + 6) 16 he1 ∧ (∀ c, c < nc → he1 c = nI (min 101 (oc_n np pl R hm p3 p4 nc c))) ∧ ab_I G h1 (b + 7) 16 g1) ∧ ∀ a, a ≠ b + 6 → a ≠ b + 7 → h1 a = h a) := by
  refine CT.of (by decide +kernel) rfl rfl (Nat.le_of_ble_eq_true rfl) ?_
  refine v_aload_n dX3_tally_0 rfl 0 rfl ?_
  refine v_getf 8 (ci := 1) (C := RX3) (T := TX3) (N := 10) rfl iwX3_tally_X3 (Nat.le_of_ble_eq_true rfl) (by decide +kernel) dX3_tally_1 (by repeat (first | (with_reducible refine sv_us.trans ?_; exact rfl) | with_reducible assumption | with_reducible refine (sv_un (by omega)).trans ?_)) (by exact rfl) ?_
  refine v_iconst (v := 0) dX3_tally_4 (by decide) ?_
  refine v_callSq (M' := mJ7_fill_53178) (n := 2) (As := [_, _]) ggX3_tally_J7_fill_53178 (by decide +kernel) (by decide +kernel) (by decide +kernel) rfl (by decide +kernel) ⟨(Nat.le_of_ble_eq_true rfl), (Nat.le_of_ble_eq_true rfl)⟩ dX3_tally_5 rfl ⟨(Nat.le_of_ble_eq_true rfl), (Nat.le_of_ble_eq_true rfl)⟩ (Nat.le_of_ble_eq_true rfl) rfl (c_fill G _ _ (b + 6) 16 0 f0 (by decide) hf0) (fun v h1 z1 hq => ?_)
  obtain ⟨rfl, rfl, ⟨g1, j1, j2⟩, j3⟩ := hq
  refine v_iconst (v := 0) dX3_tally_8 (by decide) ?_
  refine v_istore_n (L' := [(2, _), (0, _), (1, _)]) dX3_tally_9 rfl (Nat.le_of_ble_eq_true rfl) rfl ?_
  refine v_sub (L' := [(2, _), (0, _), (1, _)]) [0, 1, 2] rfl ?_
  exact l_tally G h _ b nc np pl k R hm p3 p4 pa fq fh fg hly hq2 hqa hh1 hh2 hnc hnp hpl hpp cl hcl nc 0 _ g1 g0 (by omega) j1 (fun c hc => by rw [j2 c (by omega)]; rfl) ((j3 _ (by omega)).trans hg0) (fun a q1 q2 => j3 a q1)

