section GU
variable {gu : Nat → Int64}
/-- the cell of a row -/
def clR (x : List Int64) : Nat := (x.getD 7 0).toInt.toNat
theorem clR_e (x0 y0 x1 y1 aI eI m : Int) {tc : Nat} (h : tc < 1000) : clR (rwI x0 y0 x1 y1 aI eI m (tc : Int)) = tc := by
  show ((jN (tc : Int)).toInt).toNat = tc
  rw [jN_to (by omega) (by omega)]; rfl
/-- a row as it lies everywhere below cl -/
def vwR (pl : Nat) (p3 p4 : Nat → Nat) (mp : Nat → mvT) (cl : Nat) (x : List Int64) : List (List Int64) := lS pl p3 p4 mp (sgl (clR x) x) 16 cl []
set_option maxHeartbeats 4000000 in
set_option maxRecDepth 100000 in
theorem l_saD (G : sv_G) (Qr : Option Value → sv_h → Nat → Prop) (z b nc np pl : Nat) (hb : sv_h) (fs : List Value) (hqf : mfq_ b nc np pl fs) (hm0 : hb (b + 220) = some (.inr (11, fs))) (ri cl n : Nat) (hn : n ≤ 1500) (f64 : fs[64]? = some (.int (nI n))) (hk : ∀ (h : sv_h) (mt : Nat → Int32), ab_Z G h (b + 260) 1500 mt → (∀ i9, i9 < n → mt i9 = 0) → (∀ a, a ≠ b + 260 → h a = hb a) → V G mX13_same (sv_MQ G mX13_same Qr) 127 [(2, .int (nI cl)), (1, .int (nI ri)), (0, .ref (b + 220))] [] h z 0 0) : ∀ (e k : Nat) (h : sv_h) (mt : Nat → Int32), k + e = n → ab_Z G h (b + 260) 1500 mt → (∀ i9, i9 < k → mt i9 = 0) → (∀ a, a ≠ b + 260 → h a = hb a) → V G mX13_same (sv_MQ G mX13_same Qr) 106 [(3, .int (nI k)), (2, .int (nI cl)), (1, .int (nI ri)), (0, .ref (b + 220))] [] h z 0 0 := by
  intro e
  induction e with
  | zero =>
    intro k h mt hke a1 a2 fr
    have hlen : fs.length = 71 := hqf.1
    have hm9 := (fr (b + 220) (by omega)).trans hm0
    have f_beside := f64
    have f_met := hqf.f_met
    have e9 : k = n := by omega
    refine v_iload_n dX13_same_106 rfl 0 rfl ?_
    refine v_aload_n dX13_same_107 rfl 3 rfl ?_
    refine v_getf 64 (ci := 11) (C := RX13) (T := TX13) (N := 71) rfl iwX13_same_X13 (Nat.le_of_ble_eq_true rfl) (by decide +kernel) dX13_same_108 (by repeat (first | with_reducible assumption | (with_reducible refine sv_us.trans ?_; exact rfl) | with_reducible refine (sv_un (by omega)).trans ?_)) (by repeat (first | with_reducible assumption | (with_reducible refine (sv_ls (by first | omega | (simp only [List.length_set]; omega))).trans ?_; exact rfl) | with_reducible refine (List.getElem?_set_ne (by decide)).trans ?_)) ?_
    refine v_icmp_ge (tgt := 127) dX13_same_111 (by decide) (fun c_111 => ?_) (fun c_111 => ?_)
    · refine v_sub (L' := [(2, _), (1, _), (0, _)]) [1, 2, 3] rfl ?_
      exact hk h mt a1 (fun i9 q => a2 i9 (by omega)) fr
    · exact absurd (nI_le (show n ≤ k by omega) (by omega)) c_111
  | succ e ih =>
    intro k h mt hke a1 a2 fr
    have hlen : fs.length = 71 := hqf.1
    have hm9 := (fr (b + 220) (by omega)).trans hm0
    have f_beside := f64
    have f_met := hqf.f_met
    have hkn : k < n := by omega
    refine v_iload_n dX13_same_106 rfl 0 rfl ?_
    refine v_aload_n dX13_same_107 rfl 3 rfl ?_
    refine v_getf 64 (ci := 11) (C := RX13) (T := TX13) (N := 71) rfl iwX13_same_X13 (Nat.le_of_ble_eq_true rfl) (by decide +kernel) dX13_same_108 (by repeat (first | with_reducible assumption | (with_reducible refine sv_us.trans ?_; exact rfl) | with_reducible refine (sv_un (by omega)).trans ?_)) (by repeat (first | with_reducible assumption | (with_reducible refine (sv_ls (by first | omega | (simp only [List.length_set]; omega))).trans ?_; exact rfl) | with_reducible refine (List.getElem?_set_ne (by decide)).trans ?_)) ?_
    refine v_icmp_ge (tgt := 127) dX13_same_111 (by decide) (fun c_111 => ?_) (fun c_111 => ?_)
    · exact absurd c_111 (nI_ge hkn (by omega))
    · refine v_aload_n dX13_same_114 rfl 3 rfl ?_
      refine v_getf 66 (ci := 11) (C := RX13) (T := TX13) (N := 71) rfl iwX13_same_X13 (Nat.le_of_ble_eq_true rfl) (by decide +kernel) dX13_same_115 (by repeat (first | with_reducible assumption | (with_reducible refine sv_us.trans ?_; exact rfl) | with_reducible refine (sv_un (by omega)).trans ?_)) (by repeat (first | with_reducible assumption | (with_reducible refine (sv_ls (by first | omega | (simp only [List.length_set]; omega))).trans ?_; exact rfl) | with_reducible refine (List.getElem?_set_ne (by decide)).trans ?_)) ?_
      refine v_iload_n dX13_same_118 rfl 0 rfl ?_
      refine v_iconst (v := 0) dX13_same_119 (by decide) ?_
      refine v_zast (y := 0) dX13_same_120 (by repeat (first | with_reducible assumption | (with_reducible refine sv_us.trans ?_; exact rfl) | with_reducible refine (sv_un (by omega)).trans ?_)) (vp_in_nI (by omega) (by omega)) rfl ?_
      refine v_iinc (j := 0) (L' := [(3, _), (2, _), (1, _), (0, _)]) (v := nI (k + 1)) dX13_same_121 rfl (nI_1 _) (Nat.le_of_ble_eq_true rfl) rfl ?_
      refine v_goto (tgt := 106) dX13_same_124 (by decide) ?_
      refine v_sub (L' := [(3, _), (2, _), (1, _), (0, _)]) [0, 1, 2, 3] rfl ?_
      rw [nI_clamp (show k < 2 ^ 31 by omega)]
      refine ih (k + 1) _ (upd mt k 0) (by omega) sv_us (fun i9 q => ?_) (fun a p => (sv_un p).trans (fr a p))
      by_cases e9 : i9 = k
      · rw [e9]; exact if_pos rfl
      · exact (if_neg e9).trans (a2 i9 (by omega))

set_option maxHeartbeats 4000000 in
set_option maxRecDepth 100000 in
theorem l_saF (G : sv_G) (Qr : Option Value → sv_h → Nat → Prop) (z b nc np pl : Nat) (hb : sv_h) (fs : List Value) (hqf : mfq_ b nc np pl fs) (hm0 : hb (b + 220) = some (.inr (11, fs))) (ri cl n : Nat) (hn : n ≤ 1500) (f64 : fs[64]? = some (.int (nI n))) (mt : Nat → Int32) (A60 : ab_Z G hb (b + 260) 1500 mt) (hmt : ∀ i9, i9 < n → mt i9 = 1) (hk : Qr (some (.int 1)) hb z) : ∀ (e k : Nat), k + e = n → V G mX13_same (sv_MQ G mX13_same Qr) 185 [(4, .int (nI k)), (3, .int 1), (2, .int (nI cl)), (1, .int (nI ri)), (0, .ref (b + 220))] [] hb z 0 0 := by
  intro e
  induction e with
  | zero =>
    intro k hke
    have hlen : fs.length = 71 := hqf.1
    have f_beside := f64
    have f_met := hqf.f_met
    have e9 : k = n := by omega
    refine v_iload dX13_same_185 0 rfl ?_
    refine v_aload_n dX13_same_187 rfl 4 rfl ?_
    refine v_getf 64 (ci := 11) (C := RX13) (T := TX13) (N := 71) rfl iwX13_same_X13 (Nat.le_of_ble_eq_true rfl) (by decide +kernel) dX13_same_188 (by first | with_reducible assumption) (by repeat (first | with_reducible assumption | (with_reducible refine (sv_ls (by first | omega | (simp only [List.length_set]; omega))).trans ?_; exact rfl) | with_reducible refine (List.getElem?_set_ne (by decide)).trans ?_)) ?_
    refine v_icmp_ge (tgt := 220) dX13_same_191 (by decide) (fun c_191 => ?_) (fun c_191 => ?_)
    · refine v_iload_n dX13_same_220 rfl 1 rfl ?_
      exact v_iret rfl dX13_same_221 (Nat.le_of_ble_eq_true rfl) (Nat.le_of_ble_eq_true rfl) rfl hk
    · exact absurd (nI_le (show n ≤ k by omega) (by omega)) c_191
  | succ e ih =>
    intro k hke
    have hlen : fs.length = 71 := hqf.1
    have f_beside := f64
    have f_met := hqf.f_met
    have hkn : k < n := by omega
    refine v_iload dX13_same_185 0 rfl ?_
    refine v_aload_n dX13_same_187 rfl 4 rfl ?_
    refine v_getf 64 (ci := 11) (C := RX13) (T := TX13) (N := 71) rfl iwX13_same_X13 (Nat.le_of_ble_eq_true rfl) (by decide +kernel) dX13_same_188 (by first | with_reducible assumption) (by repeat (first | with_reducible assumption | (with_reducible refine (sv_ls (by first | omega | (simp only [List.length_set]; omega))).trans ?_; exact rfl) | with_reducible refine (List.getElem?_set_ne (by decide)).trans ?_)) ?_
    refine v_icmp_ge (tgt := 220) dX13_same_191 (by decide) (fun c_191 => ?_) (fun c_191 => ?_)
    · exact absurd c_191 (nI_ge hkn (by omega))
    · refine v_iload_n dX13_same_194 rfl 1 rfl ?_
      refine v_if_eq (tgt := 212) dX13_same_195 (by decide) (fun c_195 => ?_) (fun c_195 => ?_)
      · exact absurd c_195 (by decide)
      · refine v_aload_n dX13_same_198 rfl 4 rfl ?_
        refine v_getf 66 (ci := 11) (C := RX13) (T := TX13) (N := 71) rfl iwX13_same_X13 (Nat.le_of_ble_eq_true rfl) (by decide +kernel) dX13_same_199 (by first | with_reducible assumption) (by repeat (first | with_reducible assumption | (with_reducible refine (sv_ls (by first | omega | (simp only [List.length_set]; omega))).trans ?_; exact rfl) | with_reducible refine (List.getElem?_set_ne (by decide)).trans ?_)) ?_
        refine v_iload dX13_same_202 0 rfl ?_
        refine v_zaldS (v := 1) dX13_same_204 (by first | with_reducible assumption) (vp_in_nI (by omega) (by omega)) (by rw [nI_clamp (by omega)]; exact hmt k hkn) ?_
        refine v_if_eq (tgt := 212) dX13_same_205 (by decide) (fun c_205 => ?_) (fun c_205 => ?_)
        · exact absurd c_205 (by decide)
        · refine v_iconst (v := 1) dX13_same_208 (by decide) ?_
          refine v_goto (tgt := 213) dX13_same_209 (by decide) ?_
          refine v_istore_n (L' := [(3, _), (4, _), (2, _), (1, _), (0, _)]) dX13_same_213 rfl (Nat.le_of_ble_eq_true rfl) rfl ?_
          refine v_iinc (j := 1) (L' := [(4, _), (3, _), (2, _), (1, _), (0, _)]) (v := nI (k + 1)) dX13_same_214 rfl (nI_1 _) (Nat.le_of_ble_eq_true rfl) rfl ?_
          refine v_goto (tgt := 185) dX13_same_217 (by decide) ?_
          refine v_sub (L' := [(4, _), (3, _), (2, _), (1, _), (0, _)]) [0, 1, 2, 3, 4] rfl ?_
          exact ih (k + 1) (by omega)

theorem m_isLaidOutM (G : sv_G) (z b nc np pl : Nat) (R : Nat → Bool) (hm p3 p4 sz : Nat → Nat) (ly vo : Nat → Int32) (mp : Nat → mvT) (X Y : Nat → Nat → Int) (hb : sv_h) (fs0 : List Value) (hq0 : mfq_ b nc np pl fs0) (MY : myl_ G hb b nc np pl R hm p3 p4 sz ly vo mp X Y) (r : Nat) (hr : r < 1500) (x0 y0 x1 y1 aI eI m : Int) (tc : Nat) (hx4 : (-200000 ≤ x0 ∧ x0 ≤ 200000) ∧ (-200000 ≤ y0 ∧ y0 ≤ 200000) ∧ (-200000 ≤ x1 ∧ x1 ≤ 200000) ∧ (-200000 ≤ y1 ∧ y1 ≤ 200000)) (FL : List (List Int64)) (hF15 : FL.length ≤ 1500) (f64 : fs0[64]? = some (.int (nI FL.length))) (ft : Nat → Int64) (A59 : ab_J G hb (b + 259) 10500 ft) (hft : ∀ k9 j9, k9 < FL.length → j9 < 7 → ft (7 * k9 + j9) = (FL.getD k9 []).getD j9 0) (hMBw : ∀ w : List Nat, (∀ i, i ∈ w → i < pl) → w.length < 16 → ∀ x y : Int, -200000 ≤ x ∧ x ≤ 200000 → -200000 ≤ y ∧ y ≤ 200000 → (-1000000000 ≤ (mvA (mvW mp w) (x, y)).1 ∧ (mvA (mvW mp w) (x, y)).1 ≤ 1000000000) ∧ (-1000000000 ≤ (mvA (mvW mp w) (x, y)).2 ∧ (mvA (mvW mp w) (x, y)).2 ≤ 1000000000)) (top : Nat) (htop : top < nc) (rk : Nat → Nat) (hrk : ∀ i, i < pl → rk (p4 i) < rk (p3 i)) (SZ : szc_ G hb b nc np pl R hm p3 p4) (htc : tc < nc) (hF : ∀ w, vwy pl p3 p4 top w tc → w.length < 16 → FL.any (fun y => alk y (xrW mp x0 y0 x1 y1 aI eI m (tc : Int) w) 7) = true) (hSk : ∀ i, i < pl → gr_R pl p3 p4 top (p3 i) → oc_n np pl R hm p3 p4 16 (p4 i) = 0 → ∀ f w, lS pl p3 p4 mp (sgl tc (rwI x0 y0 x1 y1 aI eI m (tc : Int))) f (p4 i) w = []) (gt0 : Nat → Int64) (hrow : (gt0 (12 * r + 4) = jN aI ∧ gt0 (12 * r + 5) = jN eI ∧ gt0 (12 * r + 6) = jN m ∧ gt0 (12 * r + 7) = jN (tc : Int)) ∧ gt0 (12 * r + 8) = jN x0 ∧ gt0 (12 * r + 9) = jN y0 ∧ gt0 (12 * r + 10) = jN x1 ∧ gt0 (12 * r + 11) = jN y1) (V0 : List (List Int64)) (t41 : ab_J G hb (b + 241) 36048 gt0) (MT0 : ∃ mt, ab_Z G hb (b + 260) 1500 mt ∧ ∀ i9, i9 < FL.length → mt i9 = bI ((fun i9 => (V0).any (fun x => alk (FL.getD i9 []) x 7)) i9)) (A46 : ∃ f, ab_I G hb (b + 246) 1616 f) (A47 : ∃ f, ab_I G hb (b + 247) 17 f) (mo : Value) (h60 : fs0[60]? = some mo) (hrn : ∀ c, c < nc → rk c < nc) (hm0 : hb (b + 220) = some (.inr (11, fs0))) (aI9 : Int32) (ea : aI9 = nI (12 * r)) : CT G mX13_isLaidOut [.ref (b + 220), .int (nI top), .int aI9] hb z (fun v h1 z1 => v = some (.int 1) ∧ z1 = z ∧ ∃ fs1, h1 (b + 220) = some (.inr (11, fs1)) ∧ fs1.length = 71 ∧ fsE [41, 52, 53, 60, 61] fs0 fs1 ∧ (∃ gt, ab_J G h1 (b + 241) 36048 gt ∧ ∀ a, ¬ (12 * r ≤ a ∧ a < 12 * r + 4) → gt a = gt0 a) ∧ (∃ mt, ab_Z G h1 (b + 260) 1500 mt ∧ ∀ i9, i9 < FL.length → mt i9 = bI ((fun i9 => (V0 ++ (lS pl p3 p4 mp (sgl tc (rwI x0 y0 x1 y1 aI eI m (tc : Int))) 16 top [])).any (fun x => alk (FL.getD i9 []) x 7)) i9)) ∧ (∃ f, ab_I G h1 (b + 246) 1616 f) ∧ (∃ f, ab_I G h1 (b + 247) 17 f) ∧ ∀ a, a ≠ b + 220 → a ≠ b + 241 → a ≠ b + 246 → a ≠ b + 247 → a ≠ b + 260 → h1 a = hb a) := by
  subst ea
  exact m_isLaidOut G z b nc np pl R hm p3 p4 sz ly vo mp X Y hb fs0 hq0 MY r hr x0 y0 x1 y1 aI eI m tc hx4 FL hF15 f64 ft A59 hft hMBw top htop rk hrk SZ htc hF hSk gt0 hrow V0 t41 MT0 A46 A47 mo h60 hrn hm0
set_option maxHeartbeats 4000000 in
set_option maxRecDepth 100000 in
theorem l_saE (G : sv_G) (Qr : Option Value → sv_h → Nat → Prop) (z b nc np pl : Nat) (R : Nat → Bool) (hm p3 p4 sz : Nat → Nat) (ly vo : Nat → Int32) (mp : Nat → mvT) (X Y : Nat → Nat → Int) (hb : sv_h) (fs0 : List Value) (hq0 : mfq_ b nc np pl fs0) (MY : myl_ G hb b nc np pl R hm p3 p4 sz ly vo mp X Y) (ri cl : Nat) (hcl : cl < nc) (FL : List (List Int64)) (hF15 : FL.length ≤ 1500) (f64 : fs0[64]? = some (.int (nI FL.length))) (ft : Nat → Int64) (A59 : ab_J G hb (b + 259) 10500 ft) (hft : ∀ k9 j9, k9 < FL.length → j9 < 7 → ft (7 * k9 + j9) = (FL.getD k9 []).getD j9 0) (hMBw : ∀ w : List Nat, (∀ i, i ∈ w → i < pl) → w.length < 16 → ∀ x y : Int, -200000 ≤ x ∧ x ≤ 200000 → -200000 ≤ y ∧ y ≤ 200000 → (-1000000000 ≤ (mvA (mvW mp w) (x, y)).1 ∧ (mvA (mvW mp w) (x, y)).1 ≤ 1000000000) ∧ (-1000000000 ≤ (mvA (mvW mp w) (x, y)).2 ∧ (mvA (mvW mp w) (x, y)).2 ≤ 1000000000)) (rk : Nat → Nat) (hrk : ∀ i, i < pl → rk (p4 i) < rk (p3 i)) (hrn : ∀ c, c < nc → rk c < nc) (SZ : szc_ G hb b nc np pl R hm p3 p4) (E : List (List Int64)) (hE15 : E.length ≤ 1500) (nw : Nat) (hnw : nw ≤ 40) (h33 : fs0[33]? = some (.int (nI nw))) (h58 : fs0[58]? = some (.int (nI ri))) (wr wf : Nat → Int64) (w42 : ab_J G hb (b + 242) 320 wf) (hwr : ∀ k, k < nw → ∀ j, j < 8 → wf (8 * k + ab_wc j) = wr (8 * k + j)) (h28 : fs0[28]? = some (.int (nI E.length))) (mo : Value) (h60 : fs0[60]? = some mo) (hEg : ∀ x, x ∈ E → ∃ (x0 y0 x1 y1 aI eI m : Int) (tc : Nat), x = rwI x0 y0 x1 y1 aI eI m (tc : Int) ∧ tc < nc ∧ ((-200000 ≤ x0 ∧ x0 ≤ 200000) ∧ (-200000 ≤ y0 ∧ y0 ≤ 200000) ∧ (-200000 ≤ x1 ∧ x1 ≤ 200000) ∧ (-200000 ≤ y1 ∧ y1 ≤ 200000)) ∧ (cvB wr nw (nI ri) x = false → ∀ w, vwy pl p3 p4 cl w tc → w.length < 16 → FL.any (fun y => alk y (xrW mp x0 y0 x1 y1 aI eI m (tc : Int) w) 7) = true) ∧ (∀ i, i < pl → gr_R pl p3 p4 cl (p3 i) → oc_n np pl R hm p3 p4 16 (p4 i) = 0 → ∀ f w, lS pl p3 p4 mp (sgl tc (rwI x0 y0 x1 y1 aI eI m (tc : Int))) f (p4 i) w = [])) (hk : ∀ (h : sv_h) (fs : List Value), h (b + 220) = some (.inr (11, fs)) → fs.length = 71 → fsE [41, 52, 53, 60, 61] fs0 fs → (∃ gt, ab_J G h (b + 241) 36048 gt ∧ (∀ k9 j9, E.length ≤ k9 → k9 < E.length → j9 < 12 → gt (12 * k9 + j9) = (E.getD k9 []).getD j9 0) ∧ ∀ a, 18000 ≤ a → gt a = gu a) → (∃ mt, ab_Z G h (b + 260) 1500 mt ∧ ∀ i9, i9 < FL.length → mt i9 = bI ((fun i9 => ((((E.take E.length).filter (fun x => !cvB wr nw (nI ri) x)).flatMap (vwR pl p3 p4 mp cl))).any (fun x => alk (FL.getD i9 []) x 7)) i9)) → (∃ f, ab_I G h (b + 246) 1616 f) → (∃ f, ab_I G h (b + 247) 17 f) → (∀ a, a ≠ b + 220 → a ≠ b + 241 → a ≠ b + 246 → a ≠ b + 247 → a ≠ b + 260 → h a = hb a) → V G mX13_same (sv_MQ G mX13_same Qr) 182 [(3, .int 1), (2, .int (nI cl)), (1, .int (nI ri)), (0, .ref (b + 220))] [] h z 0 0) : ∀ (e i : Nat) (h : sv_h) (fs : List Value), i + e = E.length → h (b + 220) = some (.inr (11, fs)) → fs.length = 71 → fsE [41, 52, 53, 60, 61] fs0 fs → (∃ gt, ab_J G h (b + 241) 36048 gt ∧ (∀ k9 j9, i ≤ k9 → k9 < E.length → j9 < 12 → gt (12 * k9 + j9) = (E.getD k9 []).getD j9 0) ∧ ∀ a, 18000 ≤ a → gt a = gu a) → (∃ mt, ab_Z G h (b + 260) 1500 mt ∧ ∀ i9, i9 < FL.length → mt i9 = bI ((fun i9 => ((((E.take i).filter (fun x => !cvB wr nw (nI ri) x)).flatMap (vwR pl p3 p4 mp cl))).any (fun x => alk (FL.getD i9 []) x 7)) i9)) → (∃ f, ab_I G h (b + 246) 1616 f) → (∃ f, ab_I G h (b + 247) 17 f) → (∀ a, a ≠ b + 220 → a ≠ b + 241 → a ≠ b + 246 → a ≠ b + 247 → a ≠ b + 260 → h a = hb a) → V G mX13_same (sv_MQ G mX13_same Qr) 132 [(4, .int (nI i)), (3, .int 1), (2, .int (nI cl)), (1, .int (nI ri)), (0, .ref (b + 220))] [] h z 0 0 := by
  intro e
  induction e with
  | zero =>
    intro i h fs hie hm9 hl hE GT MT A46 A47 fr
    have hlen : fs.length = 71 := hl
    have hqf := hq0.to (S := [41, 52, 53, 60, 61]) hl hE (by decide)
    have f_many : fs[28]? = some (.int (nI E.length)) := (hE 28 (by decide)).trans h28
    have MYh := MY.kp (fun a p1 p2 => fr a (by omega) (by omega) (by omega) (by omega) (by omega))
    obtain ⟨_, _, _, _, _, _, _, _, _, _, _, yB, yC, yD, yE, yF⟩ := id MY
    have e9 : i = E.length := by omega
    subst e9
    refine v_iload dX13_same_132 0 rfl ?_
    refine v_aload_n dX13_same_134 rfl 4 rfl ?_
    refine v_getf 28 (ci := 11) (C := RX13) (T := TX13) (N := 71) rfl iwX13_same_X13 (Nat.le_of_ble_eq_true rfl) (by decide +kernel) dX13_same_135 (by first | with_reducible assumption) (by repeat (first | with_reducible assumption | (with_reducible refine (sv_ls (by first | omega | (simp only [List.length_set]; omega))).trans ?_; exact rfl) | with_reducible refine (List.getElem?_set_ne (by decide)).trans ?_)) ?_
    refine v_icmp_ge (tgt := 182) dX13_same_138 (by decide) (fun c_138 => ?_) (fun c_138 => ?_)
    · refine v_sub (L' := [(3, _), (2, _), (1, _), (0, _)]) [1, 2, 3, 4] rfl ?_
      exact hk h fs hm9 hl hE GT MT A46 A47 fr
    · exact absurd (nI_le (Nat.le_refl _) (by omega)) c_138
  | succ e ih =>
    intro i h fs hie hm9 hl hE GT MT A46 A47 fr
    have hlen : fs.length = 71 := hl
    have hqf := hq0.to (S := [41, 52, 53, 60, 61]) hl hE (by decide)
    have f_many : fs[28]? = some (.int (nI E.length)) := (hE 28 (by decide)).trans h28
    have MYh := MY.kp (fun a p1 p2 => fr a (by omega) (by omega) (by omega) (by omega) (by omega))
    obtain ⟨_, _, _, _, _, _, _, _, _, _, _, yB, yC, yD, yE, yF⟩ := id MY
    have hi : i < E.length := by omega
    obtain ⟨gt, g1, g2, g3⟩ := id GT
    obtain ⟨x0, y0, x1, y1, aI, eI, m, tc, hx, htc, hx4, hFx, hSk⟩ := hEg _ (getD_mem (l := E) (i := i) [] hi)
    have hrw : (gt (12 * i + 4) = jN aI ∧ gt (12 * i + 5) = jN eI ∧ gt (12 * i + 6) = jN m ∧ gt (12 * i + 7) = jN (tc : Int)) ∧ gt (12 * i + 8) = jN x0 ∧ gt (12 * i + 9) = jN y0 ∧ gt (12 * i + 10) = jN x1 ∧ gt (12 * i + 11) = jN y1 := (by
      have q := fun j hj => g2 i j (Nat.le_refl i) hi hj
      rw [hx] at q
      exact ⟨⟨q 4 (by decide), q 5 (by decide), q 6 (by decide), q 7 (by decide)⟩, q 8 (by decide), q 9 (by decide), q 10 (by decide), q 11 (by decide)⟩)
    refine v_iload dX13_same_132 0 rfl ?_
    refine v_aload_n dX13_same_134 rfl 4 rfl ?_
    refine v_getf 28 (ci := 11) (C := RX13) (T := TX13) (N := 71) rfl iwX13_same_X13 (Nat.le_of_ble_eq_true rfl) (by decide +kernel) dX13_same_135 (by first | with_reducible assumption) (by repeat (first | with_reducible assumption | (with_reducible refine (sv_ls (by first | omega | (simp only [List.length_set]; omega))).trans ?_; exact rfl) | with_reducible refine (List.getElem?_set_ne (by decide)).trans ?_)) ?_
    refine v_icmp_ge (tgt := 182) dX13_same_138 (by decide) (fun c_138 => ?_) (fun c_138 => ?_)
    · exact absurd c_138 (nI_ge hi (by omega))
    · refine v_iload_n dX13_same_141 rfl 1 rfl ?_
      refine v_if_eq (tgt := 182) dX13_same_142 (by decide) (fun c_142 => ?_) (fun c_142 => ?_)
      · exact absurd c_142 (by decide)
      · refine v_aload_n dX13_same_145 rfl 4 rfl ?_
        refine v_bipush (v := 12) dX13_same_146 (by decide) ?_
        refine v_iload dX13_same_148 0 rfl ?_
        refine v_imul dX13_same_150 ?_
        refine v_callVq (M' := mX13_isWaived) (n := 1) (As := [_]) (ci := 11) (r := (RX13, TX13, 71)) gX13_same_X13_isWaived rfl (by decide +kernel) ⟨(Nat.le_of_ble_eq_true rfl), (Nat.le_of_ble_eq_true rfl)⟩ rfl rfl dX13_same_151 rfl ⟨(Nat.le_of_ble_eq_true rfl), (Nat.le_of_ble_eq_true rfl)⟩ (Nat.le_of_ble_eq_true rfl) (by first | with_reducible assumption) rfl (m_isWaivedM G _ b nc np pl h fs hqf hm9 nw hnw ((hE 33 (by decide)).trans h33) (nI ri) ((hE 58 (by decide)).trans h58) wr wf ((fr _ (by omega) (by omega) (by omega) (by omega) (by omega)).trans w42) hwr gt g1 i (by omega) (E.getD i []) (fun j hj => g2 i j (Nat.le_refl i) hi hj) _ (sv_12m i)) (fun v9 h9 y9 hq => v_pq hq ?_)
        refine v_if_ne (tgt := 170) dX13_same_154 (by decide) (fun c_154 => ?_) (fun c_154 => ?_)
        · refine v_iconst (v := 1) dX13_same_170 (by decide) ?_
          refine v_goto (tgt := 175) dX13_same_171 (by decide) ?_
          refine v_istore_n (L' := [(3, _), (4, _), (2, _), (1, _), (0, _)]) dX13_same_175 rfl (Nat.le_of_ble_eq_true rfl) rfl ?_
          refine v_iinc (j := 1) (L' := [(4, _), (3, _), (2, _), (1, _), (0, _)]) (v := nI (i + 1)) dX13_same_176 rfl (nI_1 _) (Nat.le_of_ble_eq_true rfl) rfl ?_
          refine v_goto (tgt := 132) dX13_same_179 (by decide) ?_
          refine v_sub (L' := [(4, _), (3, _), (2, _), (1, _), (0, _)]) [0, 1, 2, 3, 4] rfl ?_
          first
            | (have c9 := u9
               have w9 : cvB wr nw (nI ri) (E.getD i []) = false := Bool.eq_false_iff.mpr (fun q => by rw [if_pos q] at c_154; exact absurd c_154 (by decide))
               have e8 : (((E.take (i + 1)).filter (fun x => !cvB wr nw (nI ri) x)).flatMap (vwR pl p3 p4 mp cl)) = (((E.take i).filter (fun x => !cvB wr nw (nI ri) x)).flatMap (vwR pl p3 p4 mp cl)) ++ lS pl p3 p4 mp (sgl tc (rwI x0 y0 x1 y1 aI eI m (tc : Int))) 16 cl [] := (by
                 rw [tk_s9 [] hi, List.filter_append, List.filter_cons_of_pos (by rw [w9]; rfl), List.flatMap_append]
                 congr 1
                 show vwR pl p3 p4 mp cl (E.getD i []) ++ [] = _
                 rw [List.append_nil, hx]
                 unfold vwR
                 rw [clR_e _ _ _ _ _ _ _ (by omega)])
               refine ih (i + 1) h1 fs1 (by omega) u1 u2 (hE.tr u3) ⟨gt1, u4, fun k9 j9 q1 q2 q3 => (u5 _ (by omega)).trans (g2 k9 j9 (by omega) q2 q3), fun a q => (u5 a (by omega)).trans (g3 a q)⟩ (by rw [e8]; exact u6) u7 u8 (fun a p1 p2 p3_ p4_ p5 => (u9 a p1 p2 p3_ p4_ p5).trans (fr a p1 p2 p3_ p4_ p5)))
            | (have w9 : cvB wr nw (nI ri) (E.getD i []) = true := Decidable.of_not_not (fun q => c_154 (if_neg q))
               have e8 : (((E.take (i + 1)).filter (fun x => !cvB wr nw (nI ri) x)).flatMap (vwR pl p3 p4 mp cl)) = (((E.take i).filter (fun x => !cvB wr nw (nI ri) x)).flatMap (vwR pl p3 p4 mp cl)) := (by
                 rw [tk_s9 [] hi, List.filter_append, List.filter_cons_of_neg (by rw [w9]; decide)]
                 show (_ ++ []).flatMap _ = _
                 rw [List.append_nil])
               refine ih (i + 1) h fs (by omega) hm9 hl hE ⟨gt, g1, fun k9 j9 q1 q2 q3 => g2 k9 j9 (by omega) q2 q3, g3⟩ (by rw [e8]; exact MT) A46 A47 fr)
        · refine v_aload_n dX13_same_157 rfl 4 rfl ?_
          refine v_iload_n dX13_same_158 rfl 2 rfl ?_
          refine v_bipush (v := 12) dX13_same_159 (by decide) ?_
          refine v_iload dX13_same_161 0 rfl ?_
          refine v_imul dX13_same_163 ?_
          refine v_callVq (M' := mX13_isLaidOut) (n := 2) (As := [_, _]) (ci := 11) (r := (RX13, TX13, 71)) gX13_same_X13_isLaidOut rfl (by decide +kernel) ⟨(Nat.le_of_ble_eq_true rfl), (Nat.le_of_ble_eq_true rfl)⟩ rfl rfl dX13_same_164 rfl ⟨(Nat.le_of_ble_eq_true rfl), (Nat.le_of_ble_eq_true rfl)⟩ (Nat.le_of_ble_eq_true rfl) (by first | with_reducible assumption) rfl (m_isLaidOutM G _ b nc np pl R hm p3 p4 sz ly vo mp X Y h fs hqf MYh i (by omega) x0 y0 x1 y1 aI eI m tc hx4 FL hF15 ((hE 64 (by decide)).trans f64) ft ((fr _ (by omega) (by omega) (by omega) (by omega) (by omega)).trans A59) hft hMBw cl hcl rk hrk (SZ.kp (fr _ (by omega) (by omega) (by omega) (by omega) (by omega))) htc (hFx (Bool.eq_false_iff.mpr (fun q => by rw [if_pos q] at c_154; exact absurd c_154 (by decide)))) hSk gt hrw (((E.take i).filter (fun x => !cvB wr nw (nI ri) x)).flatMap (vwR pl p3 p4 mp cl)) g1 MT A46 A47 (fs[60]'(by omega)) (List.getElem?_eq_getElem (by omega)) hrn hm9 _ (sv_12m i)) (fun v9 h1 z1 hq9 => ?_)
          obtain ⟨rfl, rfl, fs1, u1, u2, u3, ⟨gt1, u4, u5⟩, u6, u7, u8, u9⟩ := hq9
          refine v_if_eq (tgt := 174) dX13_same_167 (by decide) (fun c_167 => ?_) (fun c_167 => ?_)
          · exact absurd c_167 (by decide)
          · refine v_iconst (v := 1) dX13_same_170 (by decide) ?_
            refine v_goto (tgt := 175) dX13_same_171 (by decide) ?_
            refine v_istore_n (L' := [(3, _), (4, _), (2, _), (1, _), (0, _)]) dX13_same_175 rfl (Nat.le_of_ble_eq_true rfl) rfl ?_
            refine v_iinc (j := 1) (L' := [(4, _), (3, _), (2, _), (1, _), (0, _)]) (v := nI (i + 1)) dX13_same_176 rfl (nI_1 _) (Nat.le_of_ble_eq_true rfl) rfl ?_
            refine v_goto (tgt := 132) dX13_same_179 (by decide) ?_
            refine v_sub (L' := [(4, _), (3, _), (2, _), (1, _), (0, _)]) [0, 1, 2, 3, 4] rfl ?_
            first
              | (have c9 := u9
                 have w9 : cvB wr nw (nI ri) (E.getD i []) = false := Bool.eq_false_iff.mpr (fun q => by rw [if_pos q] at c_154; exact absurd c_154 (by decide))
                 have e8 : (((E.take (i + 1)).filter (fun x => !cvB wr nw (nI ri) x)).flatMap (vwR pl p3 p4 mp cl)) = (((E.take i).filter (fun x => !cvB wr nw (nI ri) x)).flatMap (vwR pl p3 p4 mp cl)) ++ lS pl p3 p4 mp (sgl tc (rwI x0 y0 x1 y1 aI eI m (tc : Int))) 16 cl [] := (by
                   rw [tk_s9 [] hi, List.filter_append, List.filter_cons_of_pos (by rw [w9]; rfl), List.flatMap_append]
                   congr 1
                   show vwR pl p3 p4 mp cl (E.getD i []) ++ [] = _
                   rw [List.append_nil, hx]
                   unfold vwR
                   rw [clR_e _ _ _ _ _ _ _ (by omega)])
                 refine ih (i + 1) h1 fs1 (by omega) u1 u2 (hE.tr u3) ⟨gt1, u4, fun k9 j9 q1 q2 q3 => (u5 _ (by omega)).trans (g2 k9 j9 (by omega) q2 q3), fun a q => (u5 a (by omega)).trans (g3 a q)⟩ (by rw [e8]; exact u6) u7 u8 (fun a p1 p2 p3_ p4_ p5 => (u9 a p1 p2 p3_ p4_ p5).trans (fr a p1 p2 p3_ p4_ p5)))
              | (have w9 : cvB wr nw (nI ri) (E.getD i []) = true := Decidable.of_not_not (fun q => c_154 (if_neg q))
                 have e8 : (((E.take (i + 1)).filter (fun x => !cvB wr nw (nI ri) x)).flatMap (vwR pl p3 p4 mp cl)) = (((E.take i).filter (fun x => !cvB wr nw (nI ri) x)).flatMap (vwR pl p3 p4 mp cl)) := (by
                   rw [tk_s9 [] hi, List.filter_append, List.filter_cons_of_neg (by rw [w9]; decide)]
                   show (_ ++ []).flatMap _ = _
                   rw [List.append_nil])
                 refine ih (i + 1) h fs (by omega) hm9 hl hE ⟨gt, g1, fun k9 j9 q1 q2 q3 => g2 k9 j9 (by omega) q2 q3, g3⟩ (by rw [e8]; exact MT) A46 A47 fr)

end GU
