/-- the layout's numbers, out of the tables -/
def abX (u : Nat → Nat → Nat → Int32) (p i : Nat) : Int := (u 0 p i).toInt
def abY (u : Nat → Nat → Nat → Int32) (p i : Nat) : Int := (u 1 p i).toInt
def abT (t : Nat → Nat → Int32) (i : Nat) : Nat := (t 7 i).toNatClampNeg
def abM (t : Nat → Nat → Int32) (i : Nat) : mvT := (decide (4 ≤ abT t i), abT t i % 4, (t 5 i).toInt, (t 6 i).toInt)
def abF (sz : Nat → Nat) (u : Nat → Nat → Nat → Int32) (p i : Nat) : Nat := fcI (sz p) (cI (u 0 p) (u 1 p)) i
def abO (sz : Nat → Nat) (u : Nat → Nat → Nat → Int32) (p i : Nat) : Option Nat := ocI (sz p) (cI (u 0 p) (u 1 p)) i
theorem abT_8 {x : Int32} (h0 : 0 ≤ x) (h8 : x < 8) : x = nI x.toNatClampNeg ∧ x.toNatClampNeg < 8 := by
  obtain ⟨n, hn, rfl⟩ := sv_idx (c := x) (n := 8) (by decide) ⟨h0, h8⟩
  rw [nI_clamp (by omega)]
  exact ⟨rfl, hn⟩
theorem mv_8 : ∀ n, n < 8 → (if nI n < 4 then (0 : Int32) else 1) = (if decide (4 ≤ n) = true then 1 else 0) ∧ nI n &&& 3 = nI (n % 4) := by decide
theorem ocI_4 (n : Nat) (C : Nat → Int × Int) (i f : Nat) (h : ocI n C i = some f) : f < 4 := by
  unfold ocI at h
  split at h
  · injection h with h
    rw [← h]
    split <;> exact fcI_4 _ _ _
  · exact absurd h (by simp)
theorem ab_bridge {G : sv_G} {h : sv_h} {b z : Nat} {k : Int32} {nc np pl : Nat} {sz : Nat → Nat} {t : Nat → Nat → Int32} {u : Nat → Nat → Nat → Int32} {pa ma : Nat → Nat} (gLay : ab_Lay G h b k nc np pl sz t u pa ma) (gAd : ab_ad b np pl z pa ma) (gok : ab_ok nc np pl sz t u) : ∃ (ar : Nat → Int32) (rk : Nat → Nat), sy_ G h b k nc np pl (ab_R sz u) (ab_c0 t) (ab_c3 t) (ab_c4 t) pa ma sz (t 1) (t 2) ar (abM t) ∧ px_ G h np (ab_R sz u) pa sz (abX u) (abY u) (abF sz u) (abO sz u) ∧ lyh nc np pl (ab_R sz u) (ab_c0 t) (ab_c3 t) (ab_c4 t) (t 2) ar (abM t) sz (abX u) (abY u) (abF sz u) (abO sz u) rk ∧ (∀ p, p < np → ab_R sz u p = true → bd (ar p).toInt) := by
  obtain ⟨a1, a2, ⟨f3, a3, a3a⟩, ⟨f4, a4, a4a⟩, a5, a6, a7, a8, a9⟩ := id gLay
  have c34 := gok.c34
  have c0 := gok.c0
  obtain ⟨rk, hrk, hrn⟩ := gok.rank
  have hex : ∀ p, p < np → ∃ ar : Int32, h (pa p) = some (.inr (3, [.int (nI (ab_c0 t p)), .int (t 1 p), .ref (pa p + 1), .ref (pa p + 2), .int (nI (sz p)), .int (t 2 p), .int (if ab_R sz u p = true then 1 else 0), .int ar, .ref (pa p + 3), .ref (pa p + 4)])) ∧ (gm_right (sz p) (u 0 p) (u 1 p) → ar = gm_area (sz p) (u 0 p) (u 1 p)) := by
    intro p hp
    obtain ⟨rt, ar, fx, fy, ff, fo, w1, w2, w3, w4, w5, w6, w7⟩ := a8 p hp
    refine ⟨ar, ?_, fun q => (w7.1 q).2.1⟩
    rw [← (c0 p hp).1]
    have e : (if ab_R sz u p = true then 1 else 0 : Int32) = rt := by
      by_cases q : gm_right (sz p) (u 0 p) (u 1 p)
      · rw [if_pos (ab_R_t.mpr q), (w7.1 q).1]
      · rw [if_neg (fun r => q (ab_R_t.mp r)), w7.2 q]
    rw [e]
    exact w1
  have hch : ∃ ar : Nat → Int32, ∀ p, p < np → h (pa p) = some (.inr (3, [.int (nI (ab_c0 t p)), .int (t 1 p), .ref (pa p + 1), .ref (pa p + 2), .int (nI (sz p)), .int (t 2 p), .int (if ab_R sz u p = true then 1 else 0), .int (ar p), .ref (pa p + 3), .ref (pa p + 4)])) ∧ (gm_right (sz p) (u 0 p) (u 1 p) → ar p = gm_area (sz p) (u 0 p) (u 1 p)) := by
    refine ⟨fun p => @dite _ (p < np) (Classical.propDecidable _) (fun hp => Classical.choose (hex p hp)) (fun _ => 0), fun p hp => ?_⟩
    have e : (@dite Int32 (p < np) (Classical.propDecidable _) (fun hp => Classical.choose (hex p hp)) (fun _ => 0)) = Classical.choose (hex p hp) := dif_pos hp
    dsimp only
    rw [e]
    exact Classical.choose_spec (hex p hp)
  obtain ⟨ar, har⟩ := hch
  have hco : ∀ p, p < np → ∀ i, i < sz p → ab_co (u 0 p i) ∧ ab_co (u 1 p i) := fun p hp => (gok.2.2.2.1 p hp).2.2.2.2.1
  have hsd : ∀ p, p < np → ∀ i, i + 1 < sz p → ¬ (u 0 p (i + 1) = u 0 p i ↔ u 1 p (i + 1) = u 1 p i) := fun p hp => (gok.2.2.2.1 p hp).2.2.2.2.2
  have hcI : ∀ p, (fun k => (abX u p k, abY u p k)) = cI (u 0 p) (u 1 p) := fun p => rfl
  refine ⟨ar, rk, ?_, ?_, ?_, ?_⟩
  · refine ⟨a1, a2, ⟨f3, a3, fun i hi => (a3a i hi).trans (c34 i hi).1⟩, ⟨f4, a4, fun i hi => (a4a i hi).trans (c34 i hi).2.1⟩, a5, a6, a7, fun p hp => ⟨(har p hp).1, (c0 p hp).2, (gAd.2.1 p hp).1, (gok.2.2.2.1 p hp).1⟩, fun i hi => ⟨?_, Nat.mod_lt _ (by decide), (c34 i hi).2.2.1, (c34 i hi).2.2.2, (gAd.2.2.1 i hi).1⟩, gok.1, gok.2.1, gok.2.2.1⟩
    obtain ⟨_, _, _, _, g7a, g7b⟩ := gok.2.2.2.2.1 i hi
    obtain ⟨q1, q2⟩ := abT_8 g7a g7b
    have q3 := mv_8 _ q2
    rw [a9 i hi]
    show (some (.inr (2, [.int (if t 7 i < 4 then 0 else 1), .int (t 7 i &&& 3), .int (t 5 i), .int (t 6 i)])) : Option va_E) = some (.inr (2, [.int (if decide (4 ≤ abT t i) = true then 1 else 0), .int (nI (abT t i % 4)), .int (iN (t 5 i).toInt), .int (iN (t 6 i).toInt)]))
    unfold abT
    rw [← q3.1, ← q3.2, ← q1, iN_of, iN_of]
  · intro p hp hR
    have q := ab_R_t.mp hR
    obtain ⟨rt, ar, fx, fy, ff, fo, w1, w2, w3, w4, w5, w6, w7⟩ := a8 p hp
    have hb := rt_area (hco p hp) (hsd p hp) q
    have hl := gl_lf (hco p hp) hb.2
    refine ⟨fx, fy, ff, fo, w2, w3, w4, w5, fun i hi => ⟨?_, ?_, ?_, fcI_4 _ _ _, ?_, fun f hf => ocI_4 _ _ _ _ hf⟩, q.1.1, (gok.2.2.2.1 p hp).1⟩
    · exact (w6 i hi).1.trans (iN_of _).symm
    · exact (w6 i hi).2.trans (iN_of _).symm
    · rw [((w7.1 q).2.2 i hi).1]; exact gf_fc hl i
    · rw [((w7.1 q).2.2 i hi).2]; exact go_oc hl i
  · refine ⟨gok.1, gok.2.1, gok.2.2.1, hrk, hrn, fun i hi => (c34 i hi).2.2, ?_, ?_, ?_, ?_⟩
    · intro p hp _ i hi
      have q := hco p hp i hi
      exact ⟨co_b q.1, co_b q.2⟩
    · intro i hi
      obtain ⟨_, _, g5, g6, _⟩ := gok.2.2.2.2.1 i hi
      exact ⟨co_b g5, co_b g6⟩
    · intro p hp
      obtain ⟨_, _, g1, g2, _⟩ := gok.2.2.2.1 p hp
      rw [Int32.le_iff_toInt_le] at g1 g2
      exact ⟨g1, g2⟩
    · intro p hp hR
      have q := ab_R_t.mp hR
      have hb := rt_area (hco p hp) (hsd p hp) q
      refine ⟨q.1.1, rt_rc (hsd p hp) q, rt_al q, hb.1, fun i _ => rfl, fun i _ => rfl, ?_⟩
      rw [(har p hp).2 q]
      exact ga_ar (hco p hp) hb.2
  · intro p hp hR
    have q := ab_R_t.mp hR
    have hb := rt_area (hco p hp) (hsd p hp) q
    rw [(har p hp).2 q, ga_ar (hco p hp) hb.2]
    unfold bd
    split <;> omega
/-- the model's layout -/
theorem ab_myl {G : sv_G} {h : sv_h} {b : Nat} {nc np pl : Nat} {sz : Nat → Nat} {t : Nat → Nat → Int32} {u : Nat → Nat → Nat → Int32} (gML : ab_MLay G h b nc np pl sz t u) (gok : ab_ok nc np pl sz t u) : myl_ G h b nc np pl (ab_R sz u) (ab_c0 t) (ab_c3 t) (ab_c4 t) sz (t 1) (t 2) (abM t) (abX u) (abY u) := by
  obtain ⟨⟨m0, n0, o0⟩, ⟨m1, n1, o1⟩, ⟨m2, n2, o2⟩, ⟨m3, n3, o3⟩, ⟨m4, n4, o4⟩, ⟨m5, n5, o5⟩, ⟨m6, n6, o6⟩, ⟨m7, n7, o7⟩, ⟨m8, n8, o8⟩, ⟨m9, n9, o9⟩, ⟨mA, nA, oA⟩⟩ := gML
  have c34 := gok.c34
  have c0 := gok.c0
  refine ⟨⟨m0, n0, fun p hp => (o0 p hp).trans (c0 p hp).1⟩, ⟨m1, n1, o1⟩, ⟨m2, n2, o2⟩, ⟨m3, n3, o3⟩, ⟨m4, n4, fun p hp i hi => (o4 p i hp hi).trans (jN_i _).symm⟩, ⟨m5, n5, fun p hp i hi => (o5 p i hp hi).trans (jN_i _).symm⟩, ⟨m6, n6, fun i hi => (o6 i hi).trans (c34 i hi).1⟩, ⟨m7, n7, fun i hi => (o7 i hi).trans (c34 i hi).2.1⟩, ⟨m8, n8, fun i hi => (o8 i hi).trans (jN_i _).symm⟩, ⟨m9, n9, fun i hi => (o9 i hi).trans (jN_i _).symm⟩, ⟨mA, nA, fun i hi => ?_⟩, gok.2.1, gok.2.2.1, gok.1, fun p hp => ⟨(gok.2.2.2.1 p hp).1, (c0 p hp).2⟩, fun i hi => (c34 i hi).2.2⟩
  obtain ⟨_, _, _, _, g7a, g7b⟩ := gok.2.2.2.2.1 i hi
  obtain ⟨q1, q2⟩ := abT_8 g7a g7b
  exact ⟨abT t i, q2, (oA i hi).trans q1, rfl, rfl⟩
theorem ab_XY {nc np pl : Nat} {sz : Nat → Nat} {t : Nat → Nat → Int32} {u : Nat → Nat → Nat → Int32} (gok : ab_ok nc np pl sz t u) : (∀ p, p < np → ∀ i, i < sz p → (-10000 ≤ abX u p i ∧ abX u p i ≤ 10000) ∧ (-10000 ≤ abY u p i ∧ abY u p i ≤ 10000)) ∧ ∀ p, p < np → (ab_R sz u p = true ↔ gm_mr (sz p) (fun i => iN (abX u p i)) (fun i => iN (abY u p i))) := by
  constructor
  · intro p hp i hi
    have q := (gok.2.2.2.1 p hp).2.2.2.2.1 i hi
    exact ⟨co_b q.1, co_b q.2⟩
  · intro p hp
    have e1 : (fun i => iN (abX u p i)) = u 0 p := funext fun i => iN_of _
    have e2 : (fun i => iN (abY u p i)) = u 1 p := funext fun i => iN_of _
    rw [e1, e2]
    exact ab_R_t.trans (gm_mr_iff (gok.2.2.2.1 p hp).2.2.2.2.2).symm
/-- occurrences are in order -/
theorem lyh_ok {nc np pl : Nat} {R : Nat → Bool} {hm p3 p4 : Nat → Nat} {vo ar : Nat → Int32} {mp : Nat → mvT} {sz : Nat → Nat} {X Y : Nat → Nat → Int} {fc : Nat → Nat → Nat} {oc : Nat → Nat → Option Nat} {rk : Nat → Nat} (H : lyh nc np pl R hm p3 p4 vo ar mp sz X Y fc oc rk) (c : Nat) : mok_ np pl sz mp X Y (dS np pl (rQ R hm) p3 p4 16 c []) := by
  intro q hq
  obtain ⟨a1, a2, a3, a4, a5⟩ := lyh_m H hq
  have hM := H.2.2.2.2.2.2.2.1
  refine ⟨a1, a4, by have := a5.1; omega, fun d hd => ?_, fun d x y hx hy => ?_⟩
  · have k := lyh_q (q := (q.1.drop d, q.2)) H a1 a2 (by show (q.1.drop d).length < 16; rw [List.length_drop]; omega) (fun i hi => a4 i (List.mem_of_mem_drop hi))
    exact k.2.2.2.2.2.2
  · have k := mvW_b (mp := mp) (q.1.take d).length (q.1.take d) rfl (fun i hi => hM i (a4 i (List.mem_of_mem_take hi)))
    have l : (q.1.take d).length ≤ 15 := by rw [List.length_take]; omega
    have m := mvA_b (M := mvW mp (q.1.take d)) (p := (x, y)) (A := 200000) (B := 10000 * ((q.1.take d).length : Int)) hx hy k.1 k.2
    omega
