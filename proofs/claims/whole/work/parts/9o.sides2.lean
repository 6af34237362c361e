/-- the items of occurrence i, of the first f faces -/
def sF_ (G : sv_G) (w3 : Bool) (b : Nat) (T : List Nat × Nat → Nat → List (Int × Int × Int)) (S : List (List Nat × Nat)) (i f : Nat) (fs0 fa0 fr0 ft0 : Nat → Int32) (hb h : sv_h) : Prop := ∃ fs fa fr ft : Nat → Int32, ab_I G h (b + 44) 401 fs ∧ ab_I G h (b + 45) 1600 fa ∧ ab_I G h (b + 46) 1600 fr ∧ ab_I G h (b + 47) 1600 ft ∧ (∀ g, g ≤ f → fs (4 * i + g) = nI (st_ T S i g)) ∧ (∀ a, a < 4 * i → fs a = fs0 a) ∧ (∀ g, g < f → it_ w3 fa fr ft (st_ T S i g) (T (S.getD i ([], 0)) g)) ∧ (∀ a, a < bs T S i → fa a = fa0 a ∧ fr a = fr0 a ∧ ft a = ft0 a) ∧ ∀ a, a ≠ b + 44 → a ≠ b + 45 → a ≠ b + 46 → a ≠ b + 47 → h a = hb a
theorem st_s {T : List Nat × Nat → Nat → List (Int × Int × Int)} {S : List (List Nat × Nat)} {i f : Nat} : st_ T S i (f + 1) = st_ T S i f + (T (S.getD i ([], 0)) f).length := by
  unfold st_; show _ + (tt T _ f + _) = _; omega
theorem st_le {T : List Nat × Nat → Nat → List (Int × Int × Int)} {S : List (List Nat × Nat)} {i f g : Nat} (h : f ≤ g) : st_ T S i f ≤ st_ T S i g := Nat.add_le_add_left (tt_le h) _
theorem it_.old {w3 : Bool} {fa fr ft fa1 fr1 ft1 : Nat → Int32} {I J : Nat} {l : List (Int × Int × Int)} (H : it_ w3 fa fr ft I l) (hJ : I + l.length ≤ J) (e : ∀ a, a < J → fa1 a = fa a ∧ fr1 a = fr a ∧ ft1 a = ft a) : it_ w3 fa1 fr1 ft1 I l := by
  intro x hx
  obtain ⟨a1, a2, a3⟩ := H x hx
  obtain ⟨e1, e2, e3⟩ := e (I + x) (by omega)
  exact ⟨e1.trans a1, e2.trans a2, fun w => e3.trans (a3 w)⟩
set_option maxHeartbeats 4000000 in
set_option maxRecDepth 100000 in
theorem t_face0 (G : sv_G) (Qr : Option Value → sv_h → Nat → Prop) (h1 : sv_h) (z b : Nat) (k : Int32) (nc np pl : Nat) (R : Nat → Bool) (hm pa sz : Nat → Nat) (ly vo ar : Nat → Int32) (X Y : Nat → Nat → Int) (fc : Nat → Nat → Nat) (oc : Nat → Nat → Option Nat) (mp : Nat → mvT) (S : List (List Nat × Nat)) (Z : sg_ G b k nc np pl R hm pa sz ly vo ar X Y fc oc mp h1 S) (hb : sv_h) (hfr : ∀ a, ¬ (b + 40 ≤ a ∧ a < b + 48) → hb a = h1 a) (i : Nat) (hi : i < S.length) (fcx fcy : Nat → Int32) (hcx : ab_I G hb (b + 42) 16 fcx) (hcy : ab_I G hb (b + 43) 16 fcy) (hcc : ∀ m, m < (sz (S.getD i ([], 0)).2) → fcx m = iN ((cor mp X Y (S.getD i ([], 0))) m).1 ∧ fcy m = iN ((cor mp X Y (S.getD i ([], 0))) m).2) (hT : bs (sideL mp sz X Y fc) S i + tt (sideL mp sz X Y fc) (S.getD i ([], 0)) 4 ≤ 1600) (fs0 fa0 fr0 ft0 : Nat → Int32) (hk : ∀ h, sF_ G true b (sideL mp sz X Y fc) S i 1 fs0 fa0 fr0 ft0 hb h → V G mX8_listSides (sv_MQ G mX8_listSides Qr) 18 [(4, .int (nI 1)), (3, .int (nI (st_ (sideL mp sz X Y fc) S i 1))), (2, .ref (pa (S.getD i ([], 0)).2)), (1, .int (nI i)), (0, .ref (b + 35))] [] h z 0 0) (h : sv_h) (H : sF_ G true b (sideL mp sz X Y fc) S i 0 fs0 fa0 fr0 ft0 hb h) : V G mX8_listSides (sv_MQ G mX8_listSides Qr) 18 [(4, .int (nI 0)), (3, .int (nI (st_ (sideL mp sz X Y fc) S i 0))), (2, .ref (pa (S.getD i ([], 0)).2)), (1, .int (nI i)), (0, .ref (b + 35))] [] h z 0 0 := by
  obtain ⟨fs9, fa, fr9, ft, ha0, ha1, ha2, ha3, hst, hso, hit, hol, hfb⟩ := id H
  have fr : ∀ a, ¬ (b + 40 ≤ a ∧ a < b + 48) → h a = h1 a := fun a p => (hfb a (by omega) (by omega) (by omega) (by omega)).trans (hfr a p)
  obtain ⟨z0, z1, ⟨fs, z2, z3⟩, ⟨fb_, z4, z5⟩, ⟨fl, z6, z7⟩, z8, z9, ⟨fq, zA, zB⟩, zC, zD, zE, zF⟩ := id Z
  have w1 := (fr (b + 35) (by omega)).trans z1
  have w2 : ab_I G h (b + 37) 100 fs := (fr (b + 37) (by omega)).trans z2
  have w4 : ab_I G h (b + 38) 100 fb_ := (fr (b + 38) (by omega)).trans z4
  have w6 : ab_Q G h (b + 39) 3 100 fl := (fr (b + 39) (by omega)).trans z6
  have w9 := (fr (b + 1) (by omega)).trans z9
  have wA : ab_Q G h (b + 2) 4 64 fq := (fr (b + 2) (by omega)).trans zA
  obtain ⟨v1, v2, v3⟩ := zE i hi
  obtain ⟨v4, v5⟩ := zC _ v1
  obtain ⟨fx, fy, ff, fo, v6, v7, v8, v9, vA, vB, vC⟩ := zD _ v1 v2
  have u1 := (fr (b + 64 + i) (by omega)).trans (z8 i hi)
  have u2 := (fr (pa (S.getD i ([], 0)).2) (by omega)).trans v4
  have u3 : ab_I G h (pa (S.getD i ([], 0)).2 + 1) 16 fx := (fr _ (by omega)).trans v6
  have u4 : ab_I G h (pa (S.getD i ([], 0)).2 + 2) 16 fy := (fr _ (by omega)).trans v7
  have u5 : ab_I G h (pa (S.getD i ([], 0)).2 + 3) 16 ff := (fr _ (by omega)).trans v8
  have u6 : ab_I G h (pa (S.getD i ([], 0)).2 + 4) 16 fo := (fr _ (by omega)).trans v9
  refine v_iload dX8_listSides_18 0 rfl ?_
  refine v_iconst (v := 4) dX8_listSides_20 (by decide) ?_
  refine v_icmp_ge (tgt := 191) dX8_listSides_21 (by decide) (fun c_21 => ?_) (fun c_21 => ?_)
  · exact absurd c_21 (by decide)
  · refine v_iload dX8_listSides_24 0 rfl ?_
    refine v_if_eq (tgt := 35) dX8_listSides_26 (by decide) (fun c_26 => ?_) (fun c_26 => ?_)
    · refine v_aload_n dX8_listSides_35 rfl 4 rfl ?_
      refine v_getf 8 (ci := 6) (C := RX8) (T := TX8) (N := 14) rfl iwX8_listSides_X8 (Nat.le_of_ble_eq_true rfl) (by decide +kernel) dX8_listSides_36 (by first | with_reducible assumption) rfl ?_
      refine v_goto (tgt := 46) dX8_listSides_39 (by decide) ?_
      refine v_astore (L' := [(5, _), (4, _), (3, _), (2, _), (1, _), (0, _)]) dX8_listSides_46 (Nat.le_of_ble_eq_true rfl) rfl ?_
      refine v_iload dX8_listSides_48 1 rfl ?_
      refine v_if_eq (tgt := 59) dX8_listSides_50 (by decide) (fun c_50 => ?_) (fun c_50 => ?_)
      · refine v_aload_n dX8_listSides_59 rfl 5 rfl ?_
        refine v_getf 9 (ci := 6) (C := RX8) (T := TX8) (N := 14) rfl iwX8_listSides_X8 (Nat.le_of_ble_eq_true rfl) (by decide +kernel) dX8_listSides_60 (by first | with_reducible assumption) rfl ?_
        refine v_goto (tgt := 70) dX8_listSides_63 (by decide) ?_
        refine v_astore (L' := [(6, _), (5, _), (4, _), (3, _), (2, _), (1, _), (0, _)]) dX8_listSides_70 (Nat.le_of_ble_eq_true rfl) rfl ?_
        refine v_iconst (v := 0) dX8_listSides_72 (by decide) ?_
        refine v_istore (L' := [(7, _), (6, _), (5, _), (4, _), (3, _), (2, _), (1, _), (0, _)]) dX8_listSides_73 (Nat.le_of_ble_eq_true rfl) rfl ?_
        refine v_sub (L' := [(7, _), (6, _), (5, _), (4, _), (3, _), (2, _), (1, _), (0, _)]) [0, 1, 2, 3, 4, 5, 6, 7] rfl ?_
        have eT : (sideL mp sz X Y fc) (S.getD i ([], 0)) 0 = (slP (fun i9 => decide (mvF (mvW mp (S.getD i ([], 0)).1) (fc (S.getD i ([], 0)).2 i9) = 0)) (fun i9 => ((fun i9 => ((cor mp X Y (S.getD i ([], 0))) i9).1) i9, min ((fun i9 => ((cor mp X Y (S.getD i ([], 0))) i9).2) i9) ((fun i9 => ((cor mp X Y (S.getD i ([], 0))) i9).2) (gm_aft (sz (S.getD i ([], 0)).2) i9)), max ((fun i9 => ((cor mp X Y (S.getD i ([], 0))) i9).2) i9) ((fun i9 => ((cor mp X Y (S.getD i ([], 0))) i9).2) (gm_aft (sz (S.getD i ([], 0)).2) i9)))) (sz (S.getD i ([], 0)).2)) := by
          show slP _ (sideT 0 (cor mp X Y (S.getD i ([], 0))) (sz (S.getD i ([], 0)).2)) _ = slP _ _ _
          congr 1
        have hI : st_ (sideL mp sz X Y fc) S i 0 + (slP (fun i9 => decide (mvF (mvW mp (S.getD i ([], 0)).1) (fc (S.getD i ([], 0)).2 i9) = 0)) (fun i9 => ((fun i9 => ((cor mp X Y (S.getD i ([], 0))) i9).1) i9, min ((fun i9 => ((cor mp X Y (S.getD i ([], 0))) i9).2) i9) ((fun i9 => ((cor mp X Y (S.getD i ([], 0))) i9).2) (gm_aft (sz (S.getD i ([], 0)).2) i9)), max ((fun i9 => ((cor mp X Y (S.getD i ([], 0))) i9).2) i9) ((fun i9 => ((cor mp X Y (S.getD i ([], 0))) i9).2) (gm_aft (sz (S.getD i ([], 0)).2) i9)))) (sz (S.getD i ([], 0)).2)).length ≤ 1600 := by
          rw [← eT]
          exact Nat.le_trans (Nat.le_of_eq (st_s (T := (sideL mp sz X Y fc)) (S := S) (i := i) (f := 0)).symm) (Nat.le_trans (st_le (show 0 + 1 ≤ 4 by decide)) hT)
        refine l_side G Qr _ _ b k nc np pl R hm pa sz ly vo ar X Y fc oc mp S Z h (fun a p => (hfb a (by omega) (by omega) (by omega) (by omega)).trans (hfr a p)) i hi 0 (by decide) (b + 42) (b + 43) (by omega) (fun i9 => ((cor mp X Y (S.getD i ([], 0))) i9).1) (fun i9 => ((cor mp X Y (S.getD i ([], 0))) i9).2) fcx fcy ((hfb _ (by omega) (by omega) (by omega) (by omega)).trans hcx) ((hfb _ (by omega) (by omega) (by omega) (by omega)).trans hcy) (fun k9 h9 => (hcc k9 h9).1) (fun k9 h9 => ⟨(hcc k9 h9).2, (v3 k9 h9).2⟩) (st_ (sideL mp sz X Y fc) S i 0) hI fa fr9 ft (fun h2 fa2 fr2 ft2 b1 b2 b3 b4 b5 b6 => ?_) (sz (S.getD i ([], 0)).2) 0 h fa fr9 ft (by omega) ha1 ha2 ha3 (fun x hx => absurd hx (Nat.not_lt_zero x)) (fun a _ => ⟨rfl, rfl, rfl⟩) (fun _ _ _ _ => rfl)
        rw [← eT] at b4 ⊢
        have w44 : ab_I G h2 (b + 44) 401 fs9 := (b6 _ (by omega) (by omega) (by omega)).trans ha0
        have w35 := (b6 (b + 35) (by omega) (by omega) (by omega)).trans w1
        refine v_aload_n dX8_listSides_171 rfl 4 rfl ?_
        refine v_getf 10 (ci := 6) (C := RX8) (T := TX8) (N := 14) rfl iwX8_listSides_X8 (Nat.le_of_ble_eq_true rfl) (by decide +kernel) dX8_listSides_172 (by first | with_reducible assumption) rfl ?_
        refine v_iload_n dX8_listSides_175 rfl 3 rfl ?_
        refine v_iconst (v := 4) dX8_listSides_176 (by decide) ?_
        refine v_imul dX8_listSides_177 ?_
        refine v_iload dX8_listSides_178 0 rfl ?_
        refine v_iadd dX8_listSides_180 ?_
        rw [sv_4 i 0]
        refine v_iconst (v := 1) dX8_listSides_181 (by decide) ?_
        refine v_iadd dX8_listSides_182 ?_
        rw [nI_1]
        refine v_iload_n dX8_listSides_183 rfl 1 rfl ?_
        refine v_iast dX8_listSides_184 (by first | with_reducible assumption) (vp_in_nI (by omega) (by omega)) ?_
        refine v_iinc (j := 0) (L' := [(4, _), (3, _), (2, _), (1, _), (0, _)]) (v := nI 1) dX8_listSides_185 rfl (by decide) (Nat.le_of_ble_eq_true rfl) rfl ?_
        refine v_goto (tgt := 18) dX8_listSides_188 (by decide) ?_
        refine v_sub (L' := [(4, _), (3, _), (2, _), (1, _), (0, _)]) [0, 1, 2, 3, 4] rfl ?_
        have ecl : (nI (4 * i + 0 + 1)).toNatClampNeg = 4 * i + 0 + 1 := nI_clamp (by omega)
        rw [ecl]
        have ese : st_ (sideL mp sz X Y fc) S i (0 + 1) = st_ (sideL mp sz X Y fc) S i 0 + ((sideL mp sz X Y fc) (S.getD i ([], 0)) 0).length := st_s
        rw [← ese]
        refine hk _ ⟨_, fa2, fr2, ft2, sv_us, (sv_un (by omega)).trans b1, (sv_un (by omega)).trans b2, (sv_un (by omega)).trans b3, fun g hg => ?_, fun a q => (if_neg (by omega)).trans (hso a q), fun g hg => ?_, fun a q => ?_, fun a q1 q2 q3 q4 => (sv_un q1).trans ((b6 a q2 q3 q4).trans (hfb a q1 q2 q3 q4))⟩
        · by_cases e9 : g = 0 + 1
          · rw [e9]; exact if_pos (by omega)
          · exact (if_neg (by omega)).trans (hst g (by omega))
        · by_cases e9 : g = 0
          · rw [e9]; exact b4
          · have h8 := st_le (T := (sideL mp sz X Y fc)) (S := S) (i := i) (show g + 1 ≤ 0 by omega)
            rw [st_s] at h8
            exact (hit g (by omega)).old h8 b5
        · obtain ⟨g1, g2, g3⟩ := hol a q
          have h8 := st_le (T := (sideL mp sz X Y fc)) (S := S) (i := i) (show 0 ≤ 0 by omega)
          have h7 : st_ (sideL mp sz X Y fc) S i 0 = bs (sideL mp sz X Y fc) S i := Nat.add_zero _
          obtain ⟨k1, k2, k3⟩ := b5 a (by omega)
          exact ⟨k1.trans g1, k2.trans g2, k3.trans g3⟩
      · exact absurd rfl c_50
    · exact absurd rfl c_26

set_option maxHeartbeats 4000000 in
set_option maxRecDepth 100000 in
theorem t_face1 (G : sv_G) (Qr : Option Value → sv_h → Nat → Prop) (h1 : sv_h) (z b : Nat) (k : Int32) (nc np pl : Nat) (R : Nat → Bool) (hm pa sz : Nat → Nat) (ly vo ar : Nat → Int32) (X Y : Nat → Nat → Int) (fc : Nat → Nat → Nat) (oc : Nat → Nat → Option Nat) (mp : Nat → mvT) (S : List (List Nat × Nat)) (Z : sg_ G b k nc np pl R hm pa sz ly vo ar X Y fc oc mp h1 S) (hb : sv_h) (hfr : ∀ a, ¬ (b + 40 ≤ a ∧ a < b + 48) → hb a = h1 a) (i : Nat) (hi : i < S.length) (fcx fcy : Nat → Int32) (hcx : ab_I G hb (b + 42) 16 fcx) (hcy : ab_I G hb (b + 43) 16 fcy) (hcc : ∀ m, m < (sz (S.getD i ([], 0)).2) → fcx m = iN ((cor mp X Y (S.getD i ([], 0))) m).1 ∧ fcy m = iN ((cor mp X Y (S.getD i ([], 0))) m).2) (hT : bs (sideL mp sz X Y fc) S i + tt (sideL mp sz X Y fc) (S.getD i ([], 0)) 4 ≤ 1600) (fs0 fa0 fr0 ft0 : Nat → Int32) (hk : ∀ h, sF_ G true b (sideL mp sz X Y fc) S i 2 fs0 fa0 fr0 ft0 hb h → V G mX8_listSides (sv_MQ G mX8_listSides Qr) 18 [(4, .int (nI 2)), (3, .int (nI (st_ (sideL mp sz X Y fc) S i 2))), (2, .ref (pa (S.getD i ([], 0)).2)), (1, .int (nI i)), (0, .ref (b + 35))] [] h z 0 0) (h : sv_h) (H : sF_ G true b (sideL mp sz X Y fc) S i 1 fs0 fa0 fr0 ft0 hb h) : V G mX8_listSides (sv_MQ G mX8_listSides Qr) 18 [(4, .int (nI 1)), (3, .int (nI (st_ (sideL mp sz X Y fc) S i 1))), (2, .ref (pa (S.getD i ([], 0)).2)), (1, .int (nI i)), (0, .ref (b + 35))] [] h z 0 0 := by
  obtain ⟨fs9, fa, fr9, ft, ha0, ha1, ha2, ha3, hst, hso, hit, hol, hfb⟩ := id H
  have fr : ∀ a, ¬ (b + 40 ≤ a ∧ a < b + 48) → h a = h1 a := fun a p => (hfb a (by omega) (by omega) (by omega) (by omega)).trans (hfr a p)
  obtain ⟨z0, z1, ⟨fs, z2, z3⟩, ⟨fb_, z4, z5⟩, ⟨fl, z6, z7⟩, z8, z9, ⟨fq, zA, zB⟩, zC, zD, zE, zF⟩ := id Z
  have w1 := (fr (b + 35) (by omega)).trans z1
  have w2 : ab_I G h (b + 37) 100 fs := (fr (b + 37) (by omega)).trans z2
  have w4 : ab_I G h (b + 38) 100 fb_ := (fr (b + 38) (by omega)).trans z4
  have w6 : ab_Q G h (b + 39) 3 100 fl := (fr (b + 39) (by omega)).trans z6
  have w9 := (fr (b + 1) (by omega)).trans z9
  have wA : ab_Q G h (b + 2) 4 64 fq := (fr (b + 2) (by omega)).trans zA
  obtain ⟨v1, v2, v3⟩ := zE i hi
  obtain ⟨v4, v5⟩ := zC _ v1
  obtain ⟨fx, fy, ff, fo, v6, v7, v8, v9, vA, vB, vC⟩ := zD _ v1 v2
  have u1 := (fr (b + 64 + i) (by omega)).trans (z8 i hi)
  have u2 := (fr (pa (S.getD i ([], 0)).2) (by omega)).trans v4
  have u3 : ab_I G h (pa (S.getD i ([], 0)).2 + 1) 16 fx := (fr _ (by omega)).trans v6
  have u4 : ab_I G h (pa (S.getD i ([], 0)).2 + 2) 16 fy := (fr _ (by omega)).trans v7
  have u5 : ab_I G h (pa (S.getD i ([], 0)).2 + 3) 16 ff := (fr _ (by omega)).trans v8
  have u6 : ab_I G h (pa (S.getD i ([], 0)).2 + 4) 16 fo := (fr _ (by omega)).trans v9
  refine v_iload dX8_listSides_18 0 rfl ?_
  refine v_iconst (v := 4) dX8_listSides_20 (by decide) ?_
  refine v_icmp_ge (tgt := 191) dX8_listSides_21 (by decide) (fun c_21 => ?_) (fun c_21 => ?_)
  · exact absurd c_21 (by decide)
  · refine v_iload dX8_listSides_24 0 rfl ?_
    refine v_if_eq (tgt := 35) dX8_listSides_26 (by decide) (fun c_26 => ?_) (fun c_26 => ?_)
    · exact absurd c_26 (by decide)
    · refine v_iload dX8_listSides_29 0 rfl ?_
      refine v_iconst (v := 2) dX8_listSides_31 (by decide) ?_
      refine v_icmp_ne (tgt := 42) dX8_listSides_32 (by decide) (fun c_32 => ?_) (fun c_32 => ?_)
      · refine v_aload_n dX8_listSides_42 rfl 4 rfl ?_
        refine v_getf 9 (ci := 6) (C := RX8) (T := TX8) (N := 14) rfl iwX8_listSides_X8 (Nat.le_of_ble_eq_true rfl) (by decide +kernel) dX8_listSides_43 (by first | with_reducible assumption) rfl ?_
        refine v_astore (L' := [(5, _), (4, _), (3, _), (2, _), (1, _), (0, _)]) dX8_listSides_46 (Nat.le_of_ble_eq_true rfl) rfl ?_
        refine v_iload dX8_listSides_48 1 rfl ?_
        refine v_if_eq (tgt := 59) dX8_listSides_50 (by decide) (fun c_50 => ?_) (fun c_50 => ?_)
        · exact absurd c_50 (by decide)
        · refine v_iload dX8_listSides_53 1 rfl ?_
          refine v_iconst (v := 2) dX8_listSides_55 (by decide) ?_
          refine v_icmp_ne (tgt := 66) dX8_listSides_56 (by decide) (fun c_56 => ?_) (fun c_56 => ?_)
          · refine v_aload_n dX8_listSides_66 rfl 5 rfl ?_
            refine v_getf 8 (ci := 6) (C := RX8) (T := TX8) (N := 14) rfl iwX8_listSides_X8 (Nat.le_of_ble_eq_true rfl) (by decide +kernel) dX8_listSides_67 (by first | with_reducible assumption) rfl ?_
            refine v_astore (L' := [(6, _), (5, _), (4, _), (3, _), (2, _), (1, _), (0, _)]) dX8_listSides_70 (Nat.le_of_ble_eq_true rfl) rfl ?_
            refine v_iconst (v := 0) dX8_listSides_72 (by decide) ?_
            refine v_istore (L' := [(7, _), (6, _), (5, _), (4, _), (3, _), (2, _), (1, _), (0, _)]) dX8_listSides_73 (Nat.le_of_ble_eq_true rfl) rfl ?_
            refine v_sub (L' := [(7, _), (6, _), (5, _), (4, _), (3, _), (2, _), (1, _), (0, _)]) [0, 1, 2, 3, 4, 5, 6, 7] rfl ?_
            have eT : (sideL mp sz X Y fc) (S.getD i ([], 0)) 1 = (slP (fun i9 => decide (mvF (mvW mp (S.getD i ([], 0)).1) (fc (S.getD i ([], 0)).2 i9) = 1)) (fun i9 => ((fun i9 => ((cor mp X Y (S.getD i ([], 0))) i9).2) i9, min ((fun i9 => ((cor mp X Y (S.getD i ([], 0))) i9).1) i9) ((fun i9 => ((cor mp X Y (S.getD i ([], 0))) i9).1) (gm_aft (sz (S.getD i ([], 0)).2) i9)), max ((fun i9 => ((cor mp X Y (S.getD i ([], 0))) i9).1) i9) ((fun i9 => ((cor mp X Y (S.getD i ([], 0))) i9).1) (gm_aft (sz (S.getD i ([], 0)).2) i9)))) (sz (S.getD i ([], 0)).2)) := by
              show slP _ (sideT 1 (cor mp X Y (S.getD i ([], 0))) (sz (S.getD i ([], 0)).2)) _ = slP _ _ _
              congr 1
            have hI : st_ (sideL mp sz X Y fc) S i 1 + (slP (fun i9 => decide (mvF (mvW mp (S.getD i ([], 0)).1) (fc (S.getD i ([], 0)).2 i9) = 1)) (fun i9 => ((fun i9 => ((cor mp X Y (S.getD i ([], 0))) i9).2) i9, min ((fun i9 => ((cor mp X Y (S.getD i ([], 0))) i9).1) i9) ((fun i9 => ((cor mp X Y (S.getD i ([], 0))) i9).1) (gm_aft (sz (S.getD i ([], 0)).2) i9)), max ((fun i9 => ((cor mp X Y (S.getD i ([], 0))) i9).1) i9) ((fun i9 => ((cor mp X Y (S.getD i ([], 0))) i9).1) (gm_aft (sz (S.getD i ([], 0)).2) i9)))) (sz (S.getD i ([], 0)).2)).length ≤ 1600 := by
              rw [← eT]
              exact Nat.le_trans (Nat.le_of_eq (st_s (T := (sideL mp sz X Y fc)) (S := S) (i := i) (f := 1)).symm) (Nat.le_trans (st_le (show 1 + 1 ≤ 4 by decide)) hT)
            refine l_side G Qr _ _ b k nc np pl R hm pa sz ly vo ar X Y fc oc mp S Z h (fun a p => (hfb a (by omega) (by omega) (by omega) (by omega)).trans (hfr a p)) i hi 1 (by decide) (b + 43) (b + 42) (by omega) (fun i9 => ((cor mp X Y (S.getD i ([], 0))) i9).2) (fun i9 => ((cor mp X Y (S.getD i ([], 0))) i9).1) fcy fcx ((hfb _ (by omega) (by omega) (by omega) (by omega)).trans hcy) ((hfb _ (by omega) (by omega) (by omega) (by omega)).trans hcx) (fun k9 h9 => (hcc k9 h9).2) (fun k9 h9 => ⟨(hcc k9 h9).1, (v3 k9 h9).1⟩) (st_ (sideL mp sz X Y fc) S i 1) hI fa fr9 ft (fun h2 fa2 fr2 ft2 b1 b2 b3 b4 b5 b6 => ?_) (sz (S.getD i ([], 0)).2) 0 h fa fr9 ft (by omega) ha1 ha2 ha3 (fun x hx => absurd hx (Nat.not_lt_zero x)) (fun a _ => ⟨rfl, rfl, rfl⟩) (fun _ _ _ _ => rfl)
            rw [← eT] at b4 ⊢
            have w44 : ab_I G h2 (b + 44) 401 fs9 := (b6 _ (by omega) (by omega) (by omega)).trans ha0
            have w35 := (b6 (b + 35) (by omega) (by omega) (by omega)).trans w1
            refine v_aload_n dX8_listSides_171 rfl 4 rfl ?_
            refine v_getf 10 (ci := 6) (C := RX8) (T := TX8) (N := 14) rfl iwX8_listSides_X8 (Nat.le_of_ble_eq_true rfl) (by decide +kernel) dX8_listSides_172 (by first | with_reducible assumption) rfl ?_
            refine v_iload_n dX8_listSides_175 rfl 3 rfl ?_
            refine v_iconst (v := 4) dX8_listSides_176 (by decide) ?_
            refine v_imul dX8_listSides_177 ?_
            refine v_iload dX8_listSides_178 0 rfl ?_
            refine v_iadd dX8_listSides_180 ?_
            rw [sv_4 i 1]
            refine v_iconst (v := 1) dX8_listSides_181 (by decide) ?_
            refine v_iadd dX8_listSides_182 ?_
            rw [nI_1]
            refine v_iload_n dX8_listSides_183 rfl 1 rfl ?_
            refine v_iast dX8_listSides_184 (by first | with_reducible assumption) (vp_in_nI (by omega) (by omega)) ?_
            refine v_iinc (j := 0) (L' := [(4, _), (3, _), (2, _), (1, _), (0, _)]) (v := nI 2) dX8_listSides_185 rfl (by decide) (Nat.le_of_ble_eq_true rfl) rfl ?_
            refine v_goto (tgt := 18) dX8_listSides_188 (by decide) ?_
            refine v_sub (L' := [(4, _), (3, _), (2, _), (1, _), (0, _)]) [0, 1, 2, 3, 4] rfl ?_
            have ecl : (nI (4 * i + 1 + 1)).toNatClampNeg = 4 * i + 1 + 1 := nI_clamp (by omega)
            rw [ecl]
            have ese : st_ (sideL mp sz X Y fc) S i (1 + 1) = st_ (sideL mp sz X Y fc) S i 1 + ((sideL mp sz X Y fc) (S.getD i ([], 0)) 1).length := st_s
            rw [← ese]
            refine hk _ ⟨_, fa2, fr2, ft2, sv_us, (sv_un (by omega)).trans b1, (sv_un (by omega)).trans b2, (sv_un (by omega)).trans b3, fun g hg => ?_, fun a q => (if_neg (by omega)).trans (hso a q), fun g hg => ?_, fun a q => ?_, fun a q1 q2 q3 q4 => (sv_un q1).trans ((b6 a q2 q3 q4).trans (hfb a q1 q2 q3 q4))⟩
            · by_cases e9 : g = 1 + 1
              · rw [e9]; exact if_pos (by omega)
              · exact (if_neg (by omega)).trans (hst g (by omega))
            · by_cases e9 : g = 1
              · rw [e9]; exact b4
              · have h8 := st_le (T := (sideL mp sz X Y fc)) (S := S) (i := i) (show g + 1 ≤ 1 by omega)
                rw [st_s] at h8
                exact (hit g (by omega)).old h8 b5
            · obtain ⟨g1, g2, g3⟩ := hol a q
              have h8 := st_le (T := (sideL mp sz X Y fc)) (S := S) (i := i) (show 0 ≤ 1 by omega)
              have h7 : st_ (sideL mp sz X Y fc) S i 0 = bs (sideL mp sz X Y fc) S i := Nat.add_zero _
              obtain ⟨k1, k2, k3⟩ := b5 a (by omega)
              exact ⟨k1.trans g1, k2.trans g2, k3.trans g3⟩
          · exact absurd c_56 (by decide)
      · exact absurd c_32 (by decide)

set_option maxHeartbeats 4000000 in
set_option maxRecDepth 100000 in
theorem t_face2 (G : sv_G) (Qr : Option Value → sv_h → Nat → Prop) (h1 : sv_h) (z b : Nat) (k : Int32) (nc np pl : Nat) (R : Nat → Bool) (hm pa sz : Nat → Nat) (ly vo ar : Nat → Int32) (X Y : Nat → Nat → Int) (fc : Nat → Nat → Nat) (oc : Nat → Nat → Option Nat) (mp : Nat → mvT) (S : List (List Nat × Nat)) (Z : sg_ G b k nc np pl R hm pa sz ly vo ar X Y fc oc mp h1 S) (hb : sv_h) (hfr : ∀ a, ¬ (b + 40 ≤ a ∧ a < b + 48) → hb a = h1 a) (i : Nat) (hi : i < S.length) (fcx fcy : Nat → Int32) (hcx : ab_I G hb (b + 42) 16 fcx) (hcy : ab_I G hb (b + 43) 16 fcy) (hcc : ∀ m, m < (sz (S.getD i ([], 0)).2) → fcx m = iN ((cor mp X Y (S.getD i ([], 0))) m).1 ∧ fcy m = iN ((cor mp X Y (S.getD i ([], 0))) m).2) (hT : bs (sideL mp sz X Y fc) S i + tt (sideL mp sz X Y fc) (S.getD i ([], 0)) 4 ≤ 1600) (fs0 fa0 fr0 ft0 : Nat → Int32) (hk : ∀ h, sF_ G true b (sideL mp sz X Y fc) S i 3 fs0 fa0 fr0 ft0 hb h → V G mX8_listSides (sv_MQ G mX8_listSides Qr) 18 [(4, .int (nI 3)), (3, .int (nI (st_ (sideL mp sz X Y fc) S i 3))), (2, .ref (pa (S.getD i ([], 0)).2)), (1, .int (nI i)), (0, .ref (b + 35))] [] h z 0 0) (h : sv_h) (H : sF_ G true b (sideL mp sz X Y fc) S i 2 fs0 fa0 fr0 ft0 hb h) : V G mX8_listSides (sv_MQ G mX8_listSides Qr) 18 [(4, .int (nI 2)), (3, .int (nI (st_ (sideL mp sz X Y fc) S i 2))), (2, .ref (pa (S.getD i ([], 0)).2)), (1, .int (nI i)), (0, .ref (b + 35))] [] h z 0 0 := by
  obtain ⟨fs9, fa, fr9, ft, ha0, ha1, ha2, ha3, hst, hso, hit, hol, hfb⟩ := id H
  have fr : ∀ a, ¬ (b + 40 ≤ a ∧ a < b + 48) → h a = h1 a := fun a p => (hfb a (by omega) (by omega) (by omega) (by omega)).trans (hfr a p)
  obtain ⟨z0, z1, ⟨fs, z2, z3⟩, ⟨fb_, z4, z5⟩, ⟨fl, z6, z7⟩, z8, z9, ⟨fq, zA, zB⟩, zC, zD, zE, zF⟩ := id Z
  have w1 := (fr (b + 35) (by omega)).trans z1
  have w2 : ab_I G h (b + 37) 100 fs := (fr (b + 37) (by omega)).trans z2
  have w4 : ab_I G h (b + 38) 100 fb_ := (fr (b + 38) (by omega)).trans z4
  have w6 : ab_Q G h (b + 39) 3 100 fl := (fr (b + 39) (by omega)).trans z6
  have w9 := (fr (b + 1) (by omega)).trans z9
  have wA : ab_Q G h (b + 2) 4 64 fq := (fr (b + 2) (by omega)).trans zA
  obtain ⟨v1, v2, v3⟩ := zE i hi
  obtain ⟨v4, v5⟩ := zC _ v1
  obtain ⟨fx, fy, ff, fo, v6, v7, v8, v9, vA, vB, vC⟩ := zD _ v1 v2
  have u1 := (fr (b + 64 + i) (by omega)).trans (z8 i hi)
  have u2 := (fr (pa (S.getD i ([], 0)).2) (by omega)).trans v4
  have u3 : ab_I G h (pa (S.getD i ([], 0)).2 + 1) 16 fx := (fr _ (by omega)).trans v6
  have u4 : ab_I G h (pa (S.getD i ([], 0)).2 + 2) 16 fy := (fr _ (by omega)).trans v7
  have u5 : ab_I G h (pa (S.getD i ([], 0)).2 + 3) 16 ff := (fr _ (by omega)).trans v8
  have u6 : ab_I G h (pa (S.getD i ([], 0)).2 + 4) 16 fo := (fr _ (by omega)).trans v9
  refine v_iload dX8_listSides_18 0 rfl ?_
  refine v_iconst (v := 4) dX8_listSides_20 (by decide) ?_
  refine v_icmp_ge (tgt := 191) dX8_listSides_21 (by decide) (fun c_21 => ?_) (fun c_21 => ?_)
  · exact absurd c_21 (by decide)
  · refine v_iload dX8_listSides_24 0 rfl ?_
    refine v_if_eq (tgt := 35) dX8_listSides_26 (by decide) (fun c_26 => ?_) (fun c_26 => ?_)
    · exact absurd c_26 (by decide)
    · refine v_iload dX8_listSides_29 0 rfl ?_
      refine v_iconst (v := 2) dX8_listSides_31 (by decide) ?_
      refine v_icmp_ne (tgt := 42) dX8_listSides_32 (by decide) (fun c_32 => ?_) (fun c_32 => ?_)
      · exact absurd rfl c_32
      · refine v_aload_n dX8_listSides_35 rfl 4 rfl ?_
        refine v_getf 8 (ci := 6) (C := RX8) (T := TX8) (N := 14) rfl iwX8_listSides_X8 (Nat.le_of_ble_eq_true rfl) (by decide +kernel) dX8_listSides_36 (by first | with_reducible assumption) rfl ?_
        refine v_goto (tgt := 46) dX8_listSides_39 (by decide) ?_
        refine v_astore (L' := [(5, _), (4, _), (3, _), (2, _), (1, _), (0, _)]) dX8_listSides_46 (Nat.le_of_ble_eq_true rfl) rfl ?_
        refine v_iload dX8_listSides_48 1 rfl ?_
        refine v_if_eq (tgt := 59) dX8_listSides_50 (by decide) (fun c_50 => ?_) (fun c_50 => ?_)
        · exact absurd c_50 (by decide)
        · refine v_iload dX8_listSides_53 1 rfl ?_
          refine v_iconst (v := 2) dX8_listSides_55 (by decide) ?_
          refine v_icmp_ne (tgt := 66) dX8_listSides_56 (by decide) (fun c_56 => ?_) (fun c_56 => ?_)
          · exact absurd rfl c_56
          · refine v_aload_n dX8_listSides_59 rfl 5 rfl ?_
            refine v_getf 9 (ci := 6) (C := RX8) (T := TX8) (N := 14) rfl iwX8_listSides_X8 (Nat.le_of_ble_eq_true rfl) (by decide +kernel) dX8_listSides_60 (by first | with_reducible assumption) rfl ?_
            refine v_goto (tgt := 70) dX8_listSides_63 (by decide) ?_
            refine v_astore (L' := [(6, _), (5, _), (4, _), (3, _), (2, _), (1, _), (0, _)]) dX8_listSides_70 (Nat.le_of_ble_eq_true rfl) rfl ?_
            refine v_iconst (v := 0) dX8_listSides_72 (by decide) ?_
            refine v_istore (L' := [(7, _), (6, _), (5, _), (4, _), (3, _), (2, _), (1, _), (0, _)]) dX8_listSides_73 (Nat.le_of_ble_eq_true rfl) rfl ?_
            refine v_sub (L' := [(7, _), (6, _), (5, _), (4, _), (3, _), (2, _), (1, _), (0, _)]) [0, 1, 2, 3, 4, 5, 6, 7] rfl ?_
            have eT : (sideL mp sz X Y fc) (S.getD i ([], 0)) 2 = (slP (fun i9 => decide (mvF (mvW mp (S.getD i ([], 0)).1) (fc (S.getD i ([], 0)).2 i9) = 2)) (fun i9 => ((fun i9 => ((cor mp X Y (S.getD i ([], 0))) i9).1) i9, min ((fun i9 => ((cor mp X Y (S.getD i ([], 0))) i9).2) i9) ((fun i9 => ((cor mp X Y (S.getD i ([], 0))) i9).2) (gm_aft (sz (S.getD i ([], 0)).2) i9)), max ((fun i9 => ((cor mp X Y (S.getD i ([], 0))) i9).2) i9) ((fun i9 => ((cor mp X Y (S.getD i ([], 0))) i9).2) (gm_aft (sz (S.getD i ([], 0)).2) i9)))) (sz (S.getD i ([], 0)).2)) := by
              show slP _ (sideT 2 (cor mp X Y (S.getD i ([], 0))) (sz (S.getD i ([], 0)).2)) _ = slP _ _ _
              congr 1
            have hI : st_ (sideL mp sz X Y fc) S i 2 + (slP (fun i9 => decide (mvF (mvW mp (S.getD i ([], 0)).1) (fc (S.getD i ([], 0)).2 i9) = 2)) (fun i9 => ((fun i9 => ((cor mp X Y (S.getD i ([], 0))) i9).1) i9, min ((fun i9 => ((cor mp X Y (S.getD i ([], 0))) i9).2) i9) ((fun i9 => ((cor mp X Y (S.getD i ([], 0))) i9).2) (gm_aft (sz (S.getD i ([], 0)).2) i9)), max ((fun i9 => ((cor mp X Y (S.getD i ([], 0))) i9).2) i9) ((fun i9 => ((cor mp X Y (S.getD i ([], 0))) i9).2) (gm_aft (sz (S.getD i ([], 0)).2) i9)))) (sz (S.getD i ([], 0)).2)).length ≤ 1600 := by
              rw [← eT]
              exact Nat.le_trans (Nat.le_of_eq (st_s (T := (sideL mp sz X Y fc)) (S := S) (i := i) (f := 2)).symm) (Nat.le_trans (st_le (show 2 + 1 ≤ 4 by decide)) hT)
            refine l_side G Qr _ _ b k nc np pl R hm pa sz ly vo ar X Y fc oc mp S Z h (fun a p => (hfb a (by omega) (by omega) (by omega) (by omega)).trans (hfr a p)) i hi 2 (by decide) (b + 42) (b + 43) (by omega) (fun i9 => ((cor mp X Y (S.getD i ([], 0))) i9).1) (fun i9 => ((cor mp X Y (S.getD i ([], 0))) i9).2) fcx fcy ((hfb _ (by omega) (by omega) (by omega) (by omega)).trans hcx) ((hfb _ (by omega) (by omega) (by omega) (by omega)).trans hcy) (fun k9 h9 => (hcc k9 h9).1) (fun k9 h9 => ⟨(hcc k9 h9).2, (v3 k9 h9).2⟩) (st_ (sideL mp sz X Y fc) S i 2) hI fa fr9 ft (fun h2 fa2 fr2 ft2 b1 b2 b3 b4 b5 b6 => ?_) (sz (S.getD i ([], 0)).2) 0 h fa fr9 ft (by omega) ha1 ha2 ha3 (fun x hx => absurd hx (Nat.not_lt_zero x)) (fun a _ => ⟨rfl, rfl, rfl⟩) (fun _ _ _ _ => rfl)
            rw [← eT] at b4 ⊢
            have w44 : ab_I G h2 (b + 44) 401 fs9 := (b6 _ (by omega) (by omega) (by omega)).trans ha0
            have w35 := (b6 (b + 35) (by omega) (by omega) (by omega)).trans w1
            refine v_aload_n dX8_listSides_171 rfl 4 rfl ?_
            refine v_getf 10 (ci := 6) (C := RX8) (T := TX8) (N := 14) rfl iwX8_listSides_X8 (Nat.le_of_ble_eq_true rfl) (by decide +kernel) dX8_listSides_172 (by first | with_reducible assumption) rfl ?_
            refine v_iload_n dX8_listSides_175 rfl 3 rfl ?_
            refine v_iconst (v := 4) dX8_listSides_176 (by decide) ?_
            refine v_imul dX8_listSides_177 ?_
            refine v_iload dX8_listSides_178 0 rfl ?_
            refine v_iadd dX8_listSides_180 ?_
            rw [sv_4 i 2]
            refine v_iconst (v := 1) dX8_listSides_181 (by decide) ?_
            refine v_iadd dX8_listSides_182 ?_
            rw [nI_1]
            refine v_iload_n dX8_listSides_183 rfl 1 rfl ?_
            refine v_iast dX8_listSides_184 (by first | with_reducible assumption) (vp_in_nI (by omega) (by omega)) ?_
            refine v_iinc (j := 0) (L' := [(4, _), (3, _), (2, _), (1, _), (0, _)]) (v := nI 3) dX8_listSides_185 rfl (by decide) (Nat.le_of_ble_eq_true rfl) rfl ?_
            refine v_goto (tgt := 18) dX8_listSides_188 (by decide) ?_
            refine v_sub (L' := [(4, _), (3, _), (2, _), (1, _), (0, _)]) [0, 1, 2, 3, 4] rfl ?_
            have ecl : (nI (4 * i + 2 + 1)).toNatClampNeg = 4 * i + 2 + 1 := nI_clamp (by omega)
            rw [ecl]
            have ese : st_ (sideL mp sz X Y fc) S i (2 + 1) = st_ (sideL mp sz X Y fc) S i 2 + ((sideL mp sz X Y fc) (S.getD i ([], 0)) 2).length := st_s
            rw [← ese]
            refine hk _ ⟨_, fa2, fr2, ft2, sv_us, (sv_un (by omega)).trans b1, (sv_un (by omega)).trans b2, (sv_un (by omega)).trans b3, fun g hg => ?_, fun a q => (if_neg (by omega)).trans (hso a q), fun g hg => ?_, fun a q => ?_, fun a q1 q2 q3 q4 => (sv_un q1).trans ((b6 a q2 q3 q4).trans (hfb a q1 q2 q3 q4))⟩
            · by_cases e9 : g = 2 + 1
              · rw [e9]; exact if_pos (by omega)
              · exact (if_neg (by omega)).trans (hst g (by omega))
            · by_cases e9 : g = 2
              · rw [e9]; exact b4
              · have h8 := st_le (T := (sideL mp sz X Y fc)) (S := S) (i := i) (show g + 1 ≤ 2 by omega)
                rw [st_s] at h8
                exact (hit g (by omega)).old h8 b5
            · obtain ⟨g1, g2, g3⟩ := hol a q
              have h8 := st_le (T := (sideL mp sz X Y fc)) (S := S) (i := i) (show 0 ≤ 2 by omega)
              have h7 : st_ (sideL mp sz X Y fc) S i 0 = bs (sideL mp sz X Y fc) S i := Nat.add_zero _
              obtain ⟨k1, k2, k3⟩ := b5 a (by omega)
              exact ⟨k1.trans g1, k2.trans g2, k3.trans g3⟩

set_option maxHeartbeats 4000000 in
set_option maxRecDepth 100000 in
theorem t_face3 (G : sv_G) (Qr : Option Value → sv_h → Nat → Prop) (h1 : sv_h) (z b : Nat) (k : Int32) (nc np pl : Nat) (R : Nat → Bool) (hm pa sz : Nat → Nat) (ly vo ar : Nat → Int32) (X Y : Nat → Nat → Int) (fc : Nat → Nat → Nat) (oc : Nat → Nat → Option Nat) (mp : Nat → mvT) (S : List (List Nat × Nat)) (Z : sg_ G b k nc np pl R hm pa sz ly vo ar X Y fc oc mp h1 S) (hb : sv_h) (hfr : ∀ a, ¬ (b + 40 ≤ a ∧ a < b + 48) → hb a = h1 a) (i : Nat) (hi : i < S.length) (fcx fcy : Nat → Int32) (hcx : ab_I G hb (b + 42) 16 fcx) (hcy : ab_I G hb (b + 43) 16 fcy) (hcc : ∀ m, m < (sz (S.getD i ([], 0)).2) → fcx m = iN ((cor mp X Y (S.getD i ([], 0))) m).1 ∧ fcy m = iN ((cor mp X Y (S.getD i ([], 0))) m).2) (hT : bs (sideL mp sz X Y fc) S i + tt (sideL mp sz X Y fc) (S.getD i ([], 0)) 4 ≤ 1600) (fs0 fa0 fr0 ft0 : Nat → Int32) (hk : ∀ h, sF_ G true b (sideL mp sz X Y fc) S i 4 fs0 fa0 fr0 ft0 hb h → V G mX8_listSides (sv_MQ G mX8_listSides Qr) 18 [(4, .int (nI 4)), (3, .int (nI (st_ (sideL mp sz X Y fc) S i 4))), (2, .ref (pa (S.getD i ([], 0)).2)), (1, .int (nI i)), (0, .ref (b + 35))] [] h z 0 0) (h : sv_h) (H : sF_ G true b (sideL mp sz X Y fc) S i 3 fs0 fa0 fr0 ft0 hb h) : V G mX8_listSides (sv_MQ G mX8_listSides Qr) 18 [(4, .int (nI 3)), (3, .int (nI (st_ (sideL mp sz X Y fc) S i 3))), (2, .ref (pa (S.getD i ([], 0)).2)), (1, .int (nI i)), (0, .ref (b + 35))] [] h z 0 0 := by
  obtain ⟨fs9, fa, fr9, ft, ha0, ha1, ha2, ha3, hst, hso, hit, hol, hfb⟩ := id H
  have fr : ∀ a, ¬ (b + 40 ≤ a ∧ a < b + 48) → h a = h1 a := fun a p => (hfb a (by omega) (by omega) (by omega) (by omega)).trans (hfr a p)
  obtain ⟨z0, z1, ⟨fs, z2, z3⟩, ⟨fb_, z4, z5⟩, ⟨fl, z6, z7⟩, z8, z9, ⟨fq, zA, zB⟩, zC, zD, zE, zF⟩ := id Z
  have w1 := (fr (b + 35) (by omega)).trans z1
  have w2 : ab_I G h (b + 37) 100 fs := (fr (b + 37) (by omega)).trans z2
  have w4 : ab_I G h (b + 38) 100 fb_ := (fr (b + 38) (by omega)).trans z4
  have w6 : ab_Q G h (b + 39) 3 100 fl := (fr (b + 39) (by omega)).trans z6
  have w9 := (fr (b + 1) (by omega)).trans z9
  have wA : ab_Q G h (b + 2) 4 64 fq := (fr (b + 2) (by omega)).trans zA
  obtain ⟨v1, v2, v3⟩ := zE i hi
  obtain ⟨v4, v5⟩ := zC _ v1
  obtain ⟨fx, fy, ff, fo, v6, v7, v8, v9, vA, vB, vC⟩ := zD _ v1 v2
  have u1 := (fr (b + 64 + i) (by omega)).trans (z8 i hi)
  have u2 := (fr (pa (S.getD i ([], 0)).2) (by omega)).trans v4
  have u3 : ab_I G h (pa (S.getD i ([], 0)).2 + 1) 16 fx := (fr _ (by omega)).trans v6
  have u4 : ab_I G h (pa (S.getD i ([], 0)).2 + 2) 16 fy := (fr _ (by omega)).trans v7
  have u5 : ab_I G h (pa (S.getD i ([], 0)).2 + 3) 16 ff := (fr _ (by omega)).trans v8
  have u6 : ab_I G h (pa (S.getD i ([], 0)).2 + 4) 16 fo := (fr _ (by omega)).trans v9
  refine v_iload dX8_listSides_18 0 rfl ?_
  refine v_iconst (v := 4) dX8_listSides_20 (by decide) ?_
  refine v_icmp_ge (tgt := 191) dX8_listSides_21 (by decide) (fun c_21 => ?_) (fun c_21 => ?_)
  · exact absurd c_21 (by decide)
  · refine v_iload dX8_listSides_24 0 rfl ?_
    refine v_if_eq (tgt := 35) dX8_listSides_26 (by decide) (fun c_26 => ?_) (fun c_26 => ?_)
    · exact absurd c_26 (by decide)
    · refine v_iload dX8_listSides_29 0 rfl ?_
      refine v_iconst (v := 2) dX8_listSides_31 (by decide) ?_
      refine v_icmp_ne (tgt := 42) dX8_listSides_32 (by decide) (fun c_32 => ?_) (fun c_32 => ?_)
      · refine v_aload_n dX8_listSides_42 rfl 4 rfl ?_
        refine v_getf 9 (ci := 6) (C := RX8) (T := TX8) (N := 14) rfl iwX8_listSides_X8 (Nat.le_of_ble_eq_true rfl) (by decide +kernel) dX8_listSides_43 (by first | with_reducible assumption) rfl ?_
        refine v_astore (L' := [(5, _), (4, _), (3, _), (2, _), (1, _), (0, _)]) dX8_listSides_46 (Nat.le_of_ble_eq_true rfl) rfl ?_
        refine v_iload dX8_listSides_48 1 rfl ?_
        refine v_if_eq (tgt := 59) dX8_listSides_50 (by decide) (fun c_50 => ?_) (fun c_50 => ?_)
        · exact absurd c_50 (by decide)
        · refine v_iload dX8_listSides_53 1 rfl ?_
          refine v_iconst (v := 2) dX8_listSides_55 (by decide) ?_
          refine v_icmp_ne (tgt := 66) dX8_listSides_56 (by decide) (fun c_56 => ?_) (fun c_56 => ?_)
          · refine v_aload_n dX8_listSides_66 rfl 5 rfl ?_
            refine v_getf 8 (ci := 6) (C := RX8) (T := TX8) (N := 14) rfl iwX8_listSides_X8 (Nat.le_of_ble_eq_true rfl) (by decide +kernel) dX8_listSides_67 (by first | with_reducible assumption) rfl ?_
            refine v_astore (L' := [(6, _), (5, _), (4, _), (3, _), (2, _), (1, _), (0, _)]) dX8_listSides_70 (Nat.le_of_ble_eq_true rfl) rfl ?_
            refine v_iconst (v := 0) dX8_listSides_72 (by decide) ?_
            refine v_istore (L' := [(7, _), (6, _), (5, _), (4, _), (3, _), (2, _), (1, _), (0, _)]) dX8_listSides_73 (Nat.le_of_ble_eq_true rfl) rfl ?_
            refine v_sub (L' := [(7, _), (6, _), (5, _), (4, _), (3, _), (2, _), (1, _), (0, _)]) [0, 1, 2, 3, 4, 5, 6, 7] rfl ?_
            have eT : (sideL mp sz X Y fc) (S.getD i ([], 0)) 3 = (slP (fun i9 => decide (mvF (mvW mp (S.getD i ([], 0)).1) (fc (S.getD i ([], 0)).2 i9) = 3)) (fun i9 => ((fun i9 => ((cor mp X Y (S.getD i ([], 0))) i9).2) i9, min ((fun i9 => ((cor mp X Y (S.getD i ([], 0))) i9).1) i9) ((fun i9 => ((cor mp X Y (S.getD i ([], 0))) i9).1) (gm_aft (sz (S.getD i ([], 0)).2) i9)), max ((fun i9 => ((cor mp X Y (S.getD i ([], 0))) i9).1) i9) ((fun i9 => ((cor mp X Y (S.getD i ([], 0))) i9).1) (gm_aft (sz (S.getD i ([], 0)).2) i9)))) (sz (S.getD i ([], 0)).2)) := by
              show slP _ (sideT 3 (cor mp X Y (S.getD i ([], 0))) (sz (S.getD i ([], 0)).2)) _ = slP _ _ _
              congr 1
            have hI : st_ (sideL mp sz X Y fc) S i 3 + (slP (fun i9 => decide (mvF (mvW mp (S.getD i ([], 0)).1) (fc (S.getD i ([], 0)).2 i9) = 3)) (fun i9 => ((fun i9 => ((cor mp X Y (S.getD i ([], 0))) i9).2) i9, min ((fun i9 => ((cor mp X Y (S.getD i ([], 0))) i9).1) i9) ((fun i9 => ((cor mp X Y (S.getD i ([], 0))) i9).1) (gm_aft (sz (S.getD i ([], 0)).2) i9)), max ((fun i9 => ((cor mp X Y (S.getD i ([], 0))) i9).1) i9) ((fun i9 => ((cor mp X Y (S.getD i ([], 0))) i9).1) (gm_aft (sz (S.getD i ([], 0)).2) i9)))) (sz (S.getD i ([], 0)).2)).length ≤ 1600 := by
              rw [← eT]
              exact Nat.le_trans (Nat.le_of_eq (st_s (T := (sideL mp sz X Y fc)) (S := S) (i := i) (f := 3)).symm) (Nat.le_trans (st_le (show 3 + 1 ≤ 4 by decide)) hT)
            refine l_side G Qr _ _ b k nc np pl R hm pa sz ly vo ar X Y fc oc mp S Z h (fun a p => (hfb a (by omega) (by omega) (by omega) (by omega)).trans (hfr a p)) i hi 3 (by decide) (b + 43) (b + 42) (by omega) (fun i9 => ((cor mp X Y (S.getD i ([], 0))) i9).2) (fun i9 => ((cor mp X Y (S.getD i ([], 0))) i9).1) fcy fcx ((hfb _ (by omega) (by omega) (by omega) (by omega)).trans hcy) ((hfb _ (by omega) (by omega) (by omega) (by omega)).trans hcx) (fun k9 h9 => (hcc k9 h9).2) (fun k9 h9 => ⟨(hcc k9 h9).1, (v3 k9 h9).1⟩) (st_ (sideL mp sz X Y fc) S i 3) hI fa fr9 ft (fun h2 fa2 fr2 ft2 b1 b2 b3 b4 b5 b6 => ?_) (sz (S.getD i ([], 0)).2) 0 h fa fr9 ft (by omega) ha1 ha2 ha3 (fun x hx => absurd hx (Nat.not_lt_zero x)) (fun a _ => ⟨rfl, rfl, rfl⟩) (fun _ _ _ _ => rfl)
            rw [← eT] at b4 ⊢
            have w44 : ab_I G h2 (b + 44) 401 fs9 := (b6 _ (by omega) (by omega) (by omega)).trans ha0
            have w35 := (b6 (b + 35) (by omega) (by omega) (by omega)).trans w1
            refine v_aload_n dX8_listSides_171 rfl 4 rfl ?_
            refine v_getf 10 (ci := 6) (C := RX8) (T := TX8) (N := 14) rfl iwX8_listSides_X8 (Nat.le_of_ble_eq_true rfl) (by decide +kernel) dX8_listSides_172 (by first | with_reducible assumption) rfl ?_
            refine v_iload_n dX8_listSides_175 rfl 3 rfl ?_
            refine v_iconst (v := 4) dX8_listSides_176 (by decide) ?_
            refine v_imul dX8_listSides_177 ?_
            refine v_iload dX8_listSides_178 0 rfl ?_
            refine v_iadd dX8_listSides_180 ?_
            rw [sv_4 i 3]
            refine v_iconst (v := 1) dX8_listSides_181 (by decide) ?_
            refine v_iadd dX8_listSides_182 ?_
            rw [nI_1]
            refine v_iload_n dX8_listSides_183 rfl 1 rfl ?_
            refine v_iast dX8_listSides_184 (by first | with_reducible assumption) (vp_in_nI (by omega) (by omega)) ?_
            refine v_iinc (j := 0) (L' := [(4, _), (3, _), (2, _), (1, _), (0, _)]) (v := nI 4) dX8_listSides_185 rfl (by decide) (Nat.le_of_ble_eq_true rfl) rfl ?_
            refine v_goto (tgt := 18) dX8_listSides_188 (by decide) ?_
            refine v_sub (L' := [(4, _), (3, _), (2, _), (1, _), (0, _)]) [0, 1, 2, 3, 4] rfl ?_
            have ecl : (nI (4 * i + 3 + 1)).toNatClampNeg = 4 * i + 3 + 1 := nI_clamp (by omega)
            rw [ecl]
            have ese : st_ (sideL mp sz X Y fc) S i (3 + 1) = st_ (sideL mp sz X Y fc) S i 3 + ((sideL mp sz X Y fc) (S.getD i ([], 0)) 3).length := st_s
            rw [← ese]
            refine hk _ ⟨_, fa2, fr2, ft2, sv_us, (sv_un (by omega)).trans b1, (sv_un (by omega)).trans b2, (sv_un (by omega)).trans b3, fun g hg => ?_, fun a q => (if_neg (by omega)).trans (hso a q), fun g hg => ?_, fun a q => ?_, fun a q1 q2 q3 q4 => (sv_un q1).trans ((b6 a q2 q3 q4).trans (hfb a q1 q2 q3 q4))⟩
            · by_cases e9 : g = 3 + 1
              · rw [e9]; exact if_pos (by omega)
              · exact (if_neg (by omega)).trans (hst g (by omega))
            · by_cases e9 : g = 3
              · rw [e9]; exact b4
              · have h8 := st_le (T := (sideL mp sz X Y fc)) (S := S) (i := i) (show g + 1 ≤ 3 by omega)
                rw [st_s] at h8
                exact (hit g (by omega)).old h8 b5
            · obtain ⟨g1, g2, g3⟩ := hol a q
              have h8 := st_le (T := (sideL mp sz X Y fc)) (S := S) (i := i) (show 0 ≤ 3 by omega)
              have h7 : st_ (sideL mp sz X Y fc) S i 0 = bs (sideL mp sz X Y fc) S i := Nat.add_zero _
              obtain ⟨k1, k2, k3⟩ := b5 a (by omega)
              exact ⟨k1.trans g1, k2.trans g2, k3.trans g3⟩
          · exact absurd c_56 (by decide)
      · exact absurd c_32 (by decide)

set_option maxHeartbeats 4000000 in
set_option maxRecDepth 100000 in
theorem t_face4 (G : sv_G) (Qr : Option Value → sv_h → Nat → Prop) (h1 : sv_h) (z b : Nat) (k : Int32) (nc np pl : Nat) (R : Nat → Bool) (hm pa sz : Nat → Nat) (ly vo ar : Nat → Int32) (X Y : Nat → Nat → Int) (fc : Nat → Nat → Nat) (oc : Nat → Nat → Option Nat) (mp : Nat → mvT) (S : List (List Nat × Nat)) (Z : sg_ G b k nc np pl R hm pa sz ly vo ar X Y fc oc mp h1 S) (hb : sv_h) (hfr : ∀ a, ¬ (b + 40 ≤ a ∧ a < b + 48) → hb a = h1 a) (i : Nat) (hi : i < S.length) (fcx fcy : Nat → Int32) (hcx : ab_I G hb (b + 42) 16 fcx) (hcy : ab_I G hb (b + 43) 16 fcy) (hcc : ∀ m, m < (sz (S.getD i ([], 0)).2) → fcx m = iN ((cor mp X Y (S.getD i ([], 0))) m).1 ∧ fcy m = iN ((cor mp X Y (S.getD i ([], 0))) m).2) (hT : bs (sideL mp sz X Y fc) S i + tt (sideL mp sz X Y fc) (S.getD i ([], 0)) 4 ≤ 1600) (fs0 fa0 fr0 ft0 : Nat → Int32) (h : sv_h) (H : sF_ G true b (sideL mp sz X Y fc) S i 4 fs0 fa0 fr0 ft0 hb h) (hk : ∀ h, sF_ G true b (sideL mp sz X Y fc) S i 4 fs0 fa0 fr0 ft0 hb h → Qr none h z) : V G mX8_listSides (sv_MQ G mX8_listSides Qr) 18 [(4, .int (nI 4)), (3, .int (nI (st_ (sideL mp sz X Y fc) S i 4))), (2, .ref (pa (S.getD i ([], 0)).2)), (1, .int (nI i)), (0, .ref (b + 35))] [] h z 0 0 := by
  refine v_iload dX8_listSides_18 0 rfl ?_
  refine v_iconst (v := 4) dX8_listSides_20 (by decide) ?_
  refine v_icmp_ge (tgt := 191) dX8_listSides_21 (by decide) (fun c_21 => ?_) (fun c_21 => ?_)
  · exact v_ret rfl dX8_listSides_191 (Nat.le_of_ble_eq_true rfl) (Nat.le_of_ble_eq_true rfl) (hk h H)
  · exact absurd (by decide) c_21

set_option maxHeartbeats 4000000 in
set_option maxRecDepth 100000 in
theorem c_listSides (G : sv_G) (h1 : sv_h) (z b : Nat) (k : Int32) (nc np pl : Nat) (R : Nat → Bool) (hm pa sz : Nat → Nat) (ly vo ar : Nat → Int32) (X Y : Nat → Nat → Int) (fc : Nat → Nat → Nat) (oc : Nat → Nat → Option Nat) (mp : Nat → mvT) (S : List (List Nat × Nat)) (Z : sg_ G b k nc np pl R hm pa sz ly vo ar X Y fc oc mp h1 S) (hb : sv_h) (hfr : ∀ a, ¬ (b + 40 ≤ a ∧ a < b + 48) → hb a = h1 a) (i : Nat) (hi : i < S.length) (fcx fcy : Nat → Int32) (hcx : ab_I G hb (b + 42) 16 fcx) (hcy : ab_I G hb (b + 43) 16 fcy) (hcc : ∀ m, m < (sz (S.getD i ([], 0)).2) → fcx m = iN ((cor mp X Y (S.getD i ([], 0))) m).1 ∧ fcy m = iN ((cor mp X Y (S.getD i ([], 0))) m).2) (hT : bs (sideL mp sz X Y fc) S i + tt (sideL mp sz X Y fc) (S.getD i ([], 0)) 4 ≤ 1600) (fs0 fa0 fr0 ft0 : Nat → Int32) (a44 : ab_I G hb (b + 44) 401 fs0) (a45 : ab_I G hb (b + 45) 1600 fa0) (a46 : ab_I G hb (b + 46) 1600 fr0) (a47 : ab_I G hb (b + 47) 1600 ft0) (hs0 : fs0 (4 * i) = nI (st_ (sideL mp sz X Y fc) S i 0)) : CT G mX8_listSides [.ref (b + 35), .int (nI i)] hb z (fun v h2 z2 => v = none ∧ z2 = z ∧ sF_ G true b (sideL mp sz X Y fc) S i 4 fs0 fa0 fr0 ft0 hb h2) := by
  refine CT.of (by decide +kernel) rfl rfl (Nat.le_of_ble_eq_true rfl) ?_
  obtain ⟨z0, z1, ⟨fs, z2, z3⟩, ⟨fb_, z4, z5⟩, ⟨fl, z6, z7⟩, z8, z9, ⟨fq, zA, zB⟩, zC, zD, zE, zF⟩ := id Z
  have w1 := (hfr (b + 35) (by omega)).trans z1
  have w2 : ab_I G hb (b + 37) 100 fs := (hfr (b + 37) (by omega)).trans z2
  have w4 : ab_I G hb (b + 38) 100 fb_ := (hfr (b + 38) (by omega)).trans z4
  have w6 : ab_Q G hb (b + 39) 3 100 fl := (hfr (b + 39) (by omega)).trans z6
  have w9 := (hfr (b + 1) (by omega)).trans z9
  have wA : ab_Q G hb (b + 2) 4 64 fq := (hfr (b + 2) (by omega)).trans zA
  refine v_aload_n dX8_listSides_0 rfl 0 rfl ?_
  refine v_iload_n dX8_listSides_1 rfl 1 rfl ?_
  refine v_callVq (M' := mX8_polygonOf) (n := 1) (As := [_]) (ci := 6) (r := (RX8, TX8, 14)) gX8_listSides_X8_polygonOf rfl (by decide +kernel) ⟨(Nat.le_of_ble_eq_true rfl), (Nat.le_of_ble_eq_true rfl)⟩ rfl rfl dX8_listSides_2 rfl ⟨(Nat.le_of_ble_eq_true rfl), (Nat.le_of_ble_eq_true rfl)⟩ (Nat.le_of_ble_eq_true rfl) (by first | with_reducible assumption) rfl (c_polygonOf G h1 _ b k nc np pl R hm pa sz ly vo ar X Y fc oc mp S Z hb hfr i hi) (fun v h1 z1 hq => v_pq hq ?_)
  refine v_astore_n (L' := [(2, _), (0, _), (1, _)]) dX8_listSides_5 rfl (Nat.le_of_ble_eq_true rfl) rfl ?_
  refine v_aload_n dX8_listSides_6 rfl 1 rfl ?_
  refine v_getf 10 (ci := 6) (C := RX8) (T := TX8) (N := 14) rfl iwX8_listSides_X8 (Nat.le_of_ble_eq_true rfl) (by decide +kernel) dX8_listSides_7 (by first | with_reducible assumption) rfl ?_
  refine v_iload_n dX8_listSides_10 rfl 2 rfl ?_
  refine v_iconst (v := 4) dX8_listSides_11 (by decide) ?_
  refine v_imul dX8_listSides_12 ?_
  rw [sv_40]
  refine v_ialdS (v := nI (st_ (sideL mp sz X Y fc) S i 0)) dX8_listSides_13 (by first | with_reducible assumption) (vp_in_nI (by omega) (by omega)) (by rw [nI_clamp (by omega)]; exact hs0) ?_
  refine v_istore_n (L' := [(3, _), (2, _), (0, _), (1, _)]) dX8_listSides_14 rfl (Nat.le_of_ble_eq_true rfl) rfl ?_
  refine v_iconst (v := 0) dX8_listSides_15 (by decide) ?_
  refine v_istore (L' := [(4, _), (3, _), (2, _), (0, _), (1, _)]) dX8_listSides_16 (Nat.le_of_ble_eq_true rfl) rfl ?_
  refine v_sub (L' := [(4, _), (3, _), (2, _), (1, _), (0, _)]) [0, 1, 2, 4, 3] rfl ?_
  refine t_face0 G _ _ _ b k nc np pl R hm pa sz ly vo ar X Y fc oc mp S Z hb hfr i hi fcx fcy hcx hcy hcc hT fs0 fa0 fr0 ft0 (fun h2 H2 => t_face1 G _ _ _ b k nc np pl R hm pa sz ly vo ar X Y fc oc mp S Z hb hfr i hi fcx fcy hcx hcy hcc hT fs0 fa0 fr0 ft0 (fun h3 H3 => t_face2 G _ _ _ b k nc np pl R hm pa sz ly vo ar X Y fc oc mp S Z hb hfr i hi fcx fcy hcx hcy hcc hT fs0 fa0 fr0 ft0 (fun h4 H4 => t_face3 G _ _ _ b k nc np pl R hm pa sz ly vo ar X Y fc oc mp S Z hb hfr i hi fcx fcy hcx hcy hcc hT fs0 fa0 fr0 ft0 (fun h5 H5 => t_face4 G _ _ _ b k nc np pl R hm pa sz ly vo ar X Y fc oc mp S Z hb hfr i hi fcx fcy hcx hcy hcc hT fs0 fa0 fr0 ft0 h5 H5 (fun h6 H6 => ⟨rfl, rfl, H6⟩)) h4 H4) h3 H3) h2 H2) hb ?_
  exact ⟨fs0, fa0, fr0, ft0, a44, a45, a46, a47, fun g hg => (by rw [show g = 0 by omega]; exact hs0), fun _ _ => rfl, fun g hg => absurd hg (Nat.not_lt_zero g), fun _ _ => ⟨rfl, rfl, rfl⟩, fun _ _ _ _ _ => rfl⟩

