theorem iwX10_merge_X10 : ∀ w ∈ wsX100, w ∈ wsX10_merge := by decide +kernel
set_option maxRecDepth 20000 in
theorem ggX10_merge_X10_compare : GoodIn wsX10_merge wsX10_compare := goodIn_r _ [7, 2, 8, 9, 10, 11, 6, 12, 13, 14, 15, 16, 17, 18, 19, 20, 21, 22, 23] (by decide +kernel) (by decide +kernel)
set_option maxRecDepth 20000 in
theorem gX10_merge_X10_compare : GoodIn wsX10_merge (wsV RX10 69 RX10 yX10_compare wsX10_compare) := goodIn_app (goodIn_of _ (by decide +kernel)) ggX10_merge_X10_compare
theorem dX10_merge_0 : decode cX10_merge 0 = .ok (.iload_n 1, 1) := by decide +kernel
theorem dX10_merge_1 : decode cX10_merge 1 = .ok (.istore 5, 2) := by decide +kernel
theorem dX10_merge_3 : decode cX10_merge 3 = .ok (.iload_n 2, 1) := by decide +kernel
theorem dX10_merge_4 : decode cX10_merge 4 = .ok (.istore 6, 2) := by decide +kernel
theorem dX10_merge_6 : decode cX10_merge 6 = .ok (.iload_n 1, 1) := by decide +kernel
theorem dX10_merge_7 : decode cX10_merge 7 = .ok (.istore 7, 2) := by decide +kernel
theorem dX10_merge_9 : decode cX10_merge 9 = .ok (.iload 7, 2) := by decide +kernel
theorem dX10_merge_11 : decode cX10_merge 11 = .ok (.iload_n 3, 1) := by decide +kernel
theorem dX10_merge_12 : decode cX10_merge 12 = .ok (.if_icmp .ge 76, 3) := by decide +kernel
theorem dX10_merge_15 : decode cX10_merge 15 = .ok (.iload 6, 2) := by decide +kernel
theorem dX10_merge_17 : decode cX10_merge 17 = .ok (.iload_n 3, 1) := by decide +kernel
theorem dX10_merge_18 : decode cX10_merge 18 = .ok (.if_icmp .ge 22, 3) := by decide +kernel
theorem dX10_merge_21 : decode cX10_merge 21 = .ok (.iload 5, 2) := by decide +kernel
theorem dX10_merge_23 : decode cX10_merge 23 = .ok (.iload_n 2, 1) := by decide +kernel
theorem dX10_merge_24 : decode cX10_merge 24 = .ok (.if_icmp .ge 20, 3) := by decide +kernel
theorem dX10_merge_27 : decode cX10_merge 27 = .ok (.aload_n 0, 1) := by decide +kernel
theorem dX10_merge_28 : decode cX10_merge 28 = .ok (.iload 5, 2) := by decide +kernel
theorem dX10_merge_30 : decode cX10_merge 30 = .ok (.iload 6, 2) := by decide +kernel
theorem dX10_merge_32 : decode cX10_merge 32 = .ok (.iload 4, 2) := by decide +kernel
theorem dX10_merge_34 : decode cX10_merge 34 = .ok (.invokevirtual 69, 3) := by decide +kernel
theorem dX10_merge_37 : decode cX10_merge 37 = .ok (.ifCond .gt 7, 3) := by decide +kernel
theorem dX10_merge_40 : decode cX10_merge 40 = .ok (.iconst 1, 1) := by decide +kernel
theorem dX10_merge_41 : decode cX10_merge 41 = .ok (.goto 4, 3) := by decide +kernel
theorem dX10_merge_44 : decode cX10_merge 44 = .ok (.iconst 0, 1) := by decide +kernel
theorem dX10_merge_45 : decode cX10_merge 45 = .ok (.istore 8, 2) := by decide +kernel
theorem dX10_merge_47 : decode cX10_merge 47 = .ok (.aload_n 0, 1) := by decide +kernel
theorem dX10_merge_48 : decode cX10_merge 48 = .ok (.getfield 17, 3) := by decide +kernel
theorem dX10_merge_51 : decode cX10_merge 51 = .ok (.iload 7, 2) := by decide +kernel
theorem dX10_merge_53 : decode cX10_merge 53 = .ok (.iload 8, 2) := by decide +kernel
theorem dX10_merge_55 : decode cX10_merge 55 = .ok (.ifCond .eq 16, 3) := by decide +kernel
theorem dX10_merge_58 : decode cX10_merge 58 = .ok (.aload_n 0, 1) := by decide +kernel
theorem dX10_merge_59 : decode cX10_merge 59 = .ok (.getfield 13, 3) := by decide +kernel
theorem dX10_merge_62 : decode cX10_merge 62 = .ok (.iload 5, 2) := by decide +kernel
theorem dX10_merge_64 : decode cX10_merge 64 = .ok (.iinc 5 1, 3) := by decide +kernel
theorem dX10_merge_67 : decode cX10_merge 67 = .ok (.iaload, 1) := by decide +kernel
theorem dX10_merge_68 : decode cX10_merge 68 = .ok (.goto 13, 3) := by decide +kernel
theorem dX10_merge_71 : decode cX10_merge 71 = .ok (.aload_n 0, 1) := by decide +kernel
theorem dX10_merge_72 : decode cX10_merge 72 = .ok (.getfield 13, 3) := by decide +kernel
theorem dX10_merge_75 : decode cX10_merge 75 = .ok (.iload 6, 2) := by decide +kernel
theorem dX10_merge_77 : decode cX10_merge 77 = .ok (.iinc 6 1, 3) := by decide +kernel
theorem dX10_merge_80 : decode cX10_merge 80 = .ok (.iaload, 1) := by decide +kernel
theorem dX10_merge_81 : decode cX10_merge 81 = .ok (.iastore, 1) := by decide +kernel
theorem dX10_merge_82 : decode cX10_merge 82 = .ok (.iinc 7 1, 3) := by decide +kernel
theorem dX10_merge_85 : decode cX10_merge 85 = .ok (.goto (-76), 3) := by decide +kernel
theorem dX10_merge_88 : decode cX10_merge 88 = .ok (.return_, 1) := by decide +kernel

abbrev mX10_merge : sv_M := (cX10_merge, 9, yX10_merge, wsX10_merge, none, { frames := 4, cells := 0, slots := 0, locals := 100 }, [])
/-- whether r may stand before s -/
def leR (bc : Bool) (r s : List Int64) : Bool := decide (cmpR bc r s ≤ 0)
/-- the list at t tells L; behind it P is laid by -/
def tM (G : sv_G) (h : sv_h) (t : Nat) (L P : List (List Int64)) : Prop := ∃ (x : Nat) (ro : Nat → Int64) (od st : Nat → Int32) (us ov hm : Int32) (w v : Nat → Nat), L.length ≤ 1500 ∧ ab_told G h t x ro od st us (nI L.length) ov hm ∧ (∀ k, k < L.length → w k < 1500 ∧ od k = nI (w k) ∧ ∀ j, j < 12 → ro (12 * w k + j) = (L.getD k []).getD j 0) ∧ ∀ k, k < P.length → v k < 1500 ∧ st k = nI (v k) ∧ ∀ j, j < 12 → ro (12 * v k + j) = (P.getD k []).getD j 0
theorem tM.toO {G : sv_G} {h : sv_h} {t : Nat} {L P : List (List Int64)} (H : tM G h t L P) : tO G h t L := by
  obtain ⟨x, ro, od, st, us, ov, hm, w, v, d1, T, d2, d3⟩ := H
  exact ⟨x, ro, od, st, us, ov, hm, w, d1, T, d2⟩
theorem tO.toM {G : sv_G} {h : sv_h} {t : Nat} {L : List (List Int64)} (H : tO G h t L) : tM G h t L [] := by
  obtain ⟨x, ro, od, st, us, ov, hm, w, d1, T, d2⟩ := H
  exact ⟨x, ro, od, st, us, ov, hm, w, w, d1, T, d2, fun k hk => absurd hk (Nat.not_lt_zero k)⟩
/-- the object of the list, and what a step does -/
theorem tM.step {G : sv_G} {h : sv_h} {t : Nat} {L P : List (List Int64)} (H : tM G h t L P) (hP : P.length < 1500) : ∃ (x : Nat) (us ov hm : Int32) (od st : Nat → Int32) (w : Nat → Nat), x ≤ 1 ∧ h t = some (.inr (8, [.ref (t + 1), .int us, .ref (t + 2 + x), .ref (t + 3 - x), .int (nI L.length), .int ov, .int hm])) ∧ ab_I G h (t + 2 + x) 1500 od ∧ ab_I G h (t + 3 - x) 1500 st ∧ (∀ k, k < L.length → od k = nI (w k)) ∧ ∀ (k : Nat) (h1 : sv_h), k < L.length → ab_I G h1 (t + 3 - x) 1500 (upd st P.length (nI (w k))) → (∀ a, a ≠ t + 3 - x → h1 a = h a) → tM G h1 t L (P ++ [L.getD k []]) := by
  obtain ⟨x, ro, od, st, us, ov, hm, w, v, d1, ⟨t0, t1, t2, t3, t4⟩, d2, d3⟩ := H
  refine ⟨x, us, ov, hm, od, st, w, t0, t1, t3, t4, fun k hk => (d2 k hk).2.1, fun k h1 hk e1 fr => ⟨x, ro, od, upd st P.length (nI (w k)), us, ov, hm, w, fun j => if j = P.length then w k else v j, d1, ⟨t0, (fr _ (by omega)).trans t1, (fr _ (by omega)).trans t2, (fr _ (by omega)).trans t3, e1⟩, d2, fun k9 hk9 => ?_⟩⟩
  rw [List.length_append, show [L.getD k []].length = 1 from rfl] at hk9
  by_cases e : k9 = P.length
  · subst e
    dsimp only
    rw [if_pos rfl, gd_n]
    exact ⟨(d2 k hk).1, if_pos rfl, (d2 k hk).2.2⟩
  · dsimp only
    rw [if_neg e, gd_l P _ [] (by omega)]
    exact ⟨(d3 k9 (by omega)).1, (if_neg e).trans (d3 k9 (by omega)).2.1, (d3 k9 (by omega)).2.2⟩
theorem ap_get {α : Type} {Q A C : List α} {d : α} {x : Nat} (h : x < A.length) : (Q ++ (A ++ C)).getD (Q.length + x) d = A.getD x d := by
  rw [List.getD_eq_getElem?_getD, List.getD_eq_getElem?_getD, List.getElem?_append_right (by omega), List.getElem?_append_left (by omega)]
  congr 2
  omega
theorem mg_l {le : List Int64 → List Int64 → Bool} {A B : List (List Int64)} {x y : Nat} (hx : x < A.length) (h : y < B.length → le (A.getD x []) (B.getD y []) = true) : List.merge (A.drop x) (B.drop y) le = A.getD x [] :: List.merge (A.drop (x + 1)) (B.drop y) le := by
  rw [dr_c [] hx]
  by_cases hy : y < B.length
  · rw [dr_c [] hy, List.cons_merge_cons, if_pos (h hy)]
  · rw [List.drop_of_length_le (show B.length ≤ y by omega), List.merge_right, List.merge_right]
theorem mg_r {le : List Int64 → List Int64 → Bool} {A B : List (List Int64)} {x y : Nat} (hy : y < B.length) (h : x < A.length → ¬ le (A.getD x []) (B.getD y []) = true) : List.merge (A.drop x) (B.drop y) le = B.getD y [] :: List.merge (A.drop x) (B.drop (y + 1)) le := by
  rw [dr_c [] hy]
  by_cases hx : x < A.length
  · rw [dr_c [] hx, List.cons_merge_cons, if_neg (h hx)]
  · rw [List.drop_of_length_le (show A.length ≤ x by omega), List.nil_merge, List.nil_merge]
set_option maxHeartbeats 4000000 in
set_option maxRecDepth 100000 in
theorem l_mrg (G : sv_G) (Qr : Option Value → sv_h → Nat → Prop) (z t : Nat) (Q A B C : List (List Int64)) (hb : sv_h) (bc : Bool) (P : List (List Int64)) (hPQ : P.length = Q.length) (hk : ∀ h, (∀ a, ¬ (t ≤ a ∧ a < t + 4) → h a = hb a) → tM G h t (Q ++ (A ++ (B ++ C))) (P ++ List.merge A B (leR bc)) → Qr none h z) : ∀ (e x y : Nat) (O : List (List Int64)) (h : sv_h), x ≤ A.length → y ≤ B.length → x + y + e = A.length + B.length → O.length = x + y → O ++ List.merge (A.drop x) (B.drop y) (leR bc) = List.merge A B (leR bc) → (∀ a, ¬ (t ≤ a ∧ a < t + 4) → h a = hb a) → tM G h t (Q ++ (A ++ (B ++ C))) (P ++ O) → V G mX10_merge (sv_MQ G mX10_merge Qr) 9 [(7, .int (nI (Q.length + (x + y)))), (6, .int (nI (Q.length + A.length + y))), (5, .int (nI (Q.length + x))), (4, .int (bcI bc)), (3, .int (nI (Q.length + A.length + B.length))), (2, .int (nI (Q.length + A.length))), (1, .int (nI Q.length)), (0, .ref t)] [] h z 0 0 := by
  intro e
  induction e with
  | zero =>
    intro x y O h hx hy hxy hOl hO fr H
    have HL : (Q ++ (A ++ (B ++ C))).length = Q.length + (A.length + (B.length + C.length)) := by rw [List.length_append, List.length_append, List.length_append]
    have hPl : (P ++ O).length = Q.length + (x + y) := by rw [List.length_append]; omega
    have h15 : (Q ++ (A ++ (B ++ C))).length ≤ 1500 := by obtain ⟨_, _, _, _, _, _, _, _, _, d1, _⟩ := H; exact d1
    refine v_iload dX10_merge_9 0 rfl ?_
    refine v_iload_n dX10_merge_11 rfl 4 rfl ?_
    refine v_icmp_ge (tgt := 88) dX10_merge_12 (by decide) (fun c_12 => ?_) (fun c_12 => ?_)
    · exact v_ret rfl dX10_merge_88 (Nat.le_of_ble_eq_true rfl) (Nat.le_of_ble_eq_true rfl) (hk h fr (by rw [List.drop_of_length_le (show A.length ≤ x by omega), List.drop_of_length_le (show B.length ≤ y by omega), show List.merge ([] : List (List Int64)) [] (leR bc) = [] from List.merge_right _, List.append_nil] at hO; rw [hO] at H; exact H))
    · exact absurd (nI_le (show Q.length + A.length + B.length ≤ Q.length + (x + y) by omega) (by omega)) c_12
  | succ e ih =>
    intro x y O h hx hy hxy hOl hO fr H
    have HL : (Q ++ (A ++ (B ++ C))).length = Q.length + (A.length + (B.length + C.length)) := by rw [List.length_append, List.length_append, List.length_append]
    have hPl : (P ++ O).length = Q.length + (x + y) := by rw [List.length_append]; omega
    have h15 : (Q ++ (A ++ (B ++ C))).length ≤ 1500 := by obtain ⟨_, _, _, _, _, _, _, _, _, d1, _⟩ := H; exact d1
    obtain ⟨sx, sus, sov, shm, sod, sst, sw, u0, u1, u2, u3, u4, u5⟩ := H.step (by omega)
    have rT := H.toO
    have cvL : (nI (Q.length + A.length) ≤ nI (Q.length + x)) ↔ A.length ≤ x := (by rw [Int32.le_iff_toInt_le, nI_toI (by omega), nI_toI (by omega)]; omega)
    have cvR : (nI (Q.length + A.length + B.length) ≤ nI (Q.length + A.length + y)) ↔ B.length ≤ y := (by rw [Int32.le_iff_toInt_le, nI_toI (by omega), nI_toI (by omega)]; omega)
    have gA : x < A.length → (Q ++ (A ++ (B ++ C))).getD (Q.length + x) [] = A.getD x [] := fun hx => ap_get hx
    have gB : y < B.length → (Q ++ (A ++ (B ++ C))).getD (Q.length + A.length + y) [] = B.getD y [] := fun hy => (by
      have := ap_get (Q := Q ++ A) (C := C) (d := []) hy
      rw [List.length_append, List.append_assoc] at this
      exact this)
    refine v_iload dX10_merge_9 0 rfl ?_
    refine v_iload_n dX10_merge_11 rfl 4 rfl ?_
    refine v_icmp_ge (tgt := 88) dX10_merge_12 (by decide) (fun c_12 => ?_) (fun c_12 => ?_)
    · exact absurd c_12 (nI_ge (show Q.length + (x + y) < Q.length + A.length + B.length by omega) (by omega))
    · refine v_iload dX10_merge_15 1 rfl ?_
      refine v_iload_n dX10_merge_17 rfl 4 rfl ?_
      refine v_icmp_ge (tgt := 40) dX10_merge_18 (by decide) (fun c_18 => ?_) (fun c_18 => ?_)
      · refine v_iconst (v := 1) dX10_merge_40 (by decide) ?_
        refine v_goto (tgt := 45) dX10_merge_41 (by decide) ?_
        refine v_istore (L' := [(8, _), (7, _), (6, _), (5, _), (4, _), (3, _), (2, _), (1, _), (0, _)]) dX10_merge_45 (Nat.le_of_ble_eq_true rfl) rfl ?_
        refine v_aload_n dX10_merge_47 rfl 8 rfl ?_
        refine v_getf 3 (ci := 8) (C := RX10) (T := TX10) (N := 7) rfl iwX10_merge_X10 (Nat.le_of_ble_eq_true rfl) (by decide +kernel) dX10_merge_48 (by first | with_reducible assumption) rfl ?_
        refine v_iload dX10_merge_51 1 rfl ?_
        refine v_iload dX10_merge_53 0 rfl ?_
        refine v_if_eq (tgt := 71) dX10_merge_55 (by decide) (fun c_55 => ?_) (fun c_55 => ?_)
        · have hR : y < B.length ∧ (x < A.length → ¬ leR bc (A.getD x []) (B.getD y []) = true) := (by
            first
              | (have c9 := cvL.mp c_24
                 have q2 := mt cvR.mpr c_18
                 exact ⟨Nat.lt_of_not_le q2, fun hx => absurd hx (Nat.not_lt.mpr c9)⟩)
              | (have c8 := Int32.not_le.mpr c_37
                 have q1 := mt cvL.mpr c_24
                 have q2 := mt cvR.mpr c_18
                 rw [gA (Nat.lt_of_not_le q1), gB (Nat.lt_of_not_le q2)] at c8
                 exact ⟨Nat.lt_of_not_le q2, fun _ r9 => c8 (of_decide_eq_true r9)⟩)
              | exact absurd c_55 (by decide))
          refine v_aload_n dX10_merge_71 rfl 8 rfl ?_
          refine v_getf 2 (ci := 8) (C := RX10) (T := TX10) (N := 7) rfl iwX10_merge_X10 (Nat.le_of_ble_eq_true rfl) (by decide +kernel) dX10_merge_72 (by first | with_reducible assumption) rfl ?_
          refine v_iload dX10_merge_75 2 rfl ?_
          refine v_iinc (j := 2) (L' := [(6, _), (8, _), (7, _), (5, _), (4, _), (3, _), (2, _), (1, _), (0, _)]) (v := nI (Q.length + A.length + (y + 1))) dX10_merge_77 rfl (nI_1 _) (Nat.le_of_ble_eq_true rfl) rfl ?_
          refine v_ialdS (v := nI (sw (Q.length + A.length + y))) dX10_merge_80 (by first | with_reducible assumption) (vp_in_nI (by have := hR.1; omega) (by omega)) (by rw [nI_clamp (by omega)]; exact u4 _ (by have := hR.1; omega)) ?_
          refine v_iast dX10_merge_81 (by first | with_reducible assumption) (vp_in_nI (by omega) (by omega)) ?_
          refine v_iinc (j := 2) (L' := [(7, _), (6, _), (8, _), (5, _), (4, _), (3, _), (2, _), (1, _), (0, _)]) (v := nI (Q.length + (x + y + 1))) dX10_merge_82 rfl (nI_1 _) (Nat.le_of_ble_eq_true rfl) rfl ?_
          refine v_goto (tgt := 9) dX10_merge_85 (by decide) ?_
          refine v_sub (L' := [(7, _), (6, _), (5, _), (4, _), (3, _), (2, _), (1, _), (0, _)]) [0, 1, 3, 4, 5, 6, 7, 8] rfl ?_
          rw [nI_clamp (show Q.length + (x + y) < 2 ^ 31 by omega)]
          first
            | (have c9 := hL
               have s9 := u5 (Q.length + x) (va_up h (t + 3 - sx) (some (.inl (G.2.2.1 0, 1500, .inl (upd sst (Q.length + (x + y)) (nI (sw (Q.length + x)))))))) (by omega) (by rw [hPl]; exact sv_us) (fun a p => sv_un p)
               rw [gA c9.1, List.append_assoc] at s9
               rw [show Q.length + (x + y + 1) = Q.length + (x + 1 + y) by omega]
               exact ih (x + 1) y (O ++ [A.getD x []]) _ (by omega) hy (by omega) (by rw [List.length_append, hOl]; show x + y + 1 = _; omega) (by rw [← hO, mg_l c9.1 c9.2, List.append_assoc]; rfl) (fun a p => (sv_un (by omega)).trans (fr a p)) s9)
            | (have c9 := hR
               have s9 := u5 (Q.length + A.length + y) (va_up h (t + 3 - sx) (some (.inl (G.2.2.1 0, 1500, .inl (upd sst (Q.length + (x + y)) (nI (sw (Q.length + A.length + y)))))))) (by omega) (by rw [hPl]; exact sv_us) (fun a p => sv_un p)
               rw [gB c9.1, List.append_assoc] at s9
               rw [show Q.length + (x + y + 1) = Q.length + (x + (y + 1)) by omega]
               exact ih x (y + 1) (O ++ [B.getD y []]) _ hx (by omega) (by omega) (by rw [List.length_append, hOl]; show x + y + 1 = _; omega) (by rw [← hO, mg_r c9.1 c9.2, List.append_assoc]; rfl) (fun a p => (sv_un (by omega)).trans (fr a p)) s9)
        · have hL : x < A.length ∧ (y < B.length → leR bc (A.getD x []) (B.getD y []) = true) := (by
            first
              | (have c9 := c_37
                 have c8 := Int32.not_lt.mp c9
                 have q1 := mt cvL.mpr c_24
                 have q2 := mt cvR.mpr c_18
                 rw [gA (Nat.lt_of_not_le q1), gB (Nat.lt_of_not_le q2)] at c8
                 exact ⟨Nat.lt_of_not_le q1, fun _ => decide_eq_true c8⟩)
              | (have c9 := cvR.mp c_18
                 exact ⟨by omega, fun hy => absurd hy (Nat.not_lt.mpr c9)⟩)
              | exact absurd rfl c_55)
          refine v_aload_n dX10_merge_58 rfl 8 rfl ?_
          refine v_getf 2 (ci := 8) (C := RX10) (T := TX10) (N := 7) rfl iwX10_merge_X10 (Nat.le_of_ble_eq_true rfl) (by decide +kernel) dX10_merge_59 (by first | with_reducible assumption) rfl ?_
          refine v_iload dX10_merge_62 3 rfl ?_
          refine v_iinc (j := 3) (L' := [(5, _), (8, _), (7, _), (6, _), (4, _), (3, _), (2, _), (1, _), (0, _)]) (v := nI (Q.length + (x + 1))) dX10_merge_64 rfl (nI_1 _) (Nat.le_of_ble_eq_true rfl) rfl ?_
          refine v_ialdS (v := nI (sw (Q.length + x))) dX10_merge_67 (by first | with_reducible assumption) (vp_in_nI (by have := hL.1; omega) (by omega)) (by rw [nI_clamp (by omega)]; exact u4 _ (by have := hL.1; omega)) ?_
          refine v_goto (tgt := 81) dX10_merge_68 (by decide) ?_
          refine v_iast dX10_merge_81 (by first | with_reducible assumption) (vp_in_nI (by omega) (by omega)) ?_
          refine v_iinc (j := 2) (L' := [(7, _), (5, _), (8, _), (6, _), (4, _), (3, _), (2, _), (1, _), (0, _)]) (v := nI (Q.length + (x + y + 1))) dX10_merge_82 rfl (nI_1 _) (Nat.le_of_ble_eq_true rfl) rfl ?_
          refine v_goto (tgt := 9) dX10_merge_85 (by decide) ?_
          refine v_sub (L' := [(7, _), (6, _), (5, _), (4, _), (3, _), (2, _), (1, _), (0, _)]) [0, 3, 1, 4, 5, 6, 7, 8] rfl ?_
          rw [nI_clamp (show Q.length + (x + y) < 2 ^ 31 by omega)]
          first
            | (have c9 := hL
               have s9 := u5 (Q.length + x) (va_up h (t + 3 - sx) (some (.inl (G.2.2.1 0, 1500, .inl (upd sst (Q.length + (x + y)) (nI (sw (Q.length + x)))))))) (by omega) (by rw [hPl]; exact sv_us) (fun a p => sv_un p)
               rw [gA c9.1, List.append_assoc] at s9
               rw [show Q.length + (x + y + 1) = Q.length + (x + 1 + y) by omega]
               exact ih (x + 1) y (O ++ [A.getD x []]) _ (by omega) hy (by omega) (by rw [List.length_append, hOl]; show x + y + 1 = _; omega) (by rw [← hO, mg_l c9.1 c9.2, List.append_assoc]; rfl) (fun a p => (sv_un (by omega)).trans (fr a p)) s9)
            | (have c9 := hR
               have s9 := u5 (Q.length + A.length + y) (va_up h (t + 3 - sx) (some (.inl (G.2.2.1 0, 1500, .inl (upd sst (Q.length + (x + y)) (nI (sw (Q.length + A.length + y)))))))) (by omega) (by rw [hPl]; exact sv_us) (fun a p => sv_un p)
               rw [gB c9.1, List.append_assoc] at s9
               rw [show Q.length + (x + y + 1) = Q.length + (x + (y + 1)) by omega]
               exact ih x (y + 1) (O ++ [B.getD y []]) _ hx (by omega) (by omega) (by rw [List.length_append, hOl]; show x + y + 1 = _; omega) (by rw [← hO, mg_r c9.1 c9.2, List.append_assoc]; rfl) (fun a p => (sv_un (by omega)).trans (fr a p)) s9)
      · refine v_iload dX10_merge_21 2 rfl ?_
        refine v_iload_n dX10_merge_23 rfl 5 rfl ?_
        refine v_icmp_ge (tgt := 44) dX10_merge_24 (by decide) (fun c_24 => ?_) (fun c_24 => ?_)
        · refine v_iconst (v := 0) dX10_merge_44 (by decide) ?_
          refine v_istore (L' := [(8, _), (7, _), (6, _), (5, _), (4, _), (3, _), (2, _), (1, _), (0, _)]) dX10_merge_45 (Nat.le_of_ble_eq_true rfl) rfl ?_
          refine v_aload_n dX10_merge_47 rfl 8 rfl ?_
          refine v_getf 3 (ci := 8) (C := RX10) (T := TX10) (N := 7) rfl iwX10_merge_X10 (Nat.le_of_ble_eq_true rfl) (by decide +kernel) dX10_merge_48 (by first | with_reducible assumption) rfl ?_
          refine v_iload dX10_merge_51 1 rfl ?_
          refine v_iload dX10_merge_53 0 rfl ?_
          refine v_if_eq (tgt := 71) dX10_merge_55 (by decide) (fun c_55 => ?_) (fun c_55 => ?_)
          · have hR : y < B.length ∧ (x < A.length → ¬ leR bc (A.getD x []) (B.getD y []) = true) := (by
              first
                | (have c9 := cvL.mp c_24
                   have q2 := mt cvR.mpr c_18
                   exact ⟨Nat.lt_of_not_le q2, fun hx => absurd hx (Nat.not_lt.mpr c9)⟩)
                | (have c8 := Int32.not_le.mpr c_37
                   have q1 := mt cvL.mpr c_24
                   have q2 := mt cvR.mpr c_18
                   rw [gA (Nat.lt_of_not_le q1), gB (Nat.lt_of_not_le q2)] at c8
                   exact ⟨Nat.lt_of_not_le q2, fun _ r9 => c8 (of_decide_eq_true r9)⟩)
                | exact absurd c_55 (by decide))
            refine v_aload_n dX10_merge_71 rfl 8 rfl ?_
            refine v_getf 2 (ci := 8) (C := RX10) (T := TX10) (N := 7) rfl iwX10_merge_X10 (Nat.le_of_ble_eq_true rfl) (by decide +kernel) dX10_merge_72 (by first | with_reducible assumption) rfl ?_
            refine v_iload dX10_merge_75 2 rfl ?_
            refine v_iinc (j := 2) (L' := [(6, _), (8, _), (7, _), (5, _), (4, _), (3, _), (2, _), (1, _), (0, _)]) (v := nI (Q.length + A.length + (y + 1))) dX10_merge_77 rfl (nI_1 _) (Nat.le_of_ble_eq_true rfl) rfl ?_
            refine v_ialdS (v := nI (sw (Q.length + A.length + y))) dX10_merge_80 (by first | with_reducible assumption) (vp_in_nI (by have := hR.1; omega) (by omega)) (by rw [nI_clamp (by omega)]; exact u4 _ (by have := hR.1; omega)) ?_
            refine v_iast dX10_merge_81 (by first | with_reducible assumption) (vp_in_nI (by omega) (by omega)) ?_
            refine v_iinc (j := 2) (L' := [(7, _), (6, _), (8, _), (5, _), (4, _), (3, _), (2, _), (1, _), (0, _)]) (v := nI (Q.length + (x + y + 1))) dX10_merge_82 rfl (nI_1 _) (Nat.le_of_ble_eq_true rfl) rfl ?_
            refine v_goto (tgt := 9) dX10_merge_85 (by decide) ?_
            refine v_sub (L' := [(7, _), (6, _), (5, _), (4, _), (3, _), (2, _), (1, _), (0, _)]) [0, 1, 3, 4, 5, 6, 7, 8] rfl ?_
            rw [nI_clamp (show Q.length + (x + y) < 2 ^ 31 by omega)]
            first
              | (have c9 := hL
                 have s9 := u5 (Q.length + x) (va_up h (t + 3 - sx) (some (.inl (G.2.2.1 0, 1500, .inl (upd sst (Q.length + (x + y)) (nI (sw (Q.length + x)))))))) (by omega) (by rw [hPl]; exact sv_us) (fun a p => sv_un p)
                 rw [gA c9.1, List.append_assoc] at s9
                 rw [show Q.length + (x + y + 1) = Q.length + (x + 1 + y) by omega]
                 exact ih (x + 1) y (O ++ [A.getD x []]) _ (by omega) hy (by omega) (by rw [List.length_append, hOl]; show x + y + 1 = _; omega) (by rw [← hO, mg_l c9.1 c9.2, List.append_assoc]; rfl) (fun a p => (sv_un (by omega)).trans (fr a p)) s9)
              | (have c9 := hR
                 have s9 := u5 (Q.length + A.length + y) (va_up h (t + 3 - sx) (some (.inl (G.2.2.1 0, 1500, .inl (upd sst (Q.length + (x + y)) (nI (sw (Q.length + A.length + y)))))))) (by omega) (by rw [hPl]; exact sv_us) (fun a p => sv_un p)
                 rw [gB c9.1, List.append_assoc] at s9
                 rw [show Q.length + (x + y + 1) = Q.length + (x + (y + 1)) by omega]
                 exact ih x (y + 1) (O ++ [B.getD y []]) _ hx (by omega) (by omega) (by rw [List.length_append, hOl]; show x + y + 1 = _; omega) (by rw [← hO, mg_r c9.1 c9.2, List.append_assoc]; rfl) (fun a p => (sv_un (by omega)).trans (fr a p)) s9)
          · have hL : x < A.length ∧ (y < B.length → leR bc (A.getD x []) (B.getD y []) = true) := (by
              first
                | (have c9 := c_37
                   have c8 := Int32.not_lt.mp c9
                   have q1 := mt cvL.mpr c_24
                   have q2 := mt cvR.mpr c_18
                   rw [gA (Nat.lt_of_not_le q1), gB (Nat.lt_of_not_le q2)] at c8
                   exact ⟨Nat.lt_of_not_le q1, fun _ => decide_eq_true c8⟩)
                | (have c9 := cvR.mp c_18
                   exact ⟨by omega, fun hy => absurd hy (Nat.not_lt.mpr c9)⟩)
                | exact absurd rfl c_55)
            refine v_aload_n dX10_merge_58 rfl 8 rfl ?_
            refine v_getf 2 (ci := 8) (C := RX10) (T := TX10) (N := 7) rfl iwX10_merge_X10 (Nat.le_of_ble_eq_true rfl) (by decide +kernel) dX10_merge_59 (by first | with_reducible assumption) rfl ?_
            refine v_iload dX10_merge_62 3 rfl ?_
            refine v_iinc (j := 3) (L' := [(5, _), (8, _), (7, _), (6, _), (4, _), (3, _), (2, _), (1, _), (0, _)]) (v := nI (Q.length + (x + 1))) dX10_merge_64 rfl (nI_1 _) (Nat.le_of_ble_eq_true rfl) rfl ?_
            refine v_ialdS (v := nI (sw (Q.length + x))) dX10_merge_67 (by first | with_reducible assumption) (vp_in_nI (by have := hL.1; omega) (by omega)) (by rw [nI_clamp (by omega)]; exact u4 _ (by have := hL.1; omega)) ?_
            refine v_goto (tgt := 81) dX10_merge_68 (by decide) ?_
            refine v_iast dX10_merge_81 (by first | with_reducible assumption) (vp_in_nI (by omega) (by omega)) ?_
            refine v_iinc (j := 2) (L' := [(7, _), (5, _), (8, _), (6, _), (4, _), (3, _), (2, _), (1, _), (0, _)]) (v := nI (Q.length + (x + y + 1))) dX10_merge_82 rfl (nI_1 _) (Nat.le_of_ble_eq_true rfl) rfl ?_
            refine v_goto (tgt := 9) dX10_merge_85 (by decide) ?_
            refine v_sub (L' := [(7, _), (6, _), (5, _), (4, _), (3, _), (2, _), (1, _), (0, _)]) [0, 3, 1, 4, 5, 6, 7, 8] rfl ?_
            rw [nI_clamp (show Q.length + (x + y) < 2 ^ 31 by omega)]
            first
              | (have c9 := hL
                 have s9 := u5 (Q.length + x) (va_up h (t + 3 - sx) (some (.inl (G.2.2.1 0, 1500, .inl (upd sst (Q.length + (x + y)) (nI (sw (Q.length + x)))))))) (by omega) (by rw [hPl]; exact sv_us) (fun a p => sv_un p)
                 rw [gA c9.1, List.append_assoc] at s9
                 rw [show Q.length + (x + y + 1) = Q.length + (x + 1 + y) by omega]
                 exact ih (x + 1) y (O ++ [A.getD x []]) _ (by omega) hy (by omega) (by rw [List.length_append, hOl]; show x + y + 1 = _; omega) (by rw [← hO, mg_l c9.1 c9.2, List.append_assoc]; rfl) (fun a p => (sv_un (by omega)).trans (fr a p)) s9)
              | (have c9 := hR
                 have s9 := u5 (Q.length + A.length + y) (va_up h (t + 3 - sx) (some (.inl (G.2.2.1 0, 1500, .inl (upd sst (Q.length + (x + y)) (nI (sw (Q.length + A.length + y)))))))) (by omega) (by rw [hPl]; exact sv_us) (fun a p => sv_un p)
                 rw [gB c9.1, List.append_assoc] at s9
                 rw [show Q.length + (x + y + 1) = Q.length + (x + (y + 1)) by omega]
                 exact ih x (y + 1) (O ++ [B.getD y []]) _ hx (by omega) (by omega) (by rw [List.length_append, hOl]; show x + y + 1 = _; omega) (by rw [← hO, mg_r c9.1 c9.2, List.append_assoc]; rfl) (fun a p => (sv_un (by omega)).trans (fr a p)) s9)
        · refine v_aload_n dX10_merge_27 rfl 7 rfl ?_
          refine v_iload dX10_merge_28 2 rfl ?_
          refine v_iload dX10_merge_30 1 rfl ?_
          refine v_iload dX10_merge_32 3 rfl ?_
          refine v_callVq (M' := mX10_compare) (n := 3) (As := [_, _, _]) (ci := 8) (r := (RX10, TX10, 7)) gX10_merge_X10_compare rfl (by decide +kernel) ⟨(Nat.le_of_ble_eq_true rfl), (Nat.le_of_ble_eq_true rfl)⟩ rfl rfl dX10_merge_34 rfl ⟨(Nat.le_of_ble_eq_true rfl), (Nat.le_of_ble_eq_true rfl)⟩ (Nat.le_of_ble_eq_true rfl) (by first | with_reducible assumption) rfl (c_compare G h _ t _ rT (Q.length + x) (Q.length + A.length + y) (by have := mt cvL.mpr c_24; omega) (by have := mt cvR.mpr c_18; omega) bc) (fun v9 h9 y9 hq => v_pq hq ?_)
          refine v_if_gt (tgt := 44) dX10_merge_37 (by decide) (fun c_37 => ?_) (fun c_37 => ?_)
          · refine v_iconst (v := 0) dX10_merge_44 (by decide) ?_
            refine v_istore (L' := [(8, _), (7, _), (6, _), (5, _), (4, _), (3, _), (2, _), (1, _), (0, _)]) dX10_merge_45 (Nat.le_of_ble_eq_true rfl) rfl ?_
            refine v_aload_n dX10_merge_47 rfl 8 rfl ?_
            refine v_getf 3 (ci := 8) (C := RX10) (T := TX10) (N := 7) rfl iwX10_merge_X10 (Nat.le_of_ble_eq_true rfl) (by decide +kernel) dX10_merge_48 (by first | with_reducible assumption) rfl ?_
            refine v_iload dX10_merge_51 1 rfl ?_
            refine v_iload dX10_merge_53 0 rfl ?_
            refine v_if_eq (tgt := 71) dX10_merge_55 (by decide) (fun c_55 => ?_) (fun c_55 => ?_)
            · have hR : y < B.length ∧ (x < A.length → ¬ leR bc (A.getD x []) (B.getD y []) = true) := (by
                first
                  | (have c9 := cvL.mp c_24
                     have q2 := mt cvR.mpr c_18
                     exact ⟨Nat.lt_of_not_le q2, fun hx => absurd hx (Nat.not_lt.mpr c9)⟩)
                  | (have c8 := Int32.not_le.mpr c_37
                     have q1 := mt cvL.mpr c_24
                     have q2 := mt cvR.mpr c_18
                     rw [gA (Nat.lt_of_not_le q1), gB (Nat.lt_of_not_le q2)] at c8
                     exact ⟨Nat.lt_of_not_le q2, fun _ r9 => c8 (of_decide_eq_true r9)⟩)
                  | exact absurd c_55 (by decide))
              refine v_aload_n dX10_merge_71 rfl 8 rfl ?_
              refine v_getf 2 (ci := 8) (C := RX10) (T := TX10) (N := 7) rfl iwX10_merge_X10 (Nat.le_of_ble_eq_true rfl) (by decide +kernel) dX10_merge_72 (by first | with_reducible assumption) rfl ?_
              refine v_iload dX10_merge_75 2 rfl ?_
              refine v_iinc (j := 2) (L' := [(6, _), (8, _), (7, _), (5, _), (4, _), (3, _), (2, _), (1, _), (0, _)]) (v := nI (Q.length + A.length + (y + 1))) dX10_merge_77 rfl (nI_1 _) (Nat.le_of_ble_eq_true rfl) rfl ?_
              refine v_ialdS (v := nI (sw (Q.length + A.length + y))) dX10_merge_80 (by first | with_reducible assumption) (vp_in_nI (by have := hR.1; omega) (by omega)) (by rw [nI_clamp (by omega)]; exact u4 _ (by have := hR.1; omega)) ?_
              refine v_iast dX10_merge_81 (by first | with_reducible assumption) (vp_in_nI (by omega) (by omega)) ?_
              refine v_iinc (j := 2) (L' := [(7, _), (6, _), (8, _), (5, _), (4, _), (3, _), (2, _), (1, _), (0, _)]) (v := nI (Q.length + (x + y + 1))) dX10_merge_82 rfl (nI_1 _) (Nat.le_of_ble_eq_true rfl) rfl ?_
              refine v_goto (tgt := 9) dX10_merge_85 (by decide) ?_
              refine v_sub (L' := [(7, _), (6, _), (5, _), (4, _), (3, _), (2, _), (1, _), (0, _)]) [0, 1, 3, 4, 5, 6, 7, 8] rfl ?_
              rw [nI_clamp (show Q.length + (x + y) < 2 ^ 31 by omega)]
              first
                | (have c9 := hL
                   have s9 := u5 (Q.length + x) (va_up h (t + 3 - sx) (some (.inl (G.2.2.1 0, 1500, .inl (upd sst (Q.length + (x + y)) (nI (sw (Q.length + x)))))))) (by omega) (by rw [hPl]; exact sv_us) (fun a p => sv_un p)
                   rw [gA c9.1, List.append_assoc] at s9
                   rw [show Q.length + (x + y + 1) = Q.length + (x + 1 + y) by omega]
                   exact ih (x + 1) y (O ++ [A.getD x []]) _ (by omega) hy (by omega) (by rw [List.length_append, hOl]; show x + y + 1 = _; omega) (by rw [← hO, mg_l c9.1 c9.2, List.append_assoc]; rfl) (fun a p => (sv_un (by omega)).trans (fr a p)) s9)
                | (have c9 := hR
                   have s9 := u5 (Q.length + A.length + y) (va_up h (t + 3 - sx) (some (.inl (G.2.2.1 0, 1500, .inl (upd sst (Q.length + (x + y)) (nI (sw (Q.length + A.length + y)))))))) (by omega) (by rw [hPl]; exact sv_us) (fun a p => sv_un p)
                   rw [gB c9.1, List.append_assoc] at s9
                   rw [show Q.length + (x + y + 1) = Q.length + (x + (y + 1)) by omega]
                   exact ih x (y + 1) (O ++ [B.getD y []]) _ hx (by omega) (by omega) (by rw [List.length_append, hOl]; show x + y + 1 = _; omega) (by rw [← hO, mg_r c9.1 c9.2, List.append_assoc]; rfl) (fun a p => (sv_un (by omega)).trans (fr a p)) s9)
            · have hL : x < A.length ∧ (y < B.length → leR bc (A.getD x []) (B.getD y []) = true) := (by
                first
                  | (have c9 := c_37
                     have c8 := Int32.not_lt.mp c9
                     have q1 := mt cvL.mpr c_24
                     have q2 := mt cvR.mpr c_18
                     rw [gA (Nat.lt_of_not_le q1), gB (Nat.lt_of_not_le q2)] at c8
                     exact ⟨Nat.lt_of_not_le q1, fun _ => decide_eq_true c8⟩)
                  | (have c9 := cvR.mp c_18
                     exact ⟨by omega, fun hy => absurd hy (Nat.not_lt.mpr c9)⟩)
                  | exact absurd rfl c_55)
              refine v_aload_n dX10_merge_58 rfl 8 rfl ?_
              refine v_getf 2 (ci := 8) (C := RX10) (T := TX10) (N := 7) rfl iwX10_merge_X10 (Nat.le_of_ble_eq_true rfl) (by decide +kernel) dX10_merge_59 (by first | with_reducible assumption) rfl ?_
              refine v_iload dX10_merge_62 3 rfl ?_
              refine v_iinc (j := 3) (L' := [(5, _), (8, _), (7, _), (6, _), (4, _), (3, _), (2, _), (1, _), (0, _)]) (v := nI (Q.length + (x + 1))) dX10_merge_64 rfl (nI_1 _) (Nat.le_of_ble_eq_true rfl) rfl ?_
              refine v_ialdS (v := nI (sw (Q.length + x))) dX10_merge_67 (by first | with_reducible assumption) (vp_in_nI (by have := hL.1; omega) (by omega)) (by rw [nI_clamp (by omega)]; exact u4 _ (by have := hL.1; omega)) ?_
              refine v_goto (tgt := 81) dX10_merge_68 (by decide) ?_
              refine v_iast dX10_merge_81 (by first | with_reducible assumption) (vp_in_nI (by omega) (by omega)) ?_
              refine v_iinc (j := 2) (L' := [(7, _), (5, _), (8, _), (6, _), (4, _), (3, _), (2, _), (1, _), (0, _)]) (v := nI (Q.length + (x + y + 1))) dX10_merge_82 rfl (nI_1 _) (Nat.le_of_ble_eq_true rfl) rfl ?_
              refine v_goto (tgt := 9) dX10_merge_85 (by decide) ?_
              refine v_sub (L' := [(7, _), (6, _), (5, _), (4, _), (3, _), (2, _), (1, _), (0, _)]) [0, 3, 1, 4, 5, 6, 7, 8] rfl ?_
              rw [nI_clamp (show Q.length + (x + y) < 2 ^ 31 by omega)]
              first
                | (have c9 := hL
                   have s9 := u5 (Q.length + x) (va_up h (t + 3 - sx) (some (.inl (G.2.2.1 0, 1500, .inl (upd sst (Q.length + (x + y)) (nI (sw (Q.length + x)))))))) (by omega) (by rw [hPl]; exact sv_us) (fun a p => sv_un p)
                   rw [gA c9.1, List.append_assoc] at s9
                   rw [show Q.length + (x + y + 1) = Q.length + (x + 1 + y) by omega]
                   exact ih (x + 1) y (O ++ [A.getD x []]) _ (by omega) hy (by omega) (by rw [List.length_append, hOl]; show x + y + 1 = _; omega) (by rw [← hO, mg_l c9.1 c9.2, List.append_assoc]; rfl) (fun a p => (sv_un (by omega)).trans (fr a p)) s9)
                | (have c9 := hR
                   have s9 := u5 (Q.length + A.length + y) (va_up h (t + 3 - sx) (some (.inl (G.2.2.1 0, 1500, .inl (upd sst (Q.length + (x + y)) (nI (sw (Q.length + A.length + y)))))))) (by omega) (by rw [hPl]; exact sv_us) (fun a p => sv_un p)
                   rw [gB c9.1, List.append_assoc] at s9
                   rw [show Q.length + (x + y + 1) = Q.length + (x + (y + 1)) by omega]
                   exact ih x (y + 1) (O ++ [B.getD y []]) _ hx (by omega) (by omega) (by rw [List.length_append, hOl]; show x + y + 1 = _; omega) (by rw [← hO, mg_r c9.1 c9.2, List.append_assoc]; rfl) (fun a p => (sv_un (by omega)).trans (fr a p)) s9)
          · refine v_iconst (v := 1) dX10_merge_40 (by decide) ?_
            refine v_goto (tgt := 45) dX10_merge_41 (by decide) ?_
            refine v_istore (L' := [(8, _), (7, _), (6, _), (5, _), (4, _), (3, _), (2, _), (1, _), (0, _)]) dX10_merge_45 (Nat.le_of_ble_eq_true rfl) rfl ?_
            refine v_aload_n dX10_merge_47 rfl 8 rfl ?_
            refine v_getf 3 (ci := 8) (C := RX10) (T := TX10) (N := 7) rfl iwX10_merge_X10 (Nat.le_of_ble_eq_true rfl) (by decide +kernel) dX10_merge_48 (by first | with_reducible assumption) rfl ?_
            refine v_iload dX10_merge_51 1 rfl ?_
            refine v_iload dX10_merge_53 0 rfl ?_
            refine v_if_eq (tgt := 71) dX10_merge_55 (by decide) (fun c_55 => ?_) (fun c_55 => ?_)
            · have hR : y < B.length ∧ (x < A.length → ¬ leR bc (A.getD x []) (B.getD y []) = true) := (by
                first
                  | (have c9 := cvL.mp c_24
                     have q2 := mt cvR.mpr c_18
                     exact ⟨Nat.lt_of_not_le q2, fun hx => absurd hx (Nat.not_lt.mpr c9)⟩)
                  | (have c8 := Int32.not_le.mpr c_37
                     have q1 := mt cvL.mpr c_24
                     have q2 := mt cvR.mpr c_18
                     rw [gA (Nat.lt_of_not_le q1), gB (Nat.lt_of_not_le q2)] at c8
                     exact ⟨Nat.lt_of_not_le q2, fun _ r9 => c8 (of_decide_eq_true r9)⟩)
                  | exact absurd c_55 (by decide))
              refine v_aload_n dX10_merge_71 rfl 8 rfl ?_
              refine v_getf 2 (ci := 8) (C := RX10) (T := TX10) (N := 7) rfl iwX10_merge_X10 (Nat.le_of_ble_eq_true rfl) (by decide +kernel) dX10_merge_72 (by first | with_reducible assumption) rfl ?_
              refine v_iload dX10_merge_75 2 rfl ?_
              refine v_iinc (j := 2) (L' := [(6, _), (8, _), (7, _), (5, _), (4, _), (3, _), (2, _), (1, _), (0, _)]) (v := nI (Q.length + A.length + (y + 1))) dX10_merge_77 rfl (nI_1 _) (Nat.le_of_ble_eq_true rfl) rfl ?_
              refine v_ialdS (v := nI (sw (Q.length + A.length + y))) dX10_merge_80 (by first | with_reducible assumption) (vp_in_nI (by have := hR.1; omega) (by omega)) (by rw [nI_clamp (by omega)]; exact u4 _ (by have := hR.1; omega)) ?_
              refine v_iast dX10_merge_81 (by first | with_reducible assumption) (vp_in_nI (by omega) (by omega)) ?_
              refine v_iinc (j := 2) (L' := [(7, _), (6, _), (8, _), (5, _), (4, _), (3, _), (2, _), (1, _), (0, _)]) (v := nI (Q.length + (x + y + 1))) dX10_merge_82 rfl (nI_1 _) (Nat.le_of_ble_eq_true rfl) rfl ?_
              refine v_goto (tgt := 9) dX10_merge_85 (by decide) ?_
              refine v_sub (L' := [(7, _), (6, _), (5, _), (4, _), (3, _), (2, _), (1, _), (0, _)]) [0, 1, 3, 4, 5, 6, 7, 8] rfl ?_
              rw [nI_clamp (show Q.length + (x + y) < 2 ^ 31 by omega)]
              first
                | (have c9 := hL
                   have s9 := u5 (Q.length + x) (va_up h (t + 3 - sx) (some (.inl (G.2.2.1 0, 1500, .inl (upd sst (Q.length + (x + y)) (nI (sw (Q.length + x)))))))) (by omega) (by rw [hPl]; exact sv_us) (fun a p => sv_un p)
                   rw [gA c9.1, List.append_assoc] at s9
                   rw [show Q.length + (x + y + 1) = Q.length + (x + 1 + y) by omega]
                   exact ih (x + 1) y (O ++ [A.getD x []]) _ (by omega) hy (by omega) (by rw [List.length_append, hOl]; show x + y + 1 = _; omega) (by rw [← hO, mg_l c9.1 c9.2, List.append_assoc]; rfl) (fun a p => (sv_un (by omega)).trans (fr a p)) s9)
                | (have c9 := hR
                   have s9 := u5 (Q.length + A.length + y) (va_up h (t + 3 - sx) (some (.inl (G.2.2.1 0, 1500, .inl (upd sst (Q.length + (x + y)) (nI (sw (Q.length + A.length + y)))))))) (by omega) (by rw [hPl]; exact sv_us) (fun a p => sv_un p)
                   rw [gB c9.1, List.append_assoc] at s9
                   rw [show Q.length + (x + y + 1) = Q.length + (x + (y + 1)) by omega]
                   exact ih x (y + 1) (O ++ [B.getD y []]) _ hx (by omega) (by omega) (by rw [List.length_append, hOl]; show x + y + 1 = _; omega) (by rw [← hO, mg_r c9.1 c9.2, List.append_assoc]; rfl) (fun a p => (sv_un (by omega)).trans (fr a p)) s9)
            · have hL : x < A.length ∧ (y < B.length → leR bc (A.getD x []) (B.getD y []) = true) := (by
                first
                  | (have c9 := c_37
                     have c8 := Int32.not_lt.mp c9
                     have q1 := mt cvL.mpr c_24
                     have q2 := mt cvR.mpr c_18
                     rw [gA (Nat.lt_of_not_le q1), gB (Nat.lt_of_not_le q2)] at c8
                     exact ⟨Nat.lt_of_not_le q1, fun _ => decide_eq_true c8⟩)
                  | (have c9 := cvR.mp c_18
                     exact ⟨by omega, fun hy => absurd hy (Nat.not_lt.mpr c9)⟩)
                  | exact absurd rfl c_55)
              refine v_aload_n dX10_merge_58 rfl 8 rfl ?_
              refine v_getf 2 (ci := 8) (C := RX10) (T := TX10) (N := 7) rfl iwX10_merge_X10 (Nat.le_of_ble_eq_true rfl) (by decide +kernel) dX10_merge_59 (by first | with_reducible assumption) rfl ?_
              refine v_iload dX10_merge_62 3 rfl ?_
              refine v_iinc (j := 3) (L' := [(5, _), (8, _), (7, _), (6, _), (4, _), (3, _), (2, _), (1, _), (0, _)]) (v := nI (Q.length + (x + 1))) dX10_merge_64 rfl (nI_1 _) (Nat.le_of_ble_eq_true rfl) rfl ?_
              refine v_ialdS (v := nI (sw (Q.length + x))) dX10_merge_67 (by first | with_reducible assumption) (vp_in_nI (by have := hL.1; omega) (by omega)) (by rw [nI_clamp (by omega)]; exact u4 _ (by have := hL.1; omega)) ?_
              refine v_goto (tgt := 81) dX10_merge_68 (by decide) ?_
              refine v_iast dX10_merge_81 (by first | with_reducible assumption) (vp_in_nI (by omega) (by omega)) ?_
              refine v_iinc (j := 2) (L' := [(7, _), (5, _), (8, _), (6, _), (4, _), (3, _), (2, _), (1, _), (0, _)]) (v := nI (Q.length + (x + y + 1))) dX10_merge_82 rfl (nI_1 _) (Nat.le_of_ble_eq_true rfl) rfl ?_
              refine v_goto (tgt := 9) dX10_merge_85 (by decide) ?_
              refine v_sub (L' := [(7, _), (6, _), (5, _), (4, _), (3, _), (2, _), (1, _), (0, _)]) [0, 3, 1, 4, 5, 6, 7, 8] rfl ?_
              rw [nI_clamp (show Q.length + (x + y) < 2 ^ 31 by omega)]
              first
                | (have c9 := hL
                   have s9 := u5 (Q.length + x) (va_up h (t + 3 - sx) (some (.inl (G.2.2.1 0, 1500, .inl (upd sst (Q.length + (x + y)) (nI (sw (Q.length + x)))))))) (by omega) (by rw [hPl]; exact sv_us) (fun a p => sv_un p)
                   rw [gA c9.1, List.append_assoc] at s9
                   rw [show Q.length + (x + y + 1) = Q.length + (x + 1 + y) by omega]
                   exact ih (x + 1) y (O ++ [A.getD x []]) _ (by omega) hy (by omega) (by rw [List.length_append, hOl]; show x + y + 1 = _; omega) (by rw [← hO, mg_l c9.1 c9.2, List.append_assoc]; rfl) (fun a p => (sv_un (by omega)).trans (fr a p)) s9)
                | (have c9 := hR
                   have s9 := u5 (Q.length + A.length + y) (va_up h (t + 3 - sx) (some (.inl (G.2.2.1 0, 1500, .inl (upd sst (Q.length + (x + y)) (nI (sw (Q.length + A.length + y)))))))) (by omega) (by rw [hPl]; exact sv_us) (fun a p => sv_un p)
                   rw [gB c9.1, List.append_assoc] at s9
                   rw [show Q.length + (x + y + 1) = Q.length + (x + (y + 1)) by omega]
                   exact ih x (y + 1) (O ++ [B.getD y []]) _ hx (by omega) (by omega) (by rw [List.length_append, hOl]; show x + y + 1 = _; omega) (by rw [← hO, mg_r c9.1 c9.2, List.append_assoc]; rfl) (fun a p => (sv_un (by omega)).trans (fr a p)) s9)

set_option maxHeartbeats 4000000 in
set_option maxRecDepth 100000 in
theorem c_merge (G : sv_G) (h : sv_h) (z t : Nat) (Q A B C : List (List Int64)) (bc : Bool) (P : List (List Int64)) (hPQ : P.length = Q.length) (H : tM G h t (Q ++ (A ++ (B ++ C))) P) : CT G mX10_merge [.ref t, .int (nI Q.length), .int (nI (Q.length + A.length)), .int (nI (Q.length + A.length + B.length)), .int (bcI bc)] h z (fun v h1 z1 => v = none ∧ z1 = z ∧ tM G h1 t (Q ++ (A ++ (B ++ C))) (P ++ List.merge A B (leR bc)) ∧ ∀ a, ¬ (t ≤ a ∧ a < t + 4) → h1 a = h a) := by
  refine CT.of (by decide +kernel) rfl rfl (Nat.le_of_ble_eq_true rfl) ?_
  refine v_iload_n dX10_merge_0 rfl 1 rfl ?_
  refine v_istore (L' := [(5, _), (0, _), (1, _), (2, _), (3, _), (4, _)]) dX10_merge_1 (Nat.le_of_ble_eq_true rfl) rfl ?_
  refine v_iload_n dX10_merge_3 rfl 3 rfl ?_
  refine v_istore (L' := [(6, _), (5, _), (0, _), (1, _), (2, _), (3, _), (4, _)]) dX10_merge_4 (Nat.le_of_ble_eq_true rfl) rfl ?_
  refine v_iload_n dX10_merge_6 rfl 3 rfl ?_
  refine v_istore (L' := [(7, _), (6, _), (5, _), (0, _), (1, _), (2, _), (3, _), (4, _)]) dX10_merge_7 (Nat.le_of_ble_eq_true rfl) rfl ?_
  refine v_sub (L' := [(7, _), (6, _), (5, _), (4, _), (3, _), (2, _), (1, _), (0, _)]) [0, 1, 2, 7, 6, 5, 4, 3] rfl ?_
  exact l_mrg G _ _ t Q A B C h bc P hPQ (fun h2 f2 H2 => ⟨rfl, rfl, H2, f2⟩) (A.length + B.length) 0 0 [] h (Nat.zero_le _) (Nat.zero_le _) (Nat.zero_add _) rfl rfl (fun _ _ => rfl) (by rw [List.append_nil]; exact H)

