theorem tM.obj {G : sv_G} {h : sv_h} {t : Nat} {L P : List (List Int64)} (H : tM G h t L P) : L.length ≤ 1500 ∧ ∃ (x : Nat) (us ov hm : Int32), x ≤ 1 ∧ h t = some (.inr (8, [.ref (t + 1), .int us, .ref (t + 2 + x), .ref (t + 3 - x), .int (nI L.length), .int ov, .int hm])) ∧ ∀ h1 : sv_h, P.length = L.length → h1 t = some (.inr (8, [.ref (t + 1), .int us, .ref (t + 3 - x), .ref (t + 2 + x), .int (nI L.length), .int ov, .int hm])) → (∀ a, a ≠ t → h1 a = h a) → tO G h1 t P := by
  obtain ⟨x, ro, od, st, us, ov, hm, w, v, d1, ⟨t0, t1, t2, t3, t4⟩, d2, d3⟩ := H
  refine ⟨d1, x, us, ov, hm, t0, t1, fun h1 hP e1 fr => ⟨1 - x, ro, st, od, us, ov, hm, v, by omega, ⟨by omega, ?_, (fr _ (by omega)).trans t2, ?_, ?_⟩, d3⟩⟩
  · rw [e1, hP, show t + 2 + (1 - x) = t + 3 - x by omega, show t + 3 - (1 - x) = t + 2 + x by omega]
  · have := (fr (t + 3 - x) (by omega)).trans t4
    rw [show t + 2 + (1 - x) = t + 3 - x by omega]
    exact this
  · have := (fr (t + 2 + x) (by omega)).trans t3
    rw [show t + 3 - (1 - x) = t + 2 + x by omega]
    exact this
theorem rnW_1 {w : Nat} (hw : 0 < w) : ∀ {R : List (List (List Int64))}, rnW w R → R.flatten.length ≤ w → R = [] ∨ ∃ a, R = [a] := by
  intro R h hl
  match R, h, hl with
  | [], _, _ => exact Or.inl rfl
  | [a], _, _ => exact Or.inr ⟨a, rfl⟩
  | a :: b :: r, h, hl =>
    have h1 : a.length = w := h.1
    have key : ∀ (r : List (List (List Int64))) (b : List (List Int64)), rnW w (b :: r) → 0 < b.length := by
      intro r b q
      match r, q with
      | [], q => exact q.1
      | c :: r, q => have e : b.length = w := q.1; omega
    have h2 := key r b h.2
    have e : (a :: b :: r).flatten.length = a.length + (b.length + r.flatten.length) := by
      show (a ++ (b ++ r.flatten)).length = _
      rw [List.length_append, List.length_append]
    omega
theorem rn_one (le : List Int64 → List Int64 → Bool) (L : List (List Int64)) : rnW 1 (L.map (fun r => [r])) ∧ rnS le (L.map (fun r => [r])) ∧ (L.map (fun r => [r])).flatten = L := by
  refine ⟨?_, ?_, ?_⟩
  · induction L with
    | nil => trivial
    | cons a L ih =>
      cases L with
      | nil => exact ⟨Nat.one_pos, Nat.le_refl 1⟩
      | cons b L => exact ⟨rfl, ih⟩
  · intro a ha
    obtain ⟨r, _, rfl⟩ := List.mem_map.mp ha
    exact List.pairwise_singleton _ _
  · induction L with
    | nil => rfl
    | cons a L ih => show a :: (L.map (fun r => [r])).flatten = _; rw [ih]
set_option maxHeartbeats 4000000 in
set_option maxRecDepth 100000 in
theorem l_srI (G : sv_G) (Qr : Option Value → sv_h → Nat → Prop) (z t w : Nat) (hw : 0 < w) (hw2 : w ≤ 1500) (bc : Bool) (hb : sv_h) : ∀ (n : Nat) (R : List (List (List Int64))) (Q P : List (List Int64)) (fm : Nat) (h : sv_h), R.length ≤ n → rnW w R → P.length = Q.length → ((R = [] ∧ (Q ++ R.flatten).length ≤ fm ∧ fm ≤ 6000) ∨ (R ≠ [] ∧ fm = Q.length)) → (∀ a, ¬ (t ≤ a ∧ a < t + 4) → h a = hb a) → tM G h t (Q ++ R.flatten) P → (∀ h, (∀ a, ¬ (t ≤ a ∧ a < t + 4) → h a = hb a) → tM G h t (Q ++ R.flatten) (P ++ (mgP (leR bc) R).flatten) → V G mX10_sort (sv_MQ G mX10_sort Qr) 60 [(2, .int (nI w)), (1, .int (bcI bc)), (0, .ref t)] [] h z 0 0) → V G mX10_sort (sv_MQ G mX10_sort Qr) 12 [(3, .int (nI fm)), (2, .int (nI w)), (1, .int (bcI bc)), (0, .ref t)] [] h z 0 0 := by
  intro n
  induction n using Nat.strongRecOn with
  | ind n ih =>
    intro R Q P fm h hR hW hPQ hfm fr H hk
    obtain ⟨hl, ox, ous, oov, ohm, ox1, oh, _⟩ := H.obj
    match R, hR, hW, hfm, H, hk, hl, oh with
    | [], hR, hW, hfm, H, hk, hl, oh =>
      have hfm : (Q ++ ([] : List (List (List Int64))).flatten).length ≤ fm ∧ fm ≤ 6000 := hfm.elim (fun q => q.2) (fun q => absurd rfl q.1)
      obtain ⟨hfm, hfm2⟩ := hfm
      refine v_iload_n dX10_sort_12 rfl 0 rfl ?_
      refine v_aload_n dX10_sort_13 rfl 3 rfl ?_
      refine v_getf 4 (ci := 8) (C := RX10) (T := TX10) (N := 7) rfl iwX10_sort_X10 (Nat.le_of_ble_eq_true rfl) (by decide +kernel) dX10_sort_14 (by first | with_reducible assumption) rfl ?_
      refine v_icmp_ge (tgt := 60) dX10_sort_17 (by decide) (fun c_17 => ?_) (fun c_17 => ?_)
      · refine v_sub (L' := [(2, _), (1, _), (0, _)]) [1, 2, 3] rfl ?_
        exact hk h fr (by show tM G h t _ (P ++ []); rw [List.append_nil P]; exact H)
      · exact absurd (nI_le hfm (by omega)) c_17
    | [a], hR, hW, hfm, H, hk, hl, oh =>
      have hfm : fm = Q.length := hfm.elim (fun q => absurd q.1 (by simp)) (fun q => q.2)
      subst hfm
      have hW : 0 < a.length ∧ a.length ≤ w := hW
      have hLl : (Q ++ [a].flatten).length = Q.length + a.length := by rw [List.length_append, show [a].flatten = a from List.append_nil a]
      have hRn : 1 ≤ n := hR
      have hct := c_merge G h z t Q a [] [] bc P hPQ (by rw [List.append_nil]; exact H)
      refine v_iload_n dX10_sort_12 rfl 0 rfl ?_
      refine v_aload_n dX10_sort_13 rfl 3 rfl ?_
      refine v_getf 4 (ci := 8) (C := RX10) (T := TX10) (N := 7) rfl iwX10_sort_X10 (Nat.le_of_ble_eq_true rfl) (by decide +kernel) dX10_sort_14 (by first | with_reducible assumption) rfl ?_
      refine v_icmp_ge (tgt := 60) dX10_sort_17 (by decide) (fun c_17 => ?_) (fun c_17 => ?_)
      · exact absurd c_17 (nI_ge (show Q.length < (Q ++ [a].flatten).length by omega) (by omega))
      · refine v_iload_n dX10_sort_20 rfl 0 rfl ?_
        refine v_iload_n dX10_sort_21 rfl 1 rfl ?_
        refine v_iadd dX10_sort_22 ?_
        rw [nI_add]
        refine v_aload_n dX10_sort_23 rfl 3 rfl ?_
        refine v_getf 4 (ci := 8) (C := RX10) (T := TX10) (N := 7) rfl iwX10_sort_X10 (Nat.le_of_ble_eq_true rfl) (by decide +kernel) dX10_sort_24 (by first | with_reducible assumption) rfl ?_
        refine v_mmin (by decide +kernel) (by decide +kernel) (by decide +kernel) (by decide +kernel) dX10_sort_27 (Nat.le_of_ble_eq_true rfl) (Nat.le_of_ble_eq_true rfl) (Nat.le_of_ble_eq_true rfl) (Nat.le_of_ble_eq_true rfl) ?_
        rw [gm_minN (by omega) (by omega), show min (Q.length + w) (Q ++ [a].flatten).length = Q.length + a.length from by omega]
        refine v_istore (L' := [(4, _), (3, _), (2, _), (1, _), (0, _)]) dX10_sort_30 (Nat.le_of_ble_eq_true rfl) rfl ?_
        refine v_aload_n dX10_sort_32 rfl 4 rfl ?_
        refine v_iload_n dX10_sort_33 rfl 1 rfl ?_
        refine v_iload dX10_sort_34 0 rfl ?_
        refine v_iload dX10_sort_36 0 rfl ?_
        refine v_iload_n dX10_sort_38 rfl 2 rfl ?_
        refine v_iadd dX10_sort_39 ?_
        rw [nI_add]
        refine v_aload_n dX10_sort_40 rfl 4 rfl ?_
        refine v_getf 4 (ci := 8) (C := RX10) (T := TX10) (N := 7) rfl iwX10_sort_X10 (Nat.le_of_ble_eq_true rfl) (by decide +kernel) dX10_sort_41 (by first | with_reducible assumption) rfl ?_
        refine v_mmin (by decide +kernel) (by decide +kernel) (by decide +kernel) (by decide +kernel) dX10_sort_44 (Nat.le_of_ble_eq_true rfl) (Nat.le_of_ble_eq_true rfl) (Nat.le_of_ble_eq_true rfl) (Nat.le_of_ble_eq_true rfl) ?_
        rw [gm_minN (by omega) (by omega), show min (Q.length + a.length + w) (Q ++ [a].flatten).length = Q.length + a.length + ([] : List (List Int64)).length from by rw [List.length_nil]; omega]
        refine v_iload_n dX10_sort_47 rfl 3 rfl ?_
        refine v_callVq (M' := mX10_merge) (n := 4) (As := [_, _, _, _]) (ci := 8) (r := (RX10, TX10, 7)) gX10_sort_X10_merge rfl (by decide +kernel) ⟨(Nat.le_of_ble_eq_true rfl), (Nat.le_of_ble_eq_true rfl)⟩ rfl rfl dX10_sort_48 rfl ⟨(Nat.le_of_ble_eq_true rfl), (Nat.le_of_ble_eq_true rfl)⟩ (Nat.le_of_ble_eq_true rfl) (by first | with_reducible assumption) rfl (hct) (fun v h1 z1 hq9 => ?_)
        obtain ⟨rfl, rfl, H1, fr1⟩ := hq9
        refine v_iload_n dX10_sort_51 rfl 1 rfl ?_
        refine v_iconst (v := 2) dX10_sort_52 (by decide) ?_
        refine v_iload_n dX10_sort_53 rfl 2 rfl ?_
        refine v_imul dX10_sort_54 ?_
        rw [show (2 : Int32) = nI 2 from rfl, sv_nm2]
        refine v_iadd dX10_sort_55 ?_
        rw [nI_add]
        refine v_istore_n (L' := [(3, _), (4, _), (2, _), (1, _), (0, _)]) dX10_sort_56 rfl (Nat.le_of_ble_eq_true rfl) rfl ?_
        refine v_goto (tgt := 12) dX10_sort_57 (by decide) ?_
        refine v_sub (L' := [(3, _), (2, _), (1, _), (0, _)]) [0, 2, 3, 4] rfl ?_
        refine ih _ (by show 0 < _; omega) [] (Q ++ (a ++ [])) (P ++ List.merge a [] (leR bc)) _ _ (Nat.le_refl _) trivial (by rw [List.length_append, List.length_append, List.length_append, List.length_merge, hPQ]) (Or.inl ⟨rfl, by rw [List.flatten_nil, List.append_nil, List.append_nil, List.length_append]; omega, by omega⟩) (fun a9 p9 => (fr1 a9 p9).trans (fr a9 p9)) ?_ ?_
        · rw [List.flatten_nil, List.append_nil]
          rw [List.append_nil] at H1
          exact H1
        · intro h9 f9 H9
          refine hk h9 f9 ?_
          simp only [mgP, List.flatten_nil, List.append_nil, List.merge_right, List.flatten_cons] at H9 ⊢
          exact H9
    | a :: b :: r, hR, hW, hfm, H, hk, hl, oh =>
      have hfm : fm = Q.length := hfm.elim (fun q => absurd q.1 (by simp)) (fun q => q.2)
      subst hfm
      have hWa : a.length = w := hW.1
      have hWb : (r.flatten.length = 0 ∧ b.length ≤ w) ∨ b.length = w := (by
        cases r with
        | nil => exact Or.inl ⟨rfl, hW.2.2⟩
        | cons c r => exact Or.inr hW.2.1)
      have hLl : (Q ++ (a :: b :: r).flatten).length = Q.length + (a.length + (b.length + r.flatten.length)) := by
        show (Q ++ (a ++ (b ++ r.flatten))).length = _
        rw [List.length_append, List.length_append, List.length_append]
      have hct := c_merge G h z t Q a b r.flatten bc P hPQ H
      refine v_iload_n dX10_sort_12 rfl 0 rfl ?_
      refine v_aload_n dX10_sort_13 rfl 3 rfl ?_
      refine v_getf 4 (ci := 8) (C := RX10) (T := TX10) (N := 7) rfl iwX10_sort_X10 (Nat.le_of_ble_eq_true rfl) (by decide +kernel) dX10_sort_14 (by first | with_reducible assumption) rfl ?_
      refine v_icmp_ge (tgt := 60) dX10_sort_17 (by decide) (fun c_17 => ?_) (fun c_17 => ?_)
      · exact absurd c_17 (nI_ge (show Q.length < (Q ++ (a :: b :: r).flatten).length by omega) (by omega))
      · refine v_iload_n dX10_sort_20 rfl 0 rfl ?_
        refine v_iload_n dX10_sort_21 rfl 1 rfl ?_
        refine v_iadd dX10_sort_22 ?_
        rw [nI_add]
        refine v_aload_n dX10_sort_23 rfl 3 rfl ?_
        refine v_getf 4 (ci := 8) (C := RX10) (T := TX10) (N := 7) rfl iwX10_sort_X10 (Nat.le_of_ble_eq_true rfl) (by decide +kernel) dX10_sort_24 (by first | with_reducible assumption) rfl ?_
        refine v_mmin (by decide +kernel) (by decide +kernel) (by decide +kernel) (by decide +kernel) dX10_sort_27 (Nat.le_of_ble_eq_true rfl) (Nat.le_of_ble_eq_true rfl) (Nat.le_of_ble_eq_true rfl) (Nat.le_of_ble_eq_true rfl) ?_
        rw [gm_minN (by omega) (by omega), show min (Q.length + w) (Q ++ (a :: b :: r).flatten).length = Q.length + a.length from by omega]
        refine v_istore (L' := [(4, _), (3, _), (2, _), (1, _), (0, _)]) dX10_sort_30 (Nat.le_of_ble_eq_true rfl) rfl ?_
        refine v_aload_n dX10_sort_32 rfl 4 rfl ?_
        refine v_iload_n dX10_sort_33 rfl 1 rfl ?_
        refine v_iload dX10_sort_34 0 rfl ?_
        refine v_iload dX10_sort_36 0 rfl ?_
        refine v_iload_n dX10_sort_38 rfl 2 rfl ?_
        refine v_iadd dX10_sort_39 ?_
        rw [nI_add]
        refine v_aload_n dX10_sort_40 rfl 4 rfl ?_
        refine v_getf 4 (ci := 8) (C := RX10) (T := TX10) (N := 7) rfl iwX10_sort_X10 (Nat.le_of_ble_eq_true rfl) (by decide +kernel) dX10_sort_41 (by first | with_reducible assumption) rfl ?_
        refine v_mmin (by decide +kernel) (by decide +kernel) (by decide +kernel) (by decide +kernel) dX10_sort_44 (Nat.le_of_ble_eq_true rfl) (Nat.le_of_ble_eq_true rfl) (Nat.le_of_ble_eq_true rfl) (Nat.le_of_ble_eq_true rfl) ?_
        rw [gm_minN (by omega) (by omega), show min (Q.length + a.length + w) (Q ++ (a :: b :: r).flatten).length = Q.length + a.length + b.length from by omega]
        refine v_iload_n dX10_sort_47 rfl 3 rfl ?_
        refine v_callVq (M' := mX10_merge) (n := 4) (As := [_, _, _, _]) (ci := 8) (r := (RX10, TX10, 7)) gX10_sort_X10_merge rfl (by decide +kernel) ⟨(Nat.le_of_ble_eq_true rfl), (Nat.le_of_ble_eq_true rfl)⟩ rfl rfl dX10_sort_48 rfl ⟨(Nat.le_of_ble_eq_true rfl), (Nat.le_of_ble_eq_true rfl)⟩ (Nat.le_of_ble_eq_true rfl) (by first | with_reducible assumption) rfl (hct) (fun v h1 z1 hq9 => ?_)
        obtain ⟨rfl, rfl, H1, fr1⟩ := hq9
        refine v_iload_n dX10_sort_51 rfl 1 rfl ?_
        refine v_iconst (v := 2) dX10_sort_52 (by decide) ?_
        refine v_iload_n dX10_sort_53 rfl 2 rfl ?_
        refine v_imul dX10_sort_54 ?_
        rw [show (2 : Int32) = nI 2 from rfl, sv_nm2]
        refine v_iadd dX10_sort_55 ?_
        rw [nI_add]
        refine v_istore_n (L' := [(3, _), (4, _), (2, _), (1, _), (0, _)]) dX10_sort_56 rfl (Nat.le_of_ble_eq_true rfl) rfl ?_
        refine v_goto (tgt := 12) dX10_sort_57 (by decide) ?_
        refine v_sub (L' := [(3, _), (2, _), (1, _), (0, _)]) [0, 2, 3, 4] rfl ?_
        refine ih _ (by show r.length < _; rw [List.length_cons, List.length_cons] at hR; omega) r (Q ++ (a ++ b)) (P ++ List.merge a b (leR bc)) _ _ (Nat.le_refl _) (rnW_tail (rnW_tail hW)) (by rw [List.length_append, List.length_append, List.length_append, List.length_merge, hPQ]) (by cases r with
          | nil => exact Or.inl ⟨rfl, by rw [List.flatten_nil, List.append_nil, List.length_append, List.length_append]; have q1 : a.length = w := hW.1; have q2 : 0 < b.length ∧ b.length ≤ w := hW.2; omega, by omega⟩
          | cons c r => exact Or.inr ⟨by simp, by rw [List.length_append, List.length_append]; have q1 : a.length = w := hW.1; have q2 : b.length = w := hW.2.1; omega⟩) (fun a9 p9 => (fr1 a9 p9).trans (fr a9 p9)) ?_ ?_
        · rw [List.append_assoc, List.append_assoc]
          exact H1
        · intro h9 f9 H9
          refine hk h9 f9 ?_
          rw [List.append_assoc, List.append_assoc, List.append_assoc] at H9
          exact H9

set_option maxHeartbeats 4000000 in
set_option maxRecDepth 100000 in
theorem l_srO (G : sv_G) (Qr : Option Value → sv_h → Nat → Prop) (z t : Nat) (bc : Bool) (L0 : List (List Int64)) (hb : sv_h) (hk : ∀ (h : sv_h) (L : List (List Int64)), (∀ a, ¬ (t ≤ a ∧ a < t + 4) → h a = hb a) → tO G h t L → L.Perm L0 → L.Pairwise (fun x y => leR bc x y = true) → Qr none h z) : ∀ (n : Nat) (R : List (List (List Int64))) (w : Nat) (h : sv_h), R.length ≤ n → 0 < w → w ≤ 3000 → rnW w R → rnS (leR bc) R → R.flatten.Perm L0 → (∀ a, ¬ (t ≤ a ∧ a < t + 4) → h a = hb a) → tO G h t R.flatten → V G mX10_sort (sv_MQ G mX10_sort Qr) 2 [(2, .int (nI w)), (1, .int (bcI bc)), (0, .ref t)] [] h z 0 0 := by
  intro n
  induction n using Nat.strongRecOn with
  | ind n ih =>
    intro R w h hR hw0 hw3 hW hS hP fr H
    obtain ⟨hl, ox, ous, oov, ohm, ox1, oh, _⟩ := H.toM.obj
    by_cases hsz : R.flatten.length ≤ w
    · refine v_iload_n dX10_sort_2 rfl 0 rfl ?_
      refine v_aload_n dX10_sort_3 rfl 2 rfl ?_
      refine v_getf 4 (ci := 8) (C := RX10) (T := TX10) (N := 7) rfl iwX10_sort_X10 (Nat.le_of_ble_eq_true rfl) (by decide +kernel) dX10_sort_4 (by first | with_reducible assumption) rfl ?_
      refine v_icmp_ge (tgt := 85) dX10_sort_7 (by decide) (fun c_7 => ?_) (fun c_7 => ?_)
      · exact v_ret rfl dX10_sort_85 (Nat.le_of_ble_eq_true rfl) (Nat.le_of_ble_eq_true rfl) (by
                  refine hk h R.flatten fr H hP ?_
                  rcases rnW_1 hw0 hW hsz with e | ⟨a, e⟩
                  · rw [e]; exact List.Pairwise.nil
                  · rw [e, show [a].flatten = a from List.append_nil a]
                    exact hS a (by rw [e]; exact List.mem_cons_self))
      · exact absurd (nI_le hsz (by omega)) c_7
    · refine v_iload_n dX10_sort_2 rfl 0 rfl ?_
      refine v_aload_n dX10_sort_3 rfl 2 rfl ?_
      refine v_getf 4 (ci := 8) (C := RX10) (T := TX10) (N := 7) rfl iwX10_sort_X10 (Nat.le_of_ble_eq_true rfl) (by decide +kernel) dX10_sort_4 (by first | with_reducible assumption) rfl ?_
      refine v_icmp_ge (tgt := 85) dX10_sort_7 (by decide) (fun c_7 => ?_) (fun c_7 => ?_)
      · exact absurd c_7 (nI_ge (show w < R.flatten.length by omega) (by omega))
      · refine v_iconst (v := 0) dX10_sort_10 (by decide) ?_
        refine v_istore_n (L' := [(3, _), (2, _), (1, _), (0, _)]) dX10_sort_11 rfl (Nat.le_of_ble_eq_true rfl) rfl ?_
        refine v_sub (L' := [(3, _), (2, _), (1, _), (0, _)]) [0, 1, 2, 3] rfl ?_
        refine l_srI G Qr z t w hw0 (by omega) bc h R.length R [] [] 0 h (Nat.le_refl _) hW rfl (Or.inr ⟨fun e => hsz (by rw [e]; exact Nat.zero_le _), rfl⟩) (fun _ _ => rfl) H.toM (fun h1 f1 H1 => ?_)
        rw [List.nil_append, List.nil_append] at H1
        obtain ⟨_, o0, o1, o2, o3, o4, oh1, o5⟩ := H1.obj
        refine v_aload_n dX10_sort_60 rfl 2 rfl ?_
        refine v_getf 2 (ci := 8) (C := RX10) (T := TX10) (N := 7) rfl iwX10_sort_X10 (Nat.le_of_ble_eq_true rfl) (by decide +kernel) dX10_sort_61 (by repeat (first | with_reducible assumption | (with_reducible refine sv_us.trans ?_; exact rfl) | with_reducible refine (sv_un (by omega)).trans ?_)) (by exact rfl) ?_
        refine v_astore_n (L' := [(3, _), (2, _), (1, _), (0, _)]) dX10_sort_64 rfl (Nat.le_of_ble_eq_true rfl) rfl ?_
        refine v_aload_n dX10_sort_65 rfl 3 rfl ?_
        refine v_aload_n dX10_sort_66 rfl 3 rfl ?_
        refine v_getf 3 (ci := 8) (C := RX10) (T := TX10) (N := 7) rfl iwX10_sort_X10 (Nat.le_of_ble_eq_true rfl) (by decide +kernel) dX10_sort_67 (by repeat (first | with_reducible assumption | (with_reducible refine sv_us.trans ?_; exact rfl) | with_reducible refine (sv_un (by omega)).trans ?_)) (by exact rfl) ?_
        refine v_putf 2 (fs' := [_, _, _, _, _, _, _]) (ci := 8) (C := RX10) (T := TX10) (N := 7) (ty := (.array .int)) rfl iwX10_sort_X10 tyX10 tyX10_ok nmX10 (Nat.le_of_ble_eq_true rfl) (by decide +kernel) rfl rfl dX10_sort_70 rfl rfl (by repeat (first | with_reducible assumption | (with_reducible refine sv_us.trans ?_; exact rfl) | with_reducible refine (sv_un (by omega)).trans ?_)) (Nat.le_of_ble_eq_true rfl) rfl ?_
        refine v_aload_n dX10_sort_73 rfl 3 rfl ?_
        refine v_aload_n dX10_sort_74 rfl 0 rfl ?_
        refine v_putf 3 (fs' := [_, _, _, _, _, _, _]) (ci := 8) (C := RX10) (T := TX10) (N := 7) (ty := (.array .int)) rfl iwX10_sort_X10 tyX10 tyX10_ok nmX10 (Nat.le_of_ble_eq_true rfl) (by decide +kernel) rfl rfl dX10_sort_75 rfl rfl (by repeat (first | with_reducible assumption | (with_reducible refine sv_us.trans ?_; exact rfl) | with_reducible refine (sv_un (by omega)).trans ?_)) (Nat.le_of_ble_eq_true rfl) rfl ?_
        refine v_iload_n dX10_sort_78 rfl 1 rfl ?_
        refine v_iconst (v := 2) dX10_sort_79 (by decide) ?_
        refine v_imul dX10_sort_80 ?_
        rw [show (2 : Int32) = nI 2 from rfl, sv_nm2, Nat.mul_comm]
        refine v_istore_n (L' := [(2, _), (3, _), (1, _), (0, _)]) dX10_sort_81 rfl (Nat.le_of_ble_eq_true rfl) rfl ?_
        refine v_goto (tgt := 2) dX10_sort_82 (by decide) ?_
        refine v_sub (L' := [(2, _), (1, _), (0, _)]) [0, 2, 3] rfl ?_
        have hlt : (mgP (leR bc) R).length < R.length := (by
          have q1 := mgP_len (leR bc) R.length R (Nat.le_refl _)
          have q2 : 2 ≤ R.length := (by
            match R, hsz, hW with
            | [], hsz, _ => exact absurd (Nat.zero_le w) hsz
            | [a], hsz, hW => exact absurd (by rw [show [a].flatten = a from List.append_nil a]; exact hW.2) hsz
            | a :: b :: r, _, _ => rw [List.length_cons, List.length_cons]; omega)
          omega)
        have hp9 := mgP_perm (leR bc) R.length R (Nat.le_refl _)
        exact ih (mgP (leR bc) R).length (by omega) (mgP (leR bc) R) (2 * w) _ (Nat.le_refl _) (by omega) (by omega) (mgP_w (leR bc) w R.length R (Nat.le_refl _) hW) (mgP_s (leR_tr bc) (leR_to bc) R.length R (Nat.le_refl _) hS) (hp9.trans hP) (fun a p => (sv_un (by omega)).trans ((sv_un (by omega)).trans ((f1 a p).trans (fr a p)))) (o5 _ hp9.length_eq sv_us (fun a p => (sv_un p).trans (sv_un p)))

set_option maxHeartbeats 4000000 in
set_option maxRecDepth 100000 in
theorem c_sort (G : sv_G) (h : sv_h) (z t : Nat) (bc : Bool) (L : List (List Int64)) (H : tO G h t L) : CT G mX10_sort [.ref t, .int (bcI bc)] h z (fun v h1 z1 => v = none ∧ z1 = z ∧ ∃ L1 : List (List Int64), tO G h1 t L1 ∧ L1.Perm L ∧ L1.Pairwise (fun x y => leR bc x y = true) ∧ ∀ a, ¬ (t ≤ a ∧ a < t + 4) → h1 a = h a) := by
  refine CT.of (by decide +kernel) rfl rfl (Nat.le_of_ble_eq_true rfl) ?_
  refine v_iconst (v := 1) dX10_sort_0 (by decide) ?_
  refine v_istore_n (L' := [(2, _), (0, _), (1, _)]) dX10_sort_1 rfl (Nat.le_of_ble_eq_true rfl) rfl ?_
  refine v_sub (L' := [(2, _), (1, _), (0, _)]) [0, 2, 1] rfl ?_
  obtain ⟨q1, q2, q3⟩ := rn_one (leR bc) L
  exact l_srO G _ _ t bc L h (fun h1 L1 a1 a2 a3 a4 => ⟨rfl, rfl, L1, a2, a3, a4, a1⟩) _ (L.map (fun r => [r])) 1 h (Nat.le_refl _) (by decide) (by decide) q1 q2 (by rw [q3]) (fun _ _ => rfl) (by rw [q3]; exact H)

