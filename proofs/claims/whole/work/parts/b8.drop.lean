theorem iwX10_dropRepeats_X10 : ∀ w ∈ wsX100, w ∈ wsX10_dropRepeats := by decide +kernel
theorem iwX11_dropFrom_X10 : ∀ w ∈ wsX100, w ∈ wsX11_dropFrom := by decide +kernel
theorem iwX11_dropFrom_X11 : ∀ w ∈ wsX110, w ∈ wsX11_dropFrom := by decide +kernel
set_option maxRecDepth 20000 in
theorem ggX10_dropRepeats_X10_compare : GoodIn wsX10_dropRepeats wsX10_compare := goodIn_r _ [7, 2, 8, 9, 10, 11, 6, 12, 13, 14, 15, 16, 17, 18, 19, 20, 21, 22, 23] (by decide +kernel) (by decide +kernel)
set_option maxRecDepth 20000 in
theorem gX10_dropRepeats_X10_compare : GoodIn wsX10_dropRepeats (wsV RX10 69 RX10 yX10_compare wsX10_compare) := goodIn_app (goodIn_of _ (by decide +kernel)) ggX10_dropRepeats_X10_compare
theorem dX10_dropRepeats_0 : decode cX10_dropRepeats 0 = .ok (.iconst 0, 1) := by decide +kernel
theorem dX10_dropRepeats_1 : decode cX10_dropRepeats 1 = .ok (.istore_n 1, 1) := by decide +kernel
theorem dX10_dropRepeats_2 : decode cX10_dropRepeats 2 = .ok (.iconst 0, 1) := by decide +kernel
theorem dX10_dropRepeats_3 : decode cX10_dropRepeats 3 = .ok (.istore_n 2, 1) := by decide +kernel
theorem dX10_dropRepeats_4 : decode cX10_dropRepeats 4 = .ok (.iload_n 2, 1) := by decide +kernel
theorem dX10_dropRepeats_5 : decode cX10_dropRepeats 5 = .ok (.aload_n 0, 1) := by decide +kernel
theorem dX10_dropRepeats_6 : decode cX10_dropRepeats 6 = .ok (.getfield 24, 3) := by decide +kernel
theorem dX10_dropRepeats_9 : decode cX10_dropRepeats 9 = .ok (.if_icmp .ge 40, 3) := by decide +kernel
theorem dX10_dropRepeats_12 : decode cX10_dropRepeats 12 = .ok (.iload_n 1, 1) := by decide +kernel
theorem dX10_dropRepeats_13 : decode cX10_dropRepeats 13 = .ok (.ifCond .eq 15, 3) := by decide +kernel
theorem dX10_dropRepeats_16 : decode cX10_dropRepeats 16 = .ok (.aload_n 0, 1) := by decide +kernel
theorem dX10_dropRepeats_17 : decode cX10_dropRepeats 17 = .ok (.iload_n 1, 1) := by decide +kernel
theorem dX10_dropRepeats_18 : decode cX10_dropRepeats 18 = .ok (.iconst 1, 1) := by decide +kernel
theorem dX10_dropRepeats_19 : decode cX10_dropRepeats 19 = .ok (.isub, 1) := by decide +kernel
theorem dX10_dropRepeats_20 : decode cX10_dropRepeats 20 = .ok (.iload_n 2, 1) := by decide +kernel
theorem dX10_dropRepeats_21 : decode cX10_dropRepeats 21 = .ok (.iconst 0, 1) := by decide +kernel
theorem dX10_dropRepeats_22 : decode cX10_dropRepeats 22 = .ok (.invokevirtual 69, 3) := by decide +kernel
theorem dX10_dropRepeats_25 : decode cX10_dropRepeats 25 = .ok (.ifCond .eq 18, 3) := by decide +kernel
theorem dX10_dropRepeats_28 : decode cX10_dropRepeats 28 = .ok (.aload_n 0, 1) := by decide +kernel
theorem dX10_dropRepeats_29 : decode cX10_dropRepeats 29 = .ok (.getfield 13, 3) := by decide +kernel
theorem dX10_dropRepeats_32 : decode cX10_dropRepeats 32 = .ok (.iload_n 1, 1) := by decide +kernel
theorem dX10_dropRepeats_33 : decode cX10_dropRepeats 33 = .ok (.aload_n 0, 1) := by decide +kernel
theorem dX10_dropRepeats_34 : decode cX10_dropRepeats 34 = .ok (.getfield 13, 3) := by decide +kernel
theorem dX10_dropRepeats_37 : decode cX10_dropRepeats 37 = .ok (.iload_n 2, 1) := by decide +kernel
theorem dX10_dropRepeats_38 : decode cX10_dropRepeats 38 = .ok (.iaload, 1) := by decide +kernel
theorem dX10_dropRepeats_39 : decode cX10_dropRepeats 39 = .ok (.iastore, 1) := by decide +kernel
theorem dX10_dropRepeats_40 : decode cX10_dropRepeats 40 = .ok (.iinc 1 1, 3) := by decide +kernel
theorem dX10_dropRepeats_43 : decode cX10_dropRepeats 43 = .ok (.iinc 2 1, 3) := by decide +kernel
theorem dX10_dropRepeats_46 : decode cX10_dropRepeats 46 = .ok (.goto (-42), 3) := by decide +kernel
theorem dX10_dropRepeats_49 : decode cX10_dropRepeats 49 = .ok (.aload_n 0, 1) := by decide +kernel
theorem dX10_dropRepeats_50 : decode cX10_dropRepeats 50 = .ok (.iload_n 1, 1) := by decide +kernel
theorem dX10_dropRepeats_51 : decode cX10_dropRepeats 51 = .ok (.putfield 24, 3) := by decide +kernel
theorem dX10_dropRepeats_54 : decode cX10_dropRepeats 54 = .ok (.return_, 1) := by decide +kernel
set_option maxRecDepth 20000 in
theorem ggX11_dropFrom_X11_covers : GoodIn wsX11_dropFrom wsX11_covers := goodIn_r _ [8, 2, 9, 10, 11, 7, 12, 13, 14, 15, 16, 17, 18, 19, 20, 21, 22, 23, 24, 25, 33, 34, 35, 26, 27, 28, 29, 30, 31, 32] (by decide +kernel) (by decide +kernel)
set_option maxRecDepth 20000 in
theorem gX11_dropFrom_X11_covers : GoodIn wsX11_dropFrom (wsV RX11 37 RX11 yX11_covers wsX11_covers) := goodIn_app (goodIn_of _ (by decide +kernel)) ggX11_dropFrom_X11_covers
theorem dX11_dropFrom_0 : decode cX11_dropFrom 0 = .ok (.iconst 0, 1) := by decide +kernel
theorem dX11_dropFrom_1 : decode cX11_dropFrom 1 = .ok (.istore_n 3, 1) := by decide +kernel
theorem dX11_dropFrom_2 : decode cX11_dropFrom 2 = .ok (.iconst 0, 1) := by decide +kernel
theorem dX11_dropFrom_3 : decode cX11_dropFrom 3 = .ok (.istore 4, 2) := by decide +kernel
theorem dX11_dropFrom_5 : decode cX11_dropFrom 5 = .ok (.iload 4, 2) := by decide +kernel
theorem dX11_dropFrom_7 : decode cX11_dropFrom 7 = .ok (.aload_n 1, 1) := by decide +kernel
theorem dX11_dropFrom_8 : decode cX11_dropFrom 8 = .ok (.getfield 34, 3) := by decide +kernel
theorem dX11_dropFrom_11 : decode cX11_dropFrom 11 = .ok (.if_icmp .ge 43, 3) := by decide +kernel
theorem dX11_dropFrom_14 : decode cX11_dropFrom 14 = .ok (.aload_n 0, 1) := by decide +kernel
theorem dX11_dropFrom_15 : decode cX11_dropFrom 15 = .ok (.getfield 16, 3) := by decide +kernel
theorem dX11_dropFrom_18 : decode cX11_dropFrom 18 = .ok (.ifCond .eq 14, 3) := by decide +kernel
theorem dX11_dropFrom_21 : decode cX11_dropFrom 21 = .ok (.aload_n 0, 1) := by decide +kernel
theorem dX11_dropFrom_22 : decode cX11_dropFrom 22 = .ok (.iload_n 2, 1) := by decide +kernel
theorem dX11_dropFrom_23 : decode cX11_dropFrom 23 = .ok (.aload_n 1, 1) := by decide +kernel
theorem dX11_dropFrom_24 : decode cX11_dropFrom 24 = .ok (.iload 4, 2) := by decide +kernel
theorem dX11_dropFrom_26 : decode cX11_dropFrom 26 = .ok (.invokevirtual 37, 3) := by decide +kernel
theorem dX11_dropFrom_29 : decode cX11_dropFrom 29 = .ok (.ifCond .ne 19, 3) := by decide +kernel
theorem dX11_dropFrom_32 : decode cX11_dropFrom 32 = .ok (.aload_n 1, 1) := by decide +kernel
theorem dX11_dropFrom_33 : decode cX11_dropFrom 33 = .ok (.getfield 41, 3) := by decide +kernel
theorem dX11_dropFrom_36 : decode cX11_dropFrom 36 = .ok (.iload_n 3, 1) := by decide +kernel
theorem dX11_dropFrom_37 : decode cX11_dropFrom 37 = .ok (.aload_n 1, 1) := by decide +kernel
theorem dX11_dropFrom_38 : decode cX11_dropFrom 38 = .ok (.getfield 41, 3) := by decide +kernel
theorem dX11_dropFrom_41 : decode cX11_dropFrom 41 = .ok (.iload 4, 2) := by decide +kernel
theorem dX11_dropFrom_43 : decode cX11_dropFrom 43 = .ok (.iaload, 1) := by decide +kernel
theorem dX11_dropFrom_44 : decode cX11_dropFrom 44 = .ok (.iastore, 1) := by decide +kernel
theorem dX11_dropFrom_45 : decode cX11_dropFrom 45 = .ok (.iinc 3 1, 3) := by decide +kernel
theorem dX11_dropFrom_48 : decode cX11_dropFrom 48 = .ok (.iinc 4 1, 3) := by decide +kernel
theorem dX11_dropFrom_51 : decode cX11_dropFrom 51 = .ok (.goto (-46), 3) := by decide +kernel
theorem dX11_dropFrom_54 : decode cX11_dropFrom 54 = .ok (.aload_n 1, 1) := by decide +kernel
theorem dX11_dropFrom_55 : decode cX11_dropFrom 55 = .ok (.iload_n 3, 1) := by decide +kernel
theorem dX11_dropFrom_56 : decode cX11_dropFrom 56 = .ok (.putfield 34, 3) := by decide +kernel
theorem dX11_dropFrom_59 : decode cX11_dropFrom 59 = .ok (.return_, 1) := by decide +kernel

abbrev mX10_dropRepeats : sv_M := (cX10_dropRepeats, 3, yX10_dropRepeats, wsX10_dropRepeats, none, { frames := 4, cells := 0, slots := 0, locals := 100 }, [])
abbrev mX11_dropFrom : sv_M := (cX11_dropFrom, 5, yX11_dropFrom, wsX11_dropFrom, none, { frames := 4, cells := 0, slots := 0, locals := 100 }, [])
/-- the object of the list; what one store into its order does; what a new size does -/
theorem tO.ob {G : sv_G} {h : sv_h} {t : Nat} {L : List (List Int64)} (H : tO G h t L) : L.length ≤ 1500 ∧ ∃ (x : Nat) (us ov hm : Int32) (od : Nat → Int32) (w : Nat → Nat), x ≤ 1 ∧ h t = some (.inr (8, [.ref (t + 1), .int us, .ref (t + 2 + x), .ref (t + 3 - x), .int (nI L.length), .int ov, .int hm])) ∧ ab_I G h (t + 2 + x) 1500 od ∧ (∀ k, k < L.length → od k = nI (w k)) ∧ (∀ (i k : Nat) (h1 : sv_h), i < L.length → k < L.length → ab_I G h1 (t + 2 + x) 1500 (upd od i (nI (w k))) → (∀ a, t ≤ a → a < t + 4 → a ≠ t + 2 + x → h1 a = h a) → tO G h1 t (L.set i (L.getD k []))) ∧ ∀ (n : Nat) (h1 : sv_h), n ≤ L.length → h1 t = some (.inr (8, [.ref (t + 1), .int us, .ref (t + 2 + x), .ref (t + 3 - x), .int (nI n), .int ov, .int hm])) → (∀ a, t ≤ a → a < t + 4 → a ≠ t → h1 a = h a) → tO G h1 t (L.take n) := by
  obtain ⟨x, ro, od, st, us, ov, hm, w, d1, ⟨t0, t1, t2, t3, t4⟩, d2⟩ := H
  refine ⟨d1, x, us, ov, hm, od, w, t0, t1, t3, fun k hk => (d2 k hk).2.1, fun i k h1 hi hk e1 fr => ⟨x, ro, upd od i (nI (w k)), st, us, ov, hm, fun j => if j = i then w k else w j, by rw [List.length_set]; exact d1, ⟨t0, ?_, (fr _ (by omega) (by omega) (by omega)).trans t2, e1, (fr _ (by omega) (by omega) (by omega)).trans t4⟩, fun k9 hk9 => ?_⟩, fun n h1 hn e1 fr => ⟨x, ro, od, st, us, ov, hm, w, by rw [List.length_take]; omega, ⟨t0, ?_, (fr _ (by omega) (by omega) (by omega)).trans t2, (fr _ (by omega) (by omega) (by omega)).trans t3, (fr _ (by omega) (by omega) (by omega)).trans t4⟩, fun k9 hk9 => ?_⟩⟩
  · rw [List.length_set]; exact (fr _ (by omega) (by omega) (by omega)).trans t1
  · rw [List.length_set] at hk9
    dsimp only
    by_cases e : k9 = i
    · subst e
      rw [if_pos rfl, List.getD_eq_getElem?_getD, List.getElem?_set_self hi]
      exact ⟨(d2 k hk).1, if_pos rfl, (d2 k hk).2.2⟩
    · rw [if_neg e, List.getD_eq_getElem?_getD, List.getElem?_set_ne (fun q => e q.symm), ← List.getD_eq_getElem?_getD]
      exact ⟨(d2 k9 hk9).1, (if_neg e).trans (d2 k9 hk9).2.1, (d2 k9 hk9).2.2⟩
  · rw [List.length_take, Nat.min_eq_left hn]; exact e1
  · rw [List.length_take] at hk9
    rw [List.getD_eq_getElem?_getD, List.getElem?_take, if_pos (by omega), ← List.getD_eq_getElem?_getD]
    exact d2 k9 (by omega)
theorem ks_get {α : Type} {K L : List α} {d : α} {k : Nat} (h1 : K.length ≤ k) (h2 : k < L.length) : (K ++ L.drop K.length).getD k d = L.getD k d := by
  rw [List.getD_eq_getElem?_getD, List.getD_eq_getElem?_getD, List.getElem?_append_right h1, List.getElem?_drop]
  congr 2
  omega
theorem ks_len {α : Type} {K L : List α} (h : K.length ≤ L.length) : (K ++ L.drop K.length).length = L.length := by
  rw [List.length_append, List.length_drop]; omega
theorem ks_set {α : Type} {K L : List α} (v : α) (h : K.length < L.length) : (K ++ L.drop K.length).set K.length v = (K ++ [v]) ++ L.drop (K ++ [v]).length := by
  rw [List.set_append_right _ _ (Nat.le_refl _), Nat.sub_self, List.drop_eq_getElem_cons h, List.set_cons_zero, List.length_append, List.append_assoc]
  rfl
theorem ks_take {α : Type} {K L : List α} : (K ++ L.drop K.length).take K.length = K := by
  rw [List.take_append_of_le_length (Nat.le_refl _), List.take_length]
theorem ks_last {α : Type} {K L : List α} {d : α} (h : 0 < K.length) : (K ++ L.drop K.length).getD (K.length - 1) d = K.getD (K.length - 1) d := by
  rw [List.getD_eq_getElem?_getD, List.getD_eq_getElem?_getD, List.getElem?_append_left (by omega)]
/-- of rows that are alike in all one behind the other the first one -/
def ddN (L : List (List Int64)) : Nat → List (List Int64)
  | 0 => []
  | n + 1 => if (ddN L n).length ≠ 0 ∧ cmpR false ((ddN L n).getD ((ddN L n).length - 1) []) (L.getD n []) = 0 then ddN L n else ddN L n ++ [L.getD n []]
theorem ddN_le (L : List (List Int64)) : ∀ n, (ddN L n).length ≤ n := by
  intro n
  induction n with
  | zero => exact Nat.le_refl 0
  | succ n ih =>
    show (if _ then _ else _ : List (List Int64)).length ≤ _
    split
    · omega
    · rw [List.length_append]; show _ + 1 ≤ _; omega
set_option maxHeartbeats 4000000 in
set_option maxRecDepth 100000 in
theorem l_dr (G : sv_G) (Qr : Option Value → sv_h → Nat → Prop) (z t : Nat) (L : List (List Int64)) (hb : sv_h) (hk : ∀ h, (∀ a, ¬ (t ≤ a ∧ a < t + 4) → h a = hb a) → tO G h t (ddN L L.length) → Qr none h z) : ∀ (e k : Nat) (h : sv_h), k + e = L.length → (∀ a, ¬ (t ≤ a ∧ a < t + 4) → h a = hb a) → tO G h t (ddN L k ++ L.drop (ddN L k).length) → V G mX10_dropRepeats (sv_MQ G mX10_dropRepeats Qr) 4 [(2, .int (nI k)), (1, .int (nI (ddN L k).length)), (0, .ref t)] [] h z 0 0 := by
  intro e
  induction e with
  | zero =>
    intro k h hke fr H
    have hdl := ddN_le L k
    have hkl := ks_len (K := ddN L k) (L := L) (by omega)
    obtain ⟨hl, ox, ous, oov, ohm, ood, ow, o1, o2, o3, o4, o5, o6⟩ := H.ob
    rw [hkl] at hl o2
    refine v_iload_n dX10_dropRepeats_4 rfl 0 rfl ?_
    refine v_aload_n dX10_dropRepeats_5 rfl 2 rfl ?_
    refine v_getf 4 (ci := 8) (C := RX10) (T := TX10) (N := 7) rfl iwX10_dropRepeats_X10 (Nat.le_of_ble_eq_true rfl) (by decide +kernel) dX10_dropRepeats_6 (by first | with_reducible assumption) rfl ?_
    refine v_icmp_ge (tgt := 49) dX10_dropRepeats_9 (by decide) (fun c_9 => ?_) (fun c_9 => ?_)
    · refine v_aload_n dX10_dropRepeats_49 rfl 2 rfl ?_
      refine v_iload_n dX10_dropRepeats_50 rfl 1 rfl ?_
      refine v_putf 4 (fs' := [_, _, _, _, _, _, _]) (ci := 8) (C := RX10) (T := TX10) (N := 7) (ty := .int) rfl iwX10_dropRepeats_X10 tyX10 tyX10_ok nmX10 (Nat.le_of_ble_eq_true rfl) (by decide +kernel) rfl rfl dX10_dropRepeats_51 rfl rfl (by first | with_reducible assumption) (Nat.le_of_ble_eq_true rfl) rfl ?_
      exact v_ret rfl dX10_dropRepeats_54 (Nat.le_of_ble_eq_true rfl) (Nat.le_of_ble_eq_true rfl) (by
                have e9 : k = L.length := by omega
                have q9 := o6 (ddN L k).length _ (by omega) sv_us (fun a _ _ p => sv_un p)
                rw [ks_take, e9] at q9
                rw [e9]
                exact hk _ (fun a p => (sv_un (by omega)).trans (fr a p)) q9)
    · exact absurd (nI_le (show L.length ≤ k by omega) (by omega)) c_9
  | succ e ih =>
    intro k h hke fr H
    have hdl := ddN_le L k
    have hkl := ks_len (K := ddN L k) (L := L) (by omega)
    obtain ⟨hl, ox, ous, oov, ohm, ood, ow, o1, o2, o3, o4, o5, o6⟩ := H.ob
    rw [hkl] at hl o2
    have hkL : k < L.length := by omega
    have edd : ddN L (k + 1) = if (ddN L k).length ≠ 0 ∧ cmpR false ((ddN L k).getD ((ddN L k).length - 1) []) (L.getD k []) = 0 then ddN L k else ddN L k ++ [L.getD k []] := rfl
    refine v_iload_n dX10_dropRepeats_4 rfl 0 rfl ?_
    refine v_aload_n dX10_dropRepeats_5 rfl 2 rfl ?_
    refine v_getf 4 (ci := 8) (C := RX10) (T := TX10) (N := 7) rfl iwX10_dropRepeats_X10 (Nat.le_of_ble_eq_true rfl) (by decide +kernel) dX10_dropRepeats_6 (by first | with_reducible assumption) rfl ?_
    refine v_icmp_ge (tgt := 49) dX10_dropRepeats_9 (by decide) (fun c_9 => ?_) (fun c_9 => ?_)
    · exact absurd c_9 (nI_ge hkL (by omega))
    · refine v_iload_n dX10_dropRepeats_12 rfl 1 rfl ?_
      refine v_if_eq (tgt := 28) dX10_dropRepeats_13 (by decide) (fun c_13 => ?_) (fun c_13 => ?_)
      · refine v_aload_n dX10_dropRepeats_28 rfl 2 rfl ?_
        refine v_getf 2 (ci := 8) (C := RX10) (T := TX10) (N := 7) rfl iwX10_dropRepeats_X10 (Nat.le_of_ble_eq_true rfl) (by decide +kernel) dX10_dropRepeats_29 (by first | with_reducible assumption) rfl ?_
        refine v_iload_n dX10_dropRepeats_32 rfl 1 rfl ?_
        refine v_aload_n dX10_dropRepeats_33 rfl 2 rfl ?_
        refine v_getf 2 (ci := 8) (C := RX10) (T := TX10) (N := 7) rfl iwX10_dropRepeats_X10 (Nat.le_of_ble_eq_true rfl) (by decide +kernel) dX10_dropRepeats_34 (by first | with_reducible assumption) rfl ?_
        refine v_iload_n dX10_dropRepeats_37 rfl 0 rfl ?_
        refine v_ialdS (v := nI (ow k)) dX10_dropRepeats_38 (by first | with_reducible assumption) (vp_in_nI (by omega) (by omega)) (by rw [nI_clamp (by omega)]; exact o4 k (by omega)) ?_
        refine v_iast dX10_dropRepeats_39 (by first | with_reducible assumption) (vp_in_nI (by omega) (by omega)) ?_
        refine v_iinc (j := 1) (L' := [(1, _), (2, _), (0, _)]) (v := nI ((ddN L k).length + 1)) dX10_dropRepeats_40 rfl (nI_1 _) (Nat.le_of_ble_eq_true rfl) rfl ?_
        refine v_iinc (j := 1) (L' := [(2, _), (1, _), (0, _)]) (v := nI (k + 1)) dX10_dropRepeats_43 rfl (nI_1 _) (Nat.le_of_ble_eq_true rfl) rfl ?_
        refine v_goto (tgt := 4) dX10_dropRepeats_46 (by decide) ?_
        refine v_sub (L' := [(2, _), (1, _), (0, _)]) [0, 1, 2] rfl ?_
        have hif : (ddN L k).length ≠ 0 ∧ cmpR false ((ddN L k).getD ((ddN L k).length - 1) []) (L.getD k []) = 0 ∨ ¬ ((ddN L k).length ≠ 0 ∧ cmpR false ((ddN L k).getD ((ddN L k).length - 1) []) (L.getD k []) = 0) := Decidable.em _
        rcases hif with hif | hif
        · first
            | (have c9 : cmpR false _ _ = 0 := c_25
               rw [if_pos hif] at edd
               rw [← edd] at H ⊢
               exact ih (k + 1) h (by omega) fr H)
            | (have c9 : ¬ cmpR false _ _ = 0 := c_25
               rw [ks_last (by omega), ks_get (by omega) hkL] at c9
               exact absurd hif.2 c9)
            | exact absurd c_13 (nI_ne0 (Nat.pos_of_ne_zero hif.1) (by omega))
        · first
            | (have c9 : cmpR false _ _ = 0 := c_25
               rw [ks_last (by omega), ks_get (by omega) hkL] at c9
               exact absurd ⟨hk0, c9⟩ hif)
            | (rw [if_neg hif] at edd
               rw [nI_clamp (show (ddN L k).length < 2 ^ 31 by omega)]
               have q9 := o5 (ddN L k).length k _ (by omega) (by omega) sv_us (fun a _ _ p => sv_un p)
               rw [ks_get (by omega) hkL, ks_set _ (by omega), ← edd] at q9
               rw [show (ddN L k).length + 1 = (ddN L (k + 1)).length from by rw [edd, List.length_append]; rfl]
               exact ih (k + 1) _ (by omega) (fun a p => (sv_un (by omega)).trans (fr a p)) q9)
      · have hk0 : (ddN L k).length ≠ 0 := fun e9 => c_13 (by rw [e9]; exact nI_0)
        refine v_aload_n dX10_dropRepeats_16 rfl 2 rfl ?_
        refine v_iload_n dX10_dropRepeats_17 rfl 1 rfl ?_
        refine v_iconst (v := 1) dX10_dropRepeats_18 (by decide) ?_
        refine v_isub dX10_dropRepeats_19 ?_
        rw [show nI (ddN L k).length - 1 = nI ((ddN L k).length - 1) from by have := nI_s1 ((ddN L k).length - 1); rw [show (ddN L k).length - 1 + 1 = (ddN L k).length by omega] at this; exact this]
        refine v_iload_n dX10_dropRepeats_20 rfl 0 rfl ?_
        refine v_iconst (v := 0) dX10_dropRepeats_21 (by decide) ?_
        refine v_callVq (M' := mX10_compare) (n := 3) (As := [_, _, _]) (ci := 8) (r := (RX10, TX10, 7)) gX10_dropRepeats_X10_compare rfl (by decide +kernel) ⟨(Nat.le_of_ble_eq_true rfl), (Nat.le_of_ble_eq_true rfl)⟩ rfl rfl dX10_dropRepeats_22 rfl ⟨(Nat.le_of_ble_eq_true rfl), (Nat.le_of_ble_eq_true rfl)⟩ (Nat.le_of_ble_eq_true rfl) (by first | with_reducible assumption) rfl (c_compare0 G h _ t _ H ((ddN L k).length - 1) k (by omega) (by omega)) (fun v9 h9 y9 hq => v_pq hq ?_)
        refine v_if_eq (tgt := 43) dX10_dropRepeats_25 (by decide) (fun c_25 => ?_) (fun c_25 => ?_)
        · refine v_iinc (j := 0) (L' := [(2, _), (1, _), (0, _)]) (v := nI (k + 1)) dX10_dropRepeats_43 rfl (nI_1 _) (Nat.le_of_ble_eq_true rfl) rfl ?_
          refine v_goto (tgt := 4) dX10_dropRepeats_46 (by decide) ?_
          refine v_sub (L' := [(2, _), (1, _), (0, _)]) [0, 1, 2] rfl ?_
          have hif : (ddN L k).length ≠ 0 ∧ cmpR false ((ddN L k).getD ((ddN L k).length - 1) []) (L.getD k []) = 0 ∨ ¬ ((ddN L k).length ≠ 0 ∧ cmpR false ((ddN L k).getD ((ddN L k).length - 1) []) (L.getD k []) = 0) := Decidable.em _
          rcases hif with hif | hif
          · first
              | (have c9 : cmpR false _ _ = 0 := c_25
                 rw [if_pos hif] at edd
                 rw [← edd] at H ⊢
                 exact ih (k + 1) h (by omega) fr H)
              | (have c9 : ¬ cmpR false _ _ = 0 := c_25
                 rw [ks_last (by omega), ks_get (by omega) hkL] at c9
                 exact absurd hif.2 c9)
              | exact absurd c_13 (nI_ne0 (Nat.pos_of_ne_zero hif.1) (by omega))
          · first
              | (have c9 : cmpR false _ _ = 0 := c_25
                 rw [ks_last (by omega), ks_get (by omega) hkL] at c9
                 exact absurd ⟨hk0, c9⟩ hif)
              | (rw [if_neg hif] at edd
                 rw [nI_clamp (show (ddN L k).length < 2 ^ 31 by omega)]
                 have q9 := o5 (ddN L k).length k _ (by omega) (by omega) sv_us (fun a _ _ p => sv_un p)
                 rw [ks_get (by omega) hkL, ks_set _ (by omega), ← edd] at q9
                 rw [show (ddN L k).length + 1 = (ddN L (k + 1)).length from by rw [edd, List.length_append]; rfl]
                 exact ih (k + 1) _ (by omega) (fun a p => (sv_un (by omega)).trans (fr a p)) q9)
        · refine v_aload_n dX10_dropRepeats_28 rfl 2 rfl ?_
          refine v_getf 2 (ci := 8) (C := RX10) (T := TX10) (N := 7) rfl iwX10_dropRepeats_X10 (Nat.le_of_ble_eq_true rfl) (by decide +kernel) dX10_dropRepeats_29 (by first | with_reducible assumption) rfl ?_
          refine v_iload_n dX10_dropRepeats_32 rfl 1 rfl ?_
          refine v_aload_n dX10_dropRepeats_33 rfl 2 rfl ?_
          refine v_getf 2 (ci := 8) (C := RX10) (T := TX10) (N := 7) rfl iwX10_dropRepeats_X10 (Nat.le_of_ble_eq_true rfl) (by decide +kernel) dX10_dropRepeats_34 (by first | with_reducible assumption) rfl ?_
          refine v_iload_n dX10_dropRepeats_37 rfl 0 rfl ?_
          refine v_ialdS (v := nI (ow k)) dX10_dropRepeats_38 (by first | with_reducible assumption) (vp_in_nI (by omega) (by omega)) (by rw [nI_clamp (by omega)]; exact o4 k (by omega)) ?_
          refine v_iast dX10_dropRepeats_39 (by first | with_reducible assumption) (vp_in_nI (by omega) (by omega)) ?_
          refine v_iinc (j := 1) (L' := [(1, _), (2, _), (0, _)]) (v := nI ((ddN L k).length + 1)) dX10_dropRepeats_40 rfl (nI_1 _) (Nat.le_of_ble_eq_true rfl) rfl ?_
          refine v_iinc (j := 1) (L' := [(2, _), (1, _), (0, _)]) (v := nI (k + 1)) dX10_dropRepeats_43 rfl (nI_1 _) (Nat.le_of_ble_eq_true rfl) rfl ?_
          refine v_goto (tgt := 4) dX10_dropRepeats_46 (by decide) ?_
          refine v_sub (L' := [(2, _), (1, _), (0, _)]) [0, 1, 2] rfl ?_
          have hif : (ddN L k).length ≠ 0 ∧ cmpR false ((ddN L k).getD ((ddN L k).length - 1) []) (L.getD k []) = 0 ∨ ¬ ((ddN L k).length ≠ 0 ∧ cmpR false ((ddN L k).getD ((ddN L k).length - 1) []) (L.getD k []) = 0) := Decidable.em _
          rcases hif with hif | hif
          · first
              | (have c9 : cmpR false _ _ = 0 := c_25
                 rw [if_pos hif] at edd
                 rw [← edd] at H ⊢
                 exact ih (k + 1) h (by omega) fr H)
              | (have c9 : ¬ cmpR false _ _ = 0 := c_25
                 rw [ks_last (by omega), ks_get (by omega) hkL] at c9
                 exact absurd hif.2 c9)
              | exact absurd c_13 (nI_ne0 (Nat.pos_of_ne_zero hif.1) (by omega))
          · first
              | (have c9 : cmpR false _ _ = 0 := c_25
                 rw [ks_last (by omega), ks_get (by omega) hkL] at c9
                 exact absurd ⟨hk0, c9⟩ hif)
              | (rw [if_neg hif] at edd
                 rw [nI_clamp (show (ddN L k).length < 2 ^ 31 by omega)]
                 have q9 := o5 (ddN L k).length k _ (by omega) (by omega) sv_us (fun a _ _ p => sv_un p)
                 rw [ks_get (by omega) hkL, ks_set _ (by omega), ← edd] at q9
                 rw [show (ddN L k).length + 1 = (ddN L (k + 1)).length from by rw [edd, List.length_append]; rfl]
                 exact ih (k + 1) _ (by omega) (fun a p => (sv_un (by omega)).trans (fr a p)) q9)

set_option maxHeartbeats 4000000 in
set_option maxRecDepth 100000 in
theorem c_dropRepeats (G : sv_G) (h : sv_h) (z t : Nat) (L : List (List Int64)) (H : tO G h t L) : CT G mX10_dropRepeats [.ref t] h z (fun v h1 z1 => v = none ∧ z1 = z ∧ tO G h1 t (ddN L L.length) ∧ ∀ a, ¬ (t ≤ a ∧ a < t + 4) → h1 a = h a) := by
  refine CT.of (by decide +kernel) rfl rfl (Nat.le_of_ble_eq_true rfl) ?_
  refine v_iconst (v := 0) dX10_dropRepeats_0 (by decide) ?_
  refine v_istore_n (L' := [(1, _), (0, _)]) dX10_dropRepeats_1 rfl (Nat.le_of_ble_eq_true rfl) rfl ?_
  refine v_iconst (v := 0) dX10_dropRepeats_2 (by decide) ?_
  refine v_istore_n (L' := [(2, _), (1, _), (0, _)]) dX10_dropRepeats_3 rfl (Nat.le_of_ble_eq_true rfl) rfl ?_
  refine v_sub (L' := [(2, _), (1, _), (0, _)]) [0, 1, 2] rfl ?_
  exact l_dr G _ _ t L h (fun h1 a1 a2 => ⟨rfl, rfl, a2, a1⟩) L.length 0 h (Nat.zero_add _) (fun _ _ => rfl) H

/-- what a row is waived by -/
def dsR (rl : Int32) (r : List Int64) (j : Nat) : Int64 := if j = 0 then rl.toInt64 else if j = 1 then r.getD 7 0 else if j = 2 then r.getD 4 0 else if j = 3 then r.getD 5 0 else r.getD (j + 4) 0
def cvB (wr : Nat → Int64) (n : Nat) (rl : Int32) (r : List Int64) : Bool := (List.range n).any (fun i => (List.range 8).all (fun j => decide (wr (8 * i + j) = dsR rl r j)))
theorem cvB_iff {wr : Nat → Int64} {n : Nat} {rl : Int32} {r : List Int64} : cvB wr n rl r = true ↔ ab_cv wr (dsR rl r) n := by
  unfold cvB ab_cv ab_mt
  rw [List.any_eq_true]
  refine ⟨fun ⟨i, h1, h2⟩ => ⟨i, List.mem_range.mp h1, fun j hj => ?_⟩, fun ⟨i, h1, h2⟩ => ⟨i, List.mem_range.mpr h1, ?_⟩⟩
  · exact of_decide_eq_true (List.all_eq_true.mp h2 j (List.mem_range.mpr hj))
  · exact List.all_eq_true.mpr (fun j hj => decide_eq_true (h2 j (List.mem_range.mp hj)))
def lrL (L : List (List Int64)) (i : Nat) : Int64 := (L.getD (i / 12) []).getD (i % 12) 0
theorem lrL_at (L : List (List Int64)) {k j : Nat} (hj : j < 12) : lrL L (12 * k + j) = (L.getD k []).getD j 0 := by
  unfold lrL
  rw [show (12 * k + j) / 12 = k by omega, show (12 * k + j) % 12 = j by omega]
theorem tO.late {G : sv_G} {h : sv_h} {t : Nat} {L : List (List Int64)} (H : tO G h t L) : ab_late G h t L.length (lrL L) := by
  obtain ⟨x, ro, od, st, us, ov, hm, w, d1, T, d2⟩ := H
  exact ⟨d1, x, ro, od, st, us, ov, hm, w, T, fun k hk => ⟨(d2 k hk).1, (d2 k hk).2.1, fun j hj => ((d2 k hk).2.2 j hj).trans (lrL_at L hj).symm⟩⟩
theorem ds_row (rl : Int32) (L : List (List Int64)) (k : Nat) : ∀ j, j < 8 → ab_ds rl (lrL L) k j = dsR rl (L.getD k []) j := by
  intro j hj
  unfold ab_ds dsR
  by_cases e0 : j = 0
  · rw [if_pos e0, if_pos e0]
  rw [if_neg e0, if_neg e0]
  by_cases e1 : j = 1
  · rw [if_pos e1, if_pos e1, lrL_at L (by decide)]
  rw [if_neg e1, if_neg e1]
  by_cases e2 : j = 2
  · rw [if_pos e2, if_pos e2, lrL_at L (by decide)]
  rw [if_neg e2, if_neg e2]
  by_cases e3 : j = 3
  · rw [if_pos e3, if_pos e3, lrL_at L (by decide)]
  rw [if_neg e3, if_neg e3, lrL_at L (by omega)]
theorem cv_row {wr : Nat → Int64} {n : Nat} {rl : Int32} {L : List (List Int64)} {k : Nat} : ab_cv wr (ab_ds rl (lrL L) k) n ↔ cvB wr n rl (L.getD k []) = true := by
  rw [cvB_iff]
  unfold ab_cv ab_mt
  exact ⟨fun ⟨i, h1, h2⟩ => ⟨i, h1, fun j hj => (h2 j hj).trans (ds_row rl L k j hj)⟩, fun ⟨i, h1, h2⟩ => ⟨i, h1, fun j hj => (h2 j hj).trans (ds_row rl L k j hj).symm⟩⟩
set_option maxHeartbeats 4000000 in
set_option maxRecDepth 100000 in
theorem l_df (G : sv_G) (Qr : Option Value → sv_h → Nat → Prop) (z b t n : Nat) (wr : Nat → Int64) (rl : Int32) (L : List (List Int64)) (hb : sv_h) (hw : hb (b + 180) = some (.inr (9, [.ref (b + 181), .ref (b + 182), .int (nI n)]))) (rf : Nat → Int64) (hrf : ab_J G hb (b + 181) 320 rf) (hwr : ∀ k, k < n → ∀ j, j < 8 → rf (8 * k + j) = wr (8 * k + j)) (hn : n ≤ 40) (ht1 : b + 204 ≤ t) (ht2 : t < b + 216) (hk : ∀ h, (∀ a, a ≠ b + 182 → ¬ (t ≤ a ∧ a < t + 4) → h a = hb a) → (∃ f, ab_J G h (b + 182) 8 f) → tO G h t (L.filter (fun r => !cvB wr n rl r)) → Qr none h z) : ∀ (e k : Nat) (h : sv_h), k + e = L.length → (∀ a, a ≠ b + 182 → ¬ (t ≤ a ∧ a < t + 4) → h a = hb a) → (∃ f, ab_J G h (b + 182) 8 f) → tO G h t (((L.take k).filter (fun r => !cvB wr n rl r)) ++ L.drop ((L.take k).filter (fun r => !cvB wr n rl r)).length) → V G mX11_dropFrom (sv_MQ G mX11_dropFrom Qr) 5 [(4, .int (nI k)), (3, .int (nI ((L.take k).filter (fun r => !cvB wr n rl r)).length)), (2, .int rl), (1, .ref t), (0, .ref (b + 180))] [] h z 0 0 := by
  intro e
  induction e with
  | zero =>
    intro k h hke fr h8 H
    have hdl : ((L.take k).filter (fun r => !cvB wr n rl r)).length ≤ k := Nat.le_trans (List.length_filter_le _ _) (by rw [List.length_take]; omega)
    have hkl := ks_len (K := ((L.take k).filter (fun r => !cvB wr n rl r))) (L := L) (by omega)
    obtain ⟨hl, ox, ous, oov, ohm, ood, ow, o1, o2, o3, o4, o5, o6⟩ := H.ob
    rw [hkl] at hl o2
    have w0 := (fr (b + 180) (by omega) (by omega)).trans hw
    have w1 : ab_J G h (b + 181) 320 rf := (fr (b + 181) (by omega) (by omega)).trans hrf
    obtain ⟨f8, h182⟩ := h8
    refine v_iload dX11_dropFrom_5 0 rfl ?_
    refine v_aload_n dX11_dropFrom_7 rfl 3 rfl ?_
    refine v_getf 4 (ci := 8) (C := RX10) (T := TX10) (N := 7) rfl iwX11_dropFrom_X10 (Nat.le_of_ble_eq_true rfl) (by decide +kernel) dX11_dropFrom_8 (by first | with_reducible assumption) rfl ?_
    refine v_icmp_ge (tgt := 54) dX11_dropFrom_11 (by decide) (fun c_11 => ?_) (fun c_11 => ?_)
    · refine v_aload_n dX11_dropFrom_54 rfl 3 rfl ?_
      refine v_iload_n dX11_dropFrom_55 rfl 1 rfl ?_
      refine v_putf 4 (fs' := [_, _, _, _, _, _, _]) (ci := 8) (C := RX10) (T := TX10) (N := 7) (ty := .int) rfl iwX11_dropFrom_X10 tyX10 tyX10_ok nmX10 (Nat.le_of_ble_eq_true rfl) (by decide +kernel) rfl rfl dX11_dropFrom_56 rfl rfl (by first | with_reducible assumption) (Nat.le_of_ble_eq_true rfl) rfl ?_
      exact v_ret rfl dX11_dropFrom_59 (Nat.le_of_ble_eq_true rfl) (Nat.le_of_ble_eq_true rfl) (by
                have e9 : k = L.length := by omega
                have q9 := o6 ((L.take k).filter (fun r => !cvB wr n rl r)).length _ (by omega) sv_us (fun a _ _ p => sv_un p)
                rw [ks_take, e9, List.take_length] at q9
                rw [e9, List.take_length]
                exact hk _ (fun a p1 p2 => (sv_un (by omega)).trans (fr a p1 p2)) ⟨f8, (sv_un (by omega)).trans h182⟩ q9)
    · exact absurd (nI_le (show L.length ≤ k by omega) (by omega)) c_11
  | succ e ih =>
    intro k h hke fr h8 H
    have hdl : ((L.take k).filter (fun r => !cvB wr n rl r)).length ≤ k := Nat.le_trans (List.length_filter_le _ _) (by rw [List.length_take]; omega)
    have hkl := ks_len (K := ((L.take k).filter (fun r => !cvB wr n rl r))) (L := L) (by omega)
    obtain ⟨hl, ox, ous, oov, ohm, ood, ow, o1, o2, o3, o4, o5, o6⟩ := H.ob
    rw [hkl] at hl o2
    have w0 := (fr (b + 180) (by omega) (by omega)).trans hw
    have w1 : ab_J G h (b + 181) 320 rf := (fr (b + 181) (by omega) (by omega)).trans hrf
    obtain ⟨f8, h182⟩ := h8
    have hkL : k < L.length := by omega
    have hgk : (((L.take k).filter (fun r => !cvB wr n rl r)) ++ L.drop ((L.take k).filter (fun r => !cvB wr n rl r)).length).getD k [] = L.getD k [] := ks_get (by omega) hkL
    have etk : L.take (k + 1) = L.take k ++ [L.getD k []] := tk_s [] hkL
    have hcov : ¬ cvB wr n rl (L.getD k []) = true → ((L.take (k + 1)).filter (fun r => !cvB wr n rl r)) = ((L.take k).filter (fun r => !cvB wr n rl r)) ++ [L.getD k []] := fun q9 => (by rw [etk, List.filter_append, List.filter_cons_of_pos (p := fun r => !cvB wr n rl r) (show (!cvB wr n rl (L.getD k [])) = true from by rw [Bool.eq_false_iff.mpr q9]; rfl)]; rfl)
    have hcov2 : cvB wr n rl (L.getD k []) = true → ((L.take (k + 1)).filter (fun r => !cvB wr n rl r)) = ((L.take k).filter (fun r => !cvB wr n rl r)) := fun q9 => (by rw [etk, List.filter_append, List.filter_cons_of_neg (p := fun r => !cvB wr n rl r) (show ¬ (!cvB wr n rl (L.getD k [])) = true from by rw [q9]; decide), List.filter_nil, List.append_nil])
    refine v_iload dX11_dropFrom_5 0 rfl ?_
    refine v_aload_n dX11_dropFrom_7 rfl 3 rfl ?_
    refine v_getf 4 (ci := 8) (C := RX10) (T := TX10) (N := 7) rfl iwX11_dropFrom_X10 (Nat.le_of_ble_eq_true rfl) (by decide +kernel) dX11_dropFrom_8 (by first | with_reducible assumption | exact (G3 _ (by omega)).trans (by with_reducible assumption)) rfl ?_
    refine v_icmp_ge (tgt := 54) dX11_dropFrom_11 (by decide) (fun c_11 => ?_) (fun c_11 => ?_)
    · exact absurd c_11 (nI_ge hkL (by omega))
    · refine v_aload_n dX11_dropFrom_14 rfl 4 rfl ?_
      refine v_getf 2 (ci := 9) (C := RX11) (T := TX11) (N := 3) rfl iwX11_dropFrom_X11 (Nat.le_of_ble_eq_true rfl) (by decide +kernel) dX11_dropFrom_15 (by first | with_reducible assumption | exact (G3 _ (by omega)).trans (by with_reducible assumption)) rfl ?_
      refine v_if_eq (tgt := 32) dX11_dropFrom_18 (by decide) (fun c_18 => ?_) (fun c_18 => ?_)
      · refine v_aload_n dX11_dropFrom_32 rfl 3 rfl ?_
        refine v_getf 2 (ci := 8) (C := RX10) (T := TX10) (N := 7) rfl iwX11_dropFrom_X10 (Nat.le_of_ble_eq_true rfl) (by decide +kernel) dX11_dropFrom_33 (by first | with_reducible assumption | exact (G3 _ (by omega)).trans (by with_reducible assumption)) rfl ?_
        refine v_iload_n dX11_dropFrom_36 rfl 1 rfl ?_
        refine v_aload_n dX11_dropFrom_37 rfl 3 rfl ?_
        refine v_getf 2 (ci := 8) (C := RX10) (T := TX10) (N := 7) rfl iwX11_dropFrom_X10 (Nat.le_of_ble_eq_true rfl) (by decide +kernel) dX11_dropFrom_38 (by first | with_reducible assumption | exact (G3 _ (by omega)).trans (by with_reducible assumption)) rfl ?_
        refine v_iload dX11_dropFrom_41 0 rfl ?_
        refine v_ialdS (v := nI (ow k)) dX11_dropFrom_43 (by first | with_reducible assumption | exact (G3 _ (by omega)).trans (by with_reducible assumption)) (vp_in_nI (by omega) (by omega)) (by rw [nI_clamp (by omega)]; exact o4 k (by omega)) ?_
        refine v_iast dX11_dropFrom_44 (by first | with_reducible assumption | exact (G3 _ (by omega)).trans (by with_reducible assumption)) (vp_in_nI (by omega) (by omega)) ?_
        refine v_iinc (j := 1) (L' := [(3, _), (4, _), (2, _), (1, _), (0, _)]) (v := nI (((L.take k).filter (fun r => !cvB wr n rl r)).length + 1)) dX11_dropFrom_45 rfl (nI_1 _) (Nat.le_of_ble_eq_true rfl) rfl ?_
        refine v_iinc (j := 1) (L' := [(4, _), (3, _), (2, _), (1, _), (0, _)]) (v := nI (k + 1)) dX11_dropFrom_48 rfl (nI_1 _) (Nat.le_of_ble_eq_true rfl) rfl ?_
        refine v_goto (tgt := 5) dX11_dropFrom_51 (by decide) ?_
        refine v_sub (L' := [(4, _), (3, _), (2, _), (1, _), (0, _)]) [0, 1, 2, 3, 4] rfl ?_
        first
          | (have c9 : ¬ cw = 0 := c_29
             have d9 : cvB wr n rl (L.getD k []) = true := (by
               rcases hcw with ⟨_, q⟩ | ⟨q, _⟩
               · have q2 := cv_row.mp q
                 rw [hgk] at q2
                 exact q2
               · exact absurd q c9)
             rw [← hcov2 d9] at H ⊢
             exact ih (k + 1) h1 (by omega) (fun a p1 p2 => (G3 a p1).trans (fr a p1 p2)) ⟨f1, e182⟩ (H.kept (fun a p1 p2 => G3 a (by omega))))
          | (have c9 : cw = 0 := c_29
             have d9 : ¬ cvB wr n rl (L.getD k []) = true := (by
               rcases hcw with ⟨q, _⟩ | ⟨_, q⟩
               · exact absurd (q.symm.trans c9) (by decide)
               · intro q2
                 rw [← hgk] at q2
                 exact q (cv_row.mpr q2))
             rw [nI_clamp (show ((L.take k).filter (fun r => !cvB wr n rl r)).length < 2 ^ 31 by omega)]
             have q9 := o5 ((L.take k).filter (fun r => !cvB wr n rl r)).length k (va_up h1 (t + 2 + ox) (some (.inl (G.2.2.1 0, 1500, .inl (upd ood ((L.take k).filter (fun r => !cvB wr n rl r)).length (nI (ow k))))))) (by omega) (by omega) sv_us (fun a p1 p2 p => (sv_un p).trans (G3 a (by omega)))
             rw [hgk, ks_set _ (by omega), ← hcov d9] at q9
             rw [show ((L.take k).filter (fun r => !cvB wr n rl r)).length + 1 = ((L.take (k + 1)).filter (fun r => !cvB wr n rl r)).length from by rw [hcov d9, List.length_append]; rfl]
             exact ih (k + 1) _ (by omega) (fun a p1 p2 => (sv_un (by omega)).trans ((G3 a p1).trans (fr a p1 p2))) ⟨f1, (sv_un (by omega)).trans e182⟩ q9)
          | (have c9 : nI n = 0 := c_18
             have n0 : n = 0 := Decidable.byContradiction fun q9 => absurd c9 (nI_ne0 (Nat.pos_of_ne_zero q9) (by omega))
             have d9 : ¬ cvB wr n rl (L.getD k []) = true := fun q9 => (by obtain ⟨i, q, _⟩ := cvB_iff.mp q9; omega)
             rw [nI_clamp (show ((L.take k).filter (fun r => !cvB wr n rl r)).length < 2 ^ 31 by omega)]
             have q9 := o5 ((L.take k).filter (fun r => !cvB wr n rl r)).length k (va_up h (t + 2 + ox) (some (.inl (G.2.2.1 0, 1500, .inl (upd ood ((L.take k).filter (fun r => !cvB wr n rl r)).length (nI (ow k))))))) (by omega) (by omega) sv_us (fun a p1 p2 p => sv_un p)
             rw [hgk, ks_set _ (by omega), ← hcov d9] at q9
             rw [show ((L.take k).filter (fun r => !cvB wr n rl r)).length + 1 = ((L.take (k + 1)).filter (fun r => !cvB wr n rl r)).length from by rw [hcov d9, List.length_append]; rfl]
             exact ih (k + 1) _ (by omega) (fun a p1 p2 => (sv_un (by omega)).trans (fr a p1 p2)) ⟨f8, (sv_un (by omega)).trans h182⟩ q9)
      · refine v_aload_n dX11_dropFrom_21 rfl 4 rfl ?_
        refine v_iload_n dX11_dropFrom_22 rfl 2 rfl ?_
        refine v_aload_n dX11_dropFrom_23 rfl 3 rfl ?_
        refine v_iload dX11_dropFrom_24 0 rfl ?_
        refine v_callVq (M' := mX11_covers) (n := 3) (As := [_, _, _]) (ci := 9) (r := (RX11, TX11, 3)) gX11_dropFrom_X11_covers rfl (by decide +kernel) ⟨(Nat.le_of_ble_eq_true rfl), (Nat.le_of_ble_eq_true rfl)⟩ rfl rfl dX11_dropFrom_26 rfl ⟨(Nat.le_of_ble_eq_true rfl), (Nat.le_of_ble_eq_true rfl)⟩ (Nat.le_of_ble_eq_true rfl) (by first | with_reducible assumption | exact (G3 _ (by omega)).trans (by with_reducible assumption)) rfl (c_covers G h _ b n t _ k rl _ wr f8 w0 H.late (by omega) ht1 ht2 h182 rf w1 hwr hn) (fun v h1 z1 hq9 => ?_)
        obtain ⟨rfl, ⟨cw, rfl, hcw⟩, ⟨f1, e182⟩, G3⟩ := hq9
        have o2_ := (G3 t (by omega)).trans o2
        have o3_ : ab_I G h1 (t + 2 + ox) 1500 ood := (G3 _ (by omega)).trans o3
        refine v_if_ne (tgt := 48) dX11_dropFrom_29 (by decide) (fun c_29 => ?_) (fun c_29 => ?_)
        · refine v_iinc (j := 0) (L' := [(4, _), (3, _), (2, _), (1, _), (0, _)]) (v := nI (k + 1)) dX11_dropFrom_48 rfl (nI_1 _) (Nat.le_of_ble_eq_true rfl) rfl ?_
          refine v_goto (tgt := 5) dX11_dropFrom_51 (by decide) ?_
          refine v_sub (L' := [(4, _), (3, _), (2, _), (1, _), (0, _)]) [0, 1, 2, 3, 4] rfl ?_
          first
            | (have c9 : ¬ cw = 0 := c_29
               have d9 : cvB wr n rl (L.getD k []) = true := (by
                 rcases hcw with ⟨_, q⟩ | ⟨q, _⟩
                 · have q2 := cv_row.mp q
                   rw [hgk] at q2
                   exact q2
                 · exact absurd q c9)
               rw [← hcov2 d9] at H ⊢
               exact ih (k + 1) h1 (by omega) (fun a p1 p2 => (G3 a p1).trans (fr a p1 p2)) ⟨f1, e182⟩ (H.kept (fun a p1 p2 => G3 a (by omega))))
            | (have c9 : cw = 0 := c_29
               have d9 : ¬ cvB wr n rl (L.getD k []) = true := (by
                 rcases hcw with ⟨q, _⟩ | ⟨_, q⟩
                 · exact absurd (q.symm.trans c9) (by decide)
                 · intro q2
                   rw [← hgk] at q2
                   exact q (cv_row.mpr q2))
               rw [nI_clamp (show ((L.take k).filter (fun r => !cvB wr n rl r)).length < 2 ^ 31 by omega)]
               have q9 := o5 ((L.take k).filter (fun r => !cvB wr n rl r)).length k (va_up h1 (t + 2 + ox) (some (.inl (G.2.2.1 0, 1500, .inl (upd ood ((L.take k).filter (fun r => !cvB wr n rl r)).length (nI (ow k))))))) (by omega) (by omega) sv_us (fun a p1 p2 p => (sv_un p).trans (G3 a (by omega)))
               rw [hgk, ks_set _ (by omega), ← hcov d9] at q9
               rw [show ((L.take k).filter (fun r => !cvB wr n rl r)).length + 1 = ((L.take (k + 1)).filter (fun r => !cvB wr n rl r)).length from by rw [hcov d9, List.length_append]; rfl]
               exact ih (k + 1) _ (by omega) (fun a p1 p2 => (sv_un (by omega)).trans ((G3 a p1).trans (fr a p1 p2))) ⟨f1, (sv_un (by omega)).trans e182⟩ q9)
            | (have c9 : nI n = 0 := c_18
               have n0 : n = 0 := Decidable.byContradiction fun q9 => absurd c9 (nI_ne0 (Nat.pos_of_ne_zero q9) (by omega))
               have d9 : ¬ cvB wr n rl (L.getD k []) = true := fun q9 => (by obtain ⟨i, q, _⟩ := cvB_iff.mp q9; omega)
               rw [nI_clamp (show ((L.take k).filter (fun r => !cvB wr n rl r)).length < 2 ^ 31 by omega)]
               have q9 := o5 ((L.take k).filter (fun r => !cvB wr n rl r)).length k (va_up h (t + 2 + ox) (some (.inl (G.2.2.1 0, 1500, .inl (upd ood ((L.take k).filter (fun r => !cvB wr n rl r)).length (nI (ow k))))))) (by omega) (by omega) sv_us (fun a p1 p2 p => sv_un p)
               rw [hgk, ks_set _ (by omega), ← hcov d9] at q9
               rw [show ((L.take k).filter (fun r => !cvB wr n rl r)).length + 1 = ((L.take (k + 1)).filter (fun r => !cvB wr n rl r)).length from by rw [hcov d9, List.length_append]; rfl]
               exact ih (k + 1) _ (by omega) (fun a p1 p2 => (sv_un (by omega)).trans (fr a p1 p2)) ⟨f8, (sv_un (by omega)).trans h182⟩ q9)
        · refine v_aload_n dX11_dropFrom_32 rfl 3 rfl ?_
          refine v_getf 2 (ci := 8) (C := RX10) (T := TX10) (N := 7) rfl iwX11_dropFrom_X10 (Nat.le_of_ble_eq_true rfl) (by decide +kernel) dX11_dropFrom_33 (by first | with_reducible assumption | exact (G3 _ (by omega)).trans (by with_reducible assumption)) rfl ?_
          refine v_iload_n dX11_dropFrom_36 rfl 1 rfl ?_
          refine v_aload_n dX11_dropFrom_37 rfl 3 rfl ?_
          refine v_getf 2 (ci := 8) (C := RX10) (T := TX10) (N := 7) rfl iwX11_dropFrom_X10 (Nat.le_of_ble_eq_true rfl) (by decide +kernel) dX11_dropFrom_38 (by first | with_reducible assumption | exact (G3 _ (by omega)).trans (by with_reducible assumption)) rfl ?_
          refine v_iload dX11_dropFrom_41 0 rfl ?_
          refine v_ialdS (v := nI (ow k)) dX11_dropFrom_43 (by first | with_reducible assumption | exact (G3 _ (by omega)).trans (by with_reducible assumption)) (vp_in_nI (by omega) (by omega)) (by rw [nI_clamp (by omega)]; exact o4 k (by omega)) ?_
          refine v_iast dX11_dropFrom_44 (by first | with_reducible assumption | exact (G3 _ (by omega)).trans (by with_reducible assumption)) (vp_in_nI (by omega) (by omega)) ?_
          refine v_iinc (j := 1) (L' := [(3, _), (4, _), (2, _), (1, _), (0, _)]) (v := nI (((L.take k).filter (fun r => !cvB wr n rl r)).length + 1)) dX11_dropFrom_45 rfl (nI_1 _) (Nat.le_of_ble_eq_true rfl) rfl ?_
          refine v_iinc (j := 1) (L' := [(4, _), (3, _), (2, _), (1, _), (0, _)]) (v := nI (k + 1)) dX11_dropFrom_48 rfl (nI_1 _) (Nat.le_of_ble_eq_true rfl) rfl ?_
          refine v_goto (tgt := 5) dX11_dropFrom_51 (by decide) ?_
          refine v_sub (L' := [(4, _), (3, _), (2, _), (1, _), (0, _)]) [0, 1, 2, 3, 4] rfl ?_
          first
            | (have c9 : ¬ cw = 0 := c_29
               have d9 : cvB wr n rl (L.getD k []) = true := (by
                 rcases hcw with ⟨_, q⟩ | ⟨q, _⟩
                 · have q2 := cv_row.mp q
                   rw [hgk] at q2
                   exact q2
                 · exact absurd q c9)
               rw [← hcov2 d9] at H ⊢
               exact ih (k + 1) h1 (by omega) (fun a p1 p2 => (G3 a p1).trans (fr a p1 p2)) ⟨f1, e182⟩ (H.kept (fun a p1 p2 => G3 a (by omega))))
            | (have c9 : cw = 0 := c_29
               have d9 : ¬ cvB wr n rl (L.getD k []) = true := (by
                 rcases hcw with ⟨q, _⟩ | ⟨_, q⟩
                 · exact absurd (q.symm.trans c9) (by decide)
                 · intro q2
                   rw [← hgk] at q2
                   exact q (cv_row.mpr q2))
               rw [nI_clamp (show ((L.take k).filter (fun r => !cvB wr n rl r)).length < 2 ^ 31 by omega)]
               have q9 := o5 ((L.take k).filter (fun r => !cvB wr n rl r)).length k (va_up h1 (t + 2 + ox) (some (.inl (G.2.2.1 0, 1500, .inl (upd ood ((L.take k).filter (fun r => !cvB wr n rl r)).length (nI (ow k))))))) (by omega) (by omega) sv_us (fun a p1 p2 p => (sv_un p).trans (G3 a (by omega)))
               rw [hgk, ks_set _ (by omega), ← hcov d9] at q9
               rw [show ((L.take k).filter (fun r => !cvB wr n rl r)).length + 1 = ((L.take (k + 1)).filter (fun r => !cvB wr n rl r)).length from by rw [hcov d9, List.length_append]; rfl]
               exact ih (k + 1) _ (by omega) (fun a p1 p2 => (sv_un (by omega)).trans ((G3 a p1).trans (fr a p1 p2))) ⟨f1, (sv_un (by omega)).trans e182⟩ q9)
            | (have c9 : nI n = 0 := c_18
               have n0 : n = 0 := Decidable.byContradiction fun q9 => absurd c9 (nI_ne0 (Nat.pos_of_ne_zero q9) (by omega))
               have d9 : ¬ cvB wr n rl (L.getD k []) = true := fun q9 => (by obtain ⟨i, q, _⟩ := cvB_iff.mp q9; omega)
               rw [nI_clamp (show ((L.take k).filter (fun r => !cvB wr n rl r)).length < 2 ^ 31 by omega)]
               have q9 := o5 ((L.take k).filter (fun r => !cvB wr n rl r)).length k (va_up h (t + 2 + ox) (some (.inl (G.2.2.1 0, 1500, .inl (upd ood ((L.take k).filter (fun r => !cvB wr n rl r)).length (nI (ow k))))))) (by omega) (by omega) sv_us (fun a p1 p2 p => sv_un p)
               rw [hgk, ks_set _ (by omega), ← hcov d9] at q9
               rw [show ((L.take k).filter (fun r => !cvB wr n rl r)).length + 1 = ((L.take (k + 1)).filter (fun r => !cvB wr n rl r)).length from by rw [hcov d9, List.length_append]; rfl]
               exact ih (k + 1) _ (by omega) (fun a p1 p2 => (sv_un (by omega)).trans (fr a p1 p2)) ⟨f8, (sv_un (by omega)).trans h182⟩ q9)

set_option maxHeartbeats 4000000 in
set_option maxRecDepth 100000 in
theorem c_dropFrom (G : sv_G) (z b t n : Nat) (wr : Nat → Int64) (rl : Int32) (L : List (List Int64)) (hb : sv_h) (hw : hb (b + 180) = some (.inr (9, [.ref (b + 181), .ref (b + 182), .int (nI n)]))) (rf : Nat → Int64) (hrf : ab_J G hb (b + 181) 320 rf) (hwr : ∀ k, k < n → ∀ j, j < 8 → rf (8 * k + j) = wr (8 * k + j)) (hn : n ≤ 40) (ht1 : b + 204 ≤ t) (ht2 : t < b + 216) (h8 : ∃ f, ab_J G hb (b + 182) 8 f) (H : tO G hb t L) : CT G mX11_dropFrom [.ref (b + 180), .ref t, .int rl] hb z (fun v h1 z1 => v = none ∧ z1 = z ∧ tO G h1 t (L.filter (fun r => !cvB wr n rl r)) ∧ (∃ f, ab_J G h1 (b + 182) 8 f) ∧ ∀ a, a ≠ b + 182 → ¬ (t ≤ a ∧ a < t + 4) → h1 a = hb a) := by
  refine CT.of (by decide +kernel) rfl rfl (Nat.le_of_ble_eq_true rfl) ?_
  refine v_iconst (v := 0) dX11_dropFrom_0 (by decide) ?_
  refine v_istore_n (L' := [(3, _), (0, _), (1, _), (2, _)]) dX11_dropFrom_1 rfl (Nat.le_of_ble_eq_true rfl) rfl ?_
  refine v_iconst (v := 0) dX11_dropFrom_2 (by decide) ?_
  refine v_istore (L' := [(4, _), (3, _), (0, _), (1, _), (2, _)]) dX11_dropFrom_3 (Nat.le_of_ble_eq_true rfl) rfl ?_
  refine v_sub (L' := [(4, _), (3, _), (2, _), (1, _), (0, _)]) [0, 1, 4, 3, 2] rfl ?_
  exact l_df G _ _ b t n wr rl L hb hw rf hrf hwr hn ht1 ht2 (fun h1 a1 a2 a3 => ⟨rfl, rfl, a3, a2, a1⟩) L.length 0 hb (Nat.zero_add _) (fun _ _ _ => rfl) h8 H

