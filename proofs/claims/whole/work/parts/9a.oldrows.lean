section SVO
variable {G : sv_G} {M M' : sv_M} {P : sv_P} {pc : Nat} {L : List (Nat × Value)} {S : List Value} {h : sv_h} {z ce sl index n : Nat} {As : List Value} {ws' : List Cond} {Qr : Option Value → sv_h → Nat → Prop}
theorem v_kall (hm : M.2.2.1.cls = "RuleDeck$Reader") (hdg : decode M.1 pc = .ok (.getstatic 71, 3)) (kk : V G M P (pc + 3) L (.ref (G.2.2.2.2.1 101) :: S) h z ce sl) : V G M P pc L (S) h z ce sl := fun p e s m args below meth c H locs ls C K Z hS hH hl => va_getsN C.1 C.2.1 Z.2.2.2.2.2.1.2.2.2.1.1 hS (hm ▸ C.2.2.2.1) K.2.2.1 (fun _ q => q) hdg (kk p e s m args below meth c H locs ls C K Z hS hH hl)
theorem v_klen  (hdg : decode M.1 pc = .ok (.arraylength, 1)) (kk : V G M P (pc + 1) L (.int (nI 11) :: S) h z ce sl) : V G M P pc L (.ref (G.2.2.2.2.1 101) :: S) h z ce sl := fun p e s m args below meth c H locs ls C K Z hS hH hl => va_tlen C.1 C.2.1 Z.2.2.2.2.2.1.2.2.2.1.2 hS rfl hdg (kk p e s m args below meth c H locs ls C K Z hS hH hl)
theorem v_kld {i : Int32} {v : Nat} (hin : vp_in i 11) (hv : i.toNatClampNeg = v) (hdg : decode M.1 pc = .ok (.aaload, 1)) (kk : V G M P (pc + 1) L (.ref (G.2.2.2.2.1 v) :: S) h z ce sl) : V G M P pc L (.int i :: .ref (G.2.2.2.2.1 101) :: S) h z ce sl := fun p e s m args below meth c H locs ls C K Z hS hH hl => vb_tq C.1 C.2.1 Z.2.2.2.2.2.1.2.2.2.1.2 hS hin (congrArg (fun q => Value.ref (G.2.2.2.2.1 q)) hv) hdg (kk p e s m args below meth c H locs ls C K Z hS hH hl)
theorem v_kword {i : Nat} (hi : i < 11) (hw : Cond.fieldLink M.2.2.1.cls index "RuleDeck$Kind" "word" "Ljava/lang/String;" ∈ M.2.2.2.1) (hdg : decode M.1 pc = .ok (.getfield index, 3)) (kk : V G M P (pc + 3) L (.ref (G.2.2.2.2.1 (20 + i)) :: S) h z ce sl) : V G M P pc L (.ref (G.2.2.2.2.1 i) :: S) h z ce sl := fun p e s m args below meth c H locs ls C K Z hS hH hl => va_getX C.1 C.2.1 Z.2.2.2.2.2.1.2.2.1 hi hS C.2.2.2.1 (C.2.2.2.2.1 _ hw) (fun _ q => q) hdg (kk p e s m args below meth c H locs ls C K Z hS hH hl)
theorem v_kint {i : Nat} {q : String × String × String × List Int32} {v : Int32} (hi : i < 11) (hq : q ∈ sv_kf) (hv : q.2.2.2.getD i 0 = v) (hw : Cond.fieldLink M.2.2.1.cls index q.1 q.2.1 q.2.2.1 ∈ M.2.2.2.1) (hdg : decode M.1 pc = .ok (.getfield index, 3)) (kk : V G M P (pc + 3) L (.int v :: S) h z ce sl) : V G M P pc L (.ref (G.2.2.2.2.1 i) :: S) h z ce sl := fun p e s m args below meth c H locs ls C K Z hS hH hl => by
  subst hv
  exact va_getE C.1 C.2.1 Z.2.2.2.2.2.1.1 hi hS C.2.2.2.1 hq (C.2.2.2.2.1 _ hw) (fun _ q => q) hdg (kk p e s m args below meth c H locs ls C K Z hS hH hl)
theorem v_kldc {q : Nat × String × Nat} (hq : q ∈ sv_ld) (hi : q.1 = index) (hm : M.2.2.1.cls = "RuleDeck$Reader") (hdg : decode M.1 pc = .ok (.ldc index, 2)) (kk : V G M P (pc + 2) L (.ref (G.2.2.2.2.1 q.2.2) :: S) h z ce sl) : V G M P pc L (S) h z ce sl := fun p e s m args below meth c H locs ls C K Z hS hH hl => by
  subst hi
  exact va_ldcS C.1 C.2.1 (hm ▸ C.2.2.2.1) (Z.2.2.2.2.2.2 q hq) hdg (kk p e s m args below meth c H locs ls C K Z hS hH hl)
theorem v_sval {i : Nat} (hi : i < 14) (hw : Cond.fieldLink M.2.2.1.cls index "java/lang/String" "value" "[B" ∈ M.2.2.2.1) (hdg : decode M.1 pc = .ok (.getfield index, 3)) (kk : V G M P (pc + 3) L (.ref (G.2.2.2.2.1 (40 + i)) :: S) h z ce sl) : V G M P pc L (.ref (G.2.2.2.2.1 (20 + i)) :: S) h z ce sl := fun p e s m args below meth c H locs ls C K Z hS hH hl => vk_getf C.1 C.2.1 (Z.2.2.2.2.2.1.2.1 i hi).2.2.1 hS C.2.2.2.1 (C.2.2.2.2.1 _ hw) (fun _ q => q) hdg (kk p e s m args below meth c H locs ls C K Z hS hH hl)
theorem v_scod {i : Nat} (hi : i < 14) (hw : Cond.fieldLink M.2.2.1.cls index "java/lang/String" "coder" "B" ∈ M.2.2.2.1) (hdg : decode M.1 pc = .ok (.getfield index, 3)) (kk : V G M P (pc + 3) L (.int 0 :: S) h z ce sl) : V G M P pc L (.ref (G.2.2.2.2.1 (20 + i)) :: S) h z ce sl := fun p e s m args below meth c H locs ls C K Z hS hH hl => vk_getf C.1 C.2.1 (Z.2.2.2.2.2.1.2.1 i hi).2.1 hS C.2.2.2.1 (C.2.2.2.2.1 _ hw) (fun _ q => q) hdg (kk p e s m args below meth c H locs ls C K Z hS hH hl)
theorem v_scmp (hw : Cond.fieldLink M.2.2.1.cls index "java/lang/String" "COMPACT_STRINGS" "Z" ∈ M.2.2.2.1) (hdg : decode M.1 pc = .ok (.getstatic index, 3)) (kk : V G M P (pc + 3) L (.int 1 :: S) h z ce sl) : V G M P pc L (S) h z ce sl := fun p e s m args below meth c H locs ls C K Z hS hH hl => va_gets C.1 C.2.1 Z.2.2.2.2.2.1.2.2.2.2.2.1 hS C.2.2.2.1 (C.2.2.2.2.1 _ hw) (fun _ q => q) hdg (kk p e s m args below meth c H locs ls C K Z hS hH hl)
theorem v_ssio (hw : Cond.fieldLink M.2.2.1.cls index "jdk/internal/util/Preconditions" "SIOOBE_FORMATTER" "Ljava/util/function/BiFunction;" ∈ M.2.2.2.1) (hdg : decode M.1 pc = .ok (.getstatic index, 3)) (kk : ∀ v : Value, (v = .null ∨ ∃ t, v = .ref t) → V G M P (pc + 3) L (v :: S) h z ce sl) : V G M P pc L S h z ce sl := by
  intro p e s m args below meth c H locs ls C K Z hS hH hl
  rcases Z.2.2.2.2.2.1.2.2.2.2.2.2 with q | ⟨t, q⟩
  · exact va_gets C.1 C.2.1 q hS C.2.2.2.1 (C.2.2.2.2.1 _ hw) (fun _ q => q) hdg (kk _ (Or.inl rfl) p e s m args below meth c H locs ls C K Z hS hH hl)
  · exact va_gets C.1 C.2.1 q hS C.2.2.2.1 (C.2.2.2.2.1 _ hw) (fun _ q => q) hdg (kk _ (Or.inr ⟨t, rfl⟩) p e s m args below meth c H locs ls C K Z hS hH hl)
theorem v_blen {i : Nat} (hi : i < 14) (hdg : decode M.1 pc = .ok (.arraylength, 1)) (kk : V G M P (pc + 1) L (.int (nI (sv_wd.getD i []).length) :: S) h z ce sl) : V G M P pc L (.ref (G.2.2.2.2.1 (40 + i)) :: S) h z ce sl := fun p e s m args below meth c H locs ls C K Z hS hH hl => va_tlen C.1 C.2.1 (Z.2.2.2.2.2.1.2.1 i hi).2.2.2 hS rfl hdg (kk p e s m args below meth c H locs ls C K Z hS hH hl)
theorem v_bld {i : Nat} {q : Int32} {v : Int32} (hi : i < 14) (hin : vp_in q (sv_wd.getD i []).length) (hv : (sv_wd.getD i []).getD q.toNatClampNeg 0 = v) (hdg : decode M.1 pc = .ok (.baload, 1)) (kk : V G M P (pc + 1) L (.int v :: S) h z ce sl) : V G M P pc L (.int q :: .ref (G.2.2.2.2.1 (40 + i)) :: S) h z ce sl := fun p e s m args below meth c H locs ls C K Z hS hH hl => va_tb C.1 C.2.1 (Z.2.2.2.2.2.1.2.1 i hi).2.2.2 hS hin (congrArg Value.int hv) hdg (kk p e s m args below meth c H locs ls C K Z hS hH hl)
/-- a method of an old object -/
theorem v_callO {b : Nat} (hg : GoodIn M.2.2.2.1 (wsV M.2.2.1.cls index M'.2.2.1.cls M'.2.2.1 M'.2.2.2.1)) (hw : M'.2.2.2.1 = Cond.code M'.2.2.1 M'.1 M'.2.1 M'.2.2.2.2.1 :: ws') (hd : M'.2.2.1.cls = M'.2.2.1.cls ∧ M'.2.2.1.cls ≠ "java/lang/invoke/MethodHandle" ∧ M'.2.2.1.cls ≠ "java/lang/invoke/VarHandle" ∧ (parseMethodDescriptor M'.2.2.1.desc).map (fun d => d.parameters.length) = some n) (hR : M'.2.2.2.2.2.1.frames + 1 ≤ M.2.2.2.2.2.1.frames ∧ 8 + (M'.2.1 + 11) + M'.2.2.2.2.2.1.locals ≤ M.2.2.2.2.2.1.locals) (hdg : decode M.1 pc = .ok (.invokevirtual index, 3)) (hn : As.length = n) (hf : ce + M'.2.2.2.2.2.1.cells ≤ M.2.2.2.2.2.1.cells ∧ sl + M'.2.2.2.2.2.1.slots ≤ M.2.2.2.2.2.1.slots) (hst : (S.map fun v => v.category).sum ≤ 8) (hb : ∀ s : State, sv_O G s s.heap → va_O M'.2.2.1.cls b (sv_A G) s s.heap)
    {S0 : List Value} (hS0 : S0 = As.reverse ++ .ref b :: S) (ct : CT G M' (.ref b :: As) h z Qr) (kk : ∀ (v : Option Value) (h' : sv_h) (z' : Nat), Qr v h' z' → V G M P (pc + 3) L (v.toList ++ S) h' z' (ce + M'.2.2.2.2.2.1.cells) (sl + M'.2.2.2.2.2.1.slots)) : V G M P pc L S0 h z ce sl := by
  intro p e s m args below meth c H locs ls C K Z hS hH hl
  obtain ⟨cell, g1, g2, g3, -⟩ := (hb s Z.2.2.2.2.2.1).kept hS.2.1
  refine sv_go (va_runV (As := As) (b := b) (rest := S) ⟨C.1, C.2.1, C.2.2.1, C.2.2.2.1, C.2.2.2.2.1⟩ ct (cwV n C.2.2.2.2.1 hg hw rfl rfl hd hR) ⟨sv_blind, ⟨cell, g1, g2, g3⟩, sv_pre K Z hS hH⟩ rfl hn hl.1 hS0 (lv_room hst) hdg hf) hS ?_
  exact fun v h' z' H1 locs1 hq hH1 hS1 => kk v h' z' hq p e s m args below meth c H1 locs1 ls C K Z hS1 hH1 hl
end SVO
/-- the words: their length, their letters -/
abbrev wl (i : Nat) : Nat := (sv_wd.getD i []).length
abbrev wc (i q : Nat) : Int32 := (sv_wd.getD i []).getD q 0
theorem wl_8 : ∀ i, i < 14 → wl i ≤ 8 ∧ 0 < wl i := by decide
theorem wl_shr : ∀ i, i < 14 → nI (wl i) >>> ((0 : Int32) &&& 31) = nI (wl i) := by decide
theorem wc_let : ∀ i, i < 14 → ∀ q, q < wl i → lx_so (wc i q) = 2 := by decide
theorem wc_c : ∀ i, i < 14 → ∀ q, q < wl i → ((wc i q &&& 255).toUInt32 % 65536).toInt32 = wc i q := by decide
theorem wc_n : ∀ i, i < 14 → ∀ q, q < wl i → narrow .char (.int (wc i q)) = .int (wc i q) := by decide
set_option maxRecDepth 20000 in
theorem ggJ0_length_8abf5_J0_coder_7d493 : GoodIn wsJ0_length_8abf5 wsJ0_coder_7d493 := goodIn_r _ [6, 7, 8] (by decide +kernel) (by decide +kernel)
set_option maxRecDepth 20000 in
theorem gJ0_length_8abf5_J0_coder_7d493 : GoodIn wsJ0_length_8abf5 (wsV RJ0 335 RJ0 yJ0_coder_7d493 wsJ0_coder_7d493) := goodIn_app (goodIn_of _ (by decide +kernel)) ggJ0_length_8abf5_J0_coder_7d493
theorem dJ0_length_8abf5_0 : decode cJ0_length_8abf5 0 = .ok (.aload_n 0, 1) := by decide +kernel
theorem dJ0_length_8abf5_1 : decode cJ0_length_8abf5 1 = .ok (.getfield 9, 3) := by decide +kernel
theorem dJ0_length_8abf5_4 : decode cJ0_length_8abf5 4 = .ok (.arraylength, 1) := by decide +kernel
theorem dJ0_length_8abf5_5 : decode cJ0_length_8abf5 5 = .ok (.aload_n 0, 1) := by decide +kernel
theorem dJ0_length_8abf5_6 : decode cJ0_length_8abf5 6 = .ok (.invokevirtual 335, 3) := by decide +kernel
theorem dJ0_length_8abf5_9 : decode cJ0_length_8abf5 9 = .ok (.ishr, 1) := by decide +kernel
theorem dJ0_length_8abf5_10 : decode cJ0_length_8abf5 10 = .ok (.ireturn, 1) := by decide +kernel
set_option maxRecDepth 20000 in
theorem ggJ0_charAt_5068e_J0_isLatin1_aae02 : GoodIn wsJ0_charAt_5068e wsJ0_isLatin1_aae02 := goodIn_r _ [6, 7, 8] (by decide +kernel) (by decide +kernel)
set_option maxRecDepth 20000 in
theorem gJ0_charAt_5068e_J0_isLatin1_aae02 : GoodIn wsJ0_charAt_5068e (wsV RJ0 492 RJ0 yJ0_isLatin1_aae02 wsJ0_isLatin1_aae02) := goodIn_app (goodIn_of _ (by decide +kernel)) ggJ0_charAt_5068e_J0_isLatin1_aae02
set_option maxRecDepth 20000 in
theorem ggJ0_charAt_5068e_J1_charAt_3b067 : GoodIn wsJ0_charAt_5068e wsJ1_charAt_3b067 := goodIn_r _ [12, 13, 14, 5, 15, 16, 17, 18, 19, 20] (by decide +kernel) (by decide +kernel)
theorem dJ0_charAt_5068e_0 : decode cJ0_charAt_5068e 0 = .ok (.aload_n 0, 1) := by decide +kernel
theorem dJ0_charAt_5068e_1 : decode cJ0_charAt_5068e 1 = .ok (.invokevirtual 492, 3) := by decide +kernel
theorem dJ0_charAt_5068e_4 : decode cJ0_charAt_5068e 4 = .ok (.ifCond .eq 12, 3) := by decide +kernel
theorem dJ0_charAt_5068e_7 : decode cJ0_charAt_5068e 7 = .ok (.aload_n 0, 1) := by decide +kernel
theorem dJ0_charAt_5068e_8 : decode cJ0_charAt_5068e 8 = .ok (.getfield 9, 3) := by decide +kernel
theorem dJ0_charAt_5068e_11 : decode cJ0_charAt_5068e 11 = .ok (.iload_n 1, 1) := by decide +kernel
theorem dJ0_charAt_5068e_12 : decode cJ0_charAt_5068e 12 = .ok (.invokestatic 495, 3) := by decide +kernel
theorem dJ0_charAt_5068e_15 : decode cJ0_charAt_5068e 15 = .ok (.ireturn, 1) := by decide +kernel
theorem dJ0_coder_7d493_0 : decode cJ0_coder_7d493 0 = .ok (.getstatic 38, 3) := by decide +kernel
theorem dJ0_coder_7d493_3 : decode cJ0_coder_7d493 3 = .ok (.ifCond .eq 10, 3) := by decide +kernel
theorem dJ0_coder_7d493_6 : decode cJ0_coder_7d493 6 = .ok (.aload_n 0, 1) := by decide +kernel
theorem dJ0_coder_7d493_7 : decode cJ0_coder_7d493 7 = .ok (.getfield 15, 3) := by decide +kernel
theorem dJ0_coder_7d493_10 : decode cJ0_coder_7d493 10 = .ok (.goto 4, 3) := by decide +kernel
theorem dJ0_coder_7d493_14 : decode cJ0_coder_7d493 14 = .ok (.ireturn, 1) := by decide +kernel
theorem dJ0_isLatin1_aae02_0 : decode cJ0_isLatin1_aae02 0 = .ok (.getstatic 38, 3) := by decide +kernel
theorem dJ0_isLatin1_aae02_3 : decode cJ0_isLatin1_aae02 3 = .ok (.ifCond .eq 14, 3) := by decide +kernel
theorem dJ0_isLatin1_aae02_6 : decode cJ0_isLatin1_aae02 6 = .ok (.aload_n 0, 1) := by decide +kernel
theorem dJ0_isLatin1_aae02_7 : decode cJ0_isLatin1_aae02 7 = .ok (.getfield 15, 3) := by decide +kernel
theorem dJ0_isLatin1_aae02_10 : decode cJ0_isLatin1_aae02 10 = .ok (.ifCond .ne 7, 3) := by decide +kernel
theorem dJ0_isLatin1_aae02_13 : decode cJ0_isLatin1_aae02 13 = .ok (.iconst 1, 1) := by decide +kernel
theorem dJ0_isLatin1_aae02_14 : decode cJ0_isLatin1_aae02 14 = .ok (.goto 4, 3) := by decide +kernel
theorem dJ0_isLatin1_aae02_18 : decode cJ0_isLatin1_aae02 18 = .ok (.ireturn, 1) := by decide +kernel
set_option maxRecDepth 20000 in
theorem ggJ0_checkIndex_df160_J3_checkIndex_8e157 : GoodIn wsJ0_checkIndex_df160 wsJ3_checkIndex_8e157 := goodIn_r _ [5] (by decide +kernel) (by decide +kernel)
theorem dJ0_checkIndex_df160_0 : decode cJ0_checkIndex_df160 0 = .ok (.iload_n 0, 1) := by decide +kernel
theorem dJ0_checkIndex_df160_1 : decode cJ0_checkIndex_df160 1 = .ok (.iload_n 1, 1) := by decide +kernel
theorem dJ0_checkIndex_df160_2 : decode cJ0_checkIndex_df160 2 = .ok (.getstatic 1053, 3) := by decide +kernel
theorem dJ0_checkIndex_df160_5 : decode cJ0_checkIndex_df160 5 = .ok (.invokestatic 1059, 3) := by decide +kernel
theorem dJ0_checkIndex_df160_8 : decode cJ0_checkIndex_df160 8 = .ok (.pop, 1) := by decide +kernel
theorem dJ0_checkIndex_df160_9 : decode cJ0_checkIndex_df160 9 = .ok (.return_, 1) := by decide +kernel
set_option maxRecDepth 20000 in
theorem ggJ1_charAt_3b067_J0_checkIndex_df160 : GoodIn wsJ1_charAt_3b067 wsJ0_checkIndex_df160 := goodIn_r _ [4, 5, 6, 7, 8, 9] (by decide +kernel) (by decide +kernel)
theorem dJ1_charAt_3b067_0 : decode cJ1_charAt_3b067 0 = .ok (.iload_n 1, 1) := by decide +kernel
theorem dJ1_charAt_3b067_1 : decode cJ1_charAt_3b067 1 = .ok (.aload_n 0, 1) := by decide +kernel
theorem dJ1_charAt_3b067_2 : decode cJ1_charAt_3b067 2 = .ok (.arraylength, 1) := by decide +kernel
theorem dJ1_charAt_3b067_3 : decode cJ1_charAt_3b067 3 = .ok (.invokestatic 9, 3) := by decide +kernel
theorem dJ1_charAt_3b067_6 : decode cJ1_charAt_3b067 6 = .ok (.aload_n 0, 1) := by decide +kernel
theorem dJ1_charAt_3b067_7 : decode cJ1_charAt_3b067 7 = .ok (.iload_n 1, 1) := by decide +kernel
theorem dJ1_charAt_3b067_8 : decode cJ1_charAt_3b067 8 = .ok (.baload, 1) := by decide +kernel
theorem dJ1_charAt_3b067_9 : decode cJ1_charAt_3b067 9 = .ok (.sipush 255, 3) := by decide +kernel
theorem dJ1_charAt_3b067_12 : decode cJ1_charAt_3b067 12 = .ok (.iand, 1) := by decide +kernel
theorem dJ1_charAt_3b067_13 : decode cJ1_charAt_3b067 13 = .ok (.i2c, 1) := by decide +kernel
theorem dJ1_charAt_3b067_14 : decode cJ1_charAt_3b067 14 = .ok (.ireturn, 1) := by decide +kernel
theorem dJ3_checkIndex_8e157_0 : decode cJ3_checkIndex_8e157 0 = .ok (.iload_n 0, 1) := by decide +kernel
theorem dJ3_checkIndex_8e157_1 : decode cJ3_checkIndex_8e157 1 = .ok (.ifCond .lt 8, 3) := by decide +kernel
theorem dJ3_checkIndex_8e157_4 : decode cJ3_checkIndex_8e157 4 = .ok (.iload_n 0, 1) := by decide +kernel
theorem dJ3_checkIndex_8e157_5 : decode cJ3_checkIndex_8e157 5 = .ok (.iload_n 1, 1) := by decide +kernel
theorem dJ3_checkIndex_8e157_6 : decode cJ3_checkIndex_8e157 6 = .ok (.if_icmp .lt 10, 3) := by decide +kernel
theorem dJ3_checkIndex_8e157_16 : decode cJ3_checkIndex_8e157 16 = .ok (.iload_n 0, 1) := by decide +kernel
theorem dJ3_checkIndex_8e157_17 : decode cJ3_checkIndex_8e157 17 = .ok (.ireturn, 1) := by decide +kernel

abbrev mJ3_checkIndex_8e157 : sv_M := (cJ3_checkIndex_8e157, 3, yJ3_checkIndex_8e157, wsJ3_checkIndex_8e157, (some .int), { frames := 0, cells := 0, slots := 0, locals := 0 }, [])
abbrev mJ0_checkIndex_df160 : sv_M := (cJ0_checkIndex_df160, 2, yJ0_checkIndex_df160, wsJ0_checkIndex_df160, none, { frames := 2, cells := 0, slots := 0, locals := 60 }, [])
abbrev mJ0_coder_7d493 : sv_M := (cJ0_coder_7d493, 1, yJ0_coder_7d493, wsJ0_coder_7d493, (some .byte), { frames := 0, cells := 0, slots := 0, locals := 0 }, [])
abbrev mJ0_isLatin1_aae02 : sv_M := (cJ0_isLatin1_aae02, 1, yJ0_isLatin1_aae02, wsJ0_isLatin1_aae02, (some .boolean), { frames := 0, cells := 0, slots := 0, locals := 0 }, [])
abbrev mJ0_length_8abf5 : sv_M := (cJ0_length_8abf5, 1, yJ0_length_8abf5, wsJ0_length_8abf5, (some .int), { frames := 4, cells := 0, slots := 0, locals := 120 }, [])
abbrev mJ1_charAt_3b067 : sv_M := (cJ1_charAt_3b067, 2, yJ1_charAt_3b067, wsJ1_charAt_3b067, (some .char), { frames := 4, cells := 0, slots := 0, locals := 120 }, [])
abbrev mJ0_charAt_5068e : sv_M := (cJ0_charAt_5068e, 2, yJ0_charAt_5068e, wsJ0_charAt_5068e, (some .char), { frames := 6, cells := 0, slots := 0, locals := 200 }, [])
set_option maxHeartbeats 4000000 in
set_option maxRecDepth 100000 in
theorem c_coder (G : sv_G) (h : sv_h) (z i : Nat) (hi : i < 14) : CT G mJ0_coder_7d493 [.ref (G.2.2.2.2.1 (20 + i))] h z (fun v h1 z1 => v = some (.int 0) ∧ h1 = h ∧ z1 = z) := by
  refine CT.of (by decide +kernel) rfl rfl (Nat.le_of_ble_eq_true rfl) ?_
  refine v_scmp (by decide +kernel) dJ0_coder_7d493_0 ?_
  refine v_if_eq (tgt := 13) dJ0_coder_7d493_3 (by decide) (fun c_3 => ?_) (fun c_3 => ?_)
  · exact absurd c_3 (by decide)
  · refine v_aload_n dJ0_coder_7d493_6 rfl 0 rfl ?_
    refine v_scod hi (by decide +kernel) dJ0_coder_7d493_7 ?_
    refine v_goto (tgt := 14) dJ0_coder_7d493_10 (by decide) ?_
    exact v_iret rfl dJ0_coder_7d493_14 (Nat.le_of_ble_eq_true rfl) (Nat.le_of_ble_eq_true rfl) rfl ⟨rfl, rfl, rfl⟩

set_option maxHeartbeats 4000000 in
set_option maxRecDepth 100000 in
theorem c_latin (G : sv_G) (h : sv_h) (z i : Nat) (hi : i < 14) : CT G mJ0_isLatin1_aae02 [.ref (G.2.2.2.2.1 (20 + i))] h z (fun v h1 z1 => v = some (.int 1) ∧ h1 = h ∧ z1 = z) := by
  refine CT.of (by decide +kernel) rfl rfl (Nat.le_of_ble_eq_true rfl) ?_
  refine v_scmp (by decide +kernel) dJ0_isLatin1_aae02_0 ?_
  refine v_if_eq (tgt := 17) dJ0_isLatin1_aae02_3 (by decide) (fun c_3 => ?_) (fun c_3 => ?_)
  · exact absurd c_3 (by decide)
  · refine v_aload_n dJ0_isLatin1_aae02_6 rfl 0 rfl ?_
    refine v_scod hi (by decide +kernel) dJ0_isLatin1_aae02_7 ?_
    refine v_if_ne (tgt := 17) dJ0_isLatin1_aae02_10 (by decide) (fun c_10 => ?_) (fun c_10 => ?_)
    · exact absurd rfl c_10
    · refine v_iconst (v := 1) dJ0_isLatin1_aae02_13 (by decide) ?_
      refine v_goto (tgt := 18) dJ0_isLatin1_aae02_14 (by decide) ?_
      exact v_iret rfl dJ0_isLatin1_aae02_18 (Nat.le_of_ble_eq_true rfl) (Nat.le_of_ble_eq_true rfl) rfl ⟨rfl, rfl, rfl⟩

set_option maxHeartbeats 4000000 in
set_option maxRecDepth 100000 in
theorem c_length (G : sv_G) (h : sv_h) (z i : Nat) (hi : i < 14) : CT G mJ0_length_8abf5 [.ref (G.2.2.2.2.1 (20 + i))] h z (fun v h1 z1 => v = some (.int (nI (wl i))) ∧ h1 = h ∧ z1 = z) := by
  refine CT.of (by decide +kernel) rfl rfl (Nat.le_of_ble_eq_true rfl) ?_
  refine v_aload_n dJ0_length_8abf5_0 rfl 0 rfl ?_
  refine v_sval hi (by decide +kernel) dJ0_length_8abf5_1 ?_
  refine v_blen hi dJ0_length_8abf5_4 ?_
  refine v_aload_n dJ0_length_8abf5_5 rfl 0 rfl ?_
  refine v_callO (M' := mJ0_coder_7d493) (n := 0) (As := []) gJ0_length_8abf5_J0_coder_7d493 rfl (by decide +kernel) ⟨(Nat.le_of_ble_eq_true rfl), (Nat.le_of_ble_eq_true rfl)⟩ dJ0_length_8abf5_6 rfl ⟨(Nat.le_of_ble_eq_true rfl), (Nat.le_of_ble_eq_true rfl)⟩ (Nat.le_of_ble_eq_true rfl) (fun s Z9 => (Z9.2.1 i hi).1) rfl (c_coder G _ _ i hi) (fun v h1 z1 hq => v_pq hq ?_)
  refine v_ishr dJ0_length_8abf5_9 ?_
  exact v_iret rfl dJ0_length_8abf5_10 (Nat.le_of_ble_eq_true rfl) (Nat.le_of_ble_eq_true rfl) rfl ⟨congrArg (fun q => some (Value.int q)) (wl_shr i hi), rfl, rfl⟩

set_option maxHeartbeats 4000000 in
set_option maxRecDepth 100000 in
theorem c_chk3n (G : sv_G) (h : sv_h) (z q N : Nat) (hql : q < N) (hN : N < 600) : CT G mJ3_checkIndex_8e157 [.int (nI q), .int (nI N), .null] h z (fun v h1 z1 => v = some (.int (nI q)) ∧ h1 = h ∧ z1 = z) := by
  refine CT.of (by decide +kernel) rfl rfl (Nat.le_of_ble_eq_true rfl) ?_
  refine v_iload_n dJ3_checkIndex_8e157_0 rfl 0 rfl ?_
  refine v_if_lt (tgt := 9) dJ3_checkIndex_8e157_1 (by decide) (fun c_1 => ?_) (fun c_1 => ?_)
  · exact absurd c_1 (nI_pos (by omega))
  · refine v_iload_n dJ3_checkIndex_8e157_4 rfl 0 rfl ?_
    refine v_iload_n dJ3_checkIndex_8e157_5 rfl 1 rfl ?_
    refine v_icmp_lt (tgt := 16) dJ3_checkIndex_8e157_6 (by decide) (fun c_6 => ?_) (fun c_6 => ?_)
    · refine v_iload_n dJ3_checkIndex_8e157_16 rfl 0 rfl ?_
      exact v_iret rfl dJ3_checkIndex_8e157_17 (Nat.le_of_ble_eq_true rfl) (Nat.le_of_ble_eq_true rfl) rfl ⟨rfl, rfl, rfl⟩
    · exact absurd (nI_lt hql (by omega)) c_6

set_option maxHeartbeats 4000000 in
set_option maxRecDepth 100000 in
theorem c_chk3r (G : sv_G) (h : sv_h) (z q N : Nat) (t : Nat) (hql : q < N) (hN : N < 600) : CT G mJ3_checkIndex_8e157 [.int (nI q), .int (nI N), .ref t] h z (fun v h1 z1 => v = some (.int (nI q)) ∧ h1 = h ∧ z1 = z) := by
  refine CT.of (by decide +kernel) rfl rfl (Nat.le_of_ble_eq_true rfl) ?_
  refine v_iload_n dJ3_checkIndex_8e157_0 rfl 0 rfl ?_
  refine v_if_lt (tgt := 9) dJ3_checkIndex_8e157_1 (by decide) (fun c_1 => ?_) (fun c_1 => ?_)
  · exact absurd c_1 (nI_pos (by omega))
  · refine v_iload_n dJ3_checkIndex_8e157_4 rfl 0 rfl ?_
    refine v_iload_n dJ3_checkIndex_8e157_5 rfl 1 rfl ?_
    refine v_icmp_lt (tgt := 16) dJ3_checkIndex_8e157_6 (by decide) (fun c_6 => ?_) (fun c_6 => ?_)
    · refine v_iload_n dJ3_checkIndex_8e157_16 rfl 0 rfl ?_
      exact v_iret rfl dJ3_checkIndex_8e157_17 (Nat.le_of_ble_eq_true rfl) (Nat.le_of_ble_eq_true rfl) rfl ⟨rfl, rfl, rfl⟩
    · exact absurd (nI_lt hql (by omega)) c_6

theorem c_chk3 (G : sv_G) (h : sv_h) (z q N : Nat) (v0 : Value) (hv0 : v0 = .null ∨ ∃ t, v0 = .ref t) (hql : q < N) (hN : N < 600) : CT G mJ3_checkIndex_8e157 [.int (nI q), .int (nI N), v0] h z (fun v h1 z1 => v = some (.int (nI q)) ∧ h1 = h ∧ z1 = z) := by
  rcases hv0 with rfl | ⟨t, rfl⟩
  · exact c_chk3n G h z q N hql hN
  · exact c_chk3r G h z q N t hql hN
set_option maxHeartbeats 4000000 in
set_option maxRecDepth 100000 in
theorem c_chk0 (G : sv_G) (h : sv_h) (z q N : Nat) (hql : q < N) (hN : N < 600) : CT G mJ0_checkIndex_df160 [.int (nI q), .int (nI N)] h z (fun v h1 z1 => v = none ∧ h1 = h ∧ z1 = z) := by
  refine CT.of (by decide +kernel) rfl rfl (Nat.le_of_ble_eq_true rfl) ?_
  refine v_iload_n dJ0_checkIndex_df160_0 rfl 0 rfl ?_
  refine v_iload_n dJ0_checkIndex_df160_1 rfl 1 rfl ?_
  refine v_ssio (by decide +kernel) dJ0_checkIndex_df160_2 (fun v0 hv0 => ?_)
  refine v_callSq (M' := mJ3_checkIndex_8e157) (n := 3) (As := [_, _, _]) ggJ0_checkIndex_df160_J3_checkIndex_8e157 (by decide +kernel) (by decide +kernel) (by decide +kernel) rfl (by decide +kernel) ⟨(Nat.le_of_ble_eq_true rfl), (Nat.le_of_ble_eq_true rfl)⟩ dJ0_checkIndex_df160_5 rfl ⟨(Nat.le_of_ble_eq_true rfl), (Nat.le_of_ble_eq_true rfl)⟩ (Nat.le_of_ble_eq_true rfl) rfl (c_chk3 G _ _ q N v0 hv0 hql hN) (fun v h1 z1 hq => v_pq hq ?_)
  refine v_pop dJ0_checkIndex_df160_8 rfl ?_
  exact v_ret rfl dJ0_checkIndex_df160_9 (Nat.le_of_ble_eq_true rfl) (Nat.le_of_ble_eq_true rfl) ⟨rfl, rfl, rfl⟩

set_option maxHeartbeats 4000000 in
set_option maxRecDepth 100000 in
theorem c_char1 (G : sv_G) (h : sv_h) (z i q : Nat) (hi : i < 14) (hql : q < wl i) : CT G mJ1_charAt_3b067 [.ref (G.2.2.2.2.1 (40 + i)), .int (nI q)] h z (fun v h1 z1 => v = some (.int (wc i q)) ∧ h1 = h ∧ z1 = z) := by
  refine CT.of (by decide +kernel) rfl rfl (Nat.le_of_ble_eq_true rfl) ?_
  refine v_iload_n dJ1_charAt_3b067_0 rfl 1 rfl ?_
  refine v_aload_n dJ1_charAt_3b067_1 rfl 0 rfl ?_
  refine v_blen hi dJ1_charAt_3b067_2 ?_
  refine v_callSq (M' := mJ0_checkIndex_df160) (n := 2) (As := [_, _]) ggJ1_charAt_3b067_J0_checkIndex_df160 (by decide +kernel) (by decide +kernel) (by decide +kernel) rfl (by decide +kernel) ⟨(Nat.le_of_ble_eq_true rfl), (Nat.le_of_ble_eq_true rfl)⟩ dJ1_charAt_3b067_3 rfl ⟨(Nat.le_of_ble_eq_true rfl), (Nat.le_of_ble_eq_true rfl)⟩ (Nat.le_of_ble_eq_true rfl) rfl (c_chk0 G _ _ q (wl i) hql (by have := (wl_8 i hi).1; omega)) (fun v h1 z1 hq9 => ?_)
  obtain ⟨rfl, rfl, rfl⟩ := hq9
  refine v_aload_n dJ1_charAt_3b067_6 rfl 0 rfl ?_
  refine v_iload_n dJ1_charAt_3b067_7 rfl 1 rfl ?_
  refine v_bld (v := wc i q) hi (vp_in_nI hql (by have : (sv_wd.getD i []).length ≤ 8 := (wl_8 i hi).1; omega)) (by rw [nI_clamp (by have := (wl_8 i hi).1; omega)]) dJ1_charAt_3b067_8 ?_
  refine v_sipush (v := 255) dJ1_charAt_3b067_9 (by decide) ?_
  refine v_iand dJ1_charAt_3b067_12 ?_
  refine v_i2c dJ1_charAt_3b067_13 (wc_c i hi q hql) ?_
  exact v_iret rfl dJ1_charAt_3b067_14 (Nat.le_of_ble_eq_true rfl) (Nat.le_of_ble_eq_true rfl) (wc_n i hi q hql) ⟨rfl, rfl, rfl⟩

set_option maxHeartbeats 4000000 in
set_option maxRecDepth 100000 in
theorem c_charAt (G : sv_G) (h : sv_h) (z i q : Nat) (hi : i < 14) (hql : q < wl i) : CT G mJ0_charAt_5068e [.ref (G.2.2.2.2.1 (20 + i)), .int (nI q)] h z (fun v h1 z1 => v = some (.int (wc i q)) ∧ h1 = h ∧ z1 = z) := by
  refine CT.of (by decide +kernel) rfl rfl (Nat.le_of_ble_eq_true rfl) ?_
  refine v_aload_n dJ0_charAt_5068e_0 rfl 0 rfl ?_
  refine v_callO (M' := mJ0_isLatin1_aae02) (n := 0) (As := []) gJ0_charAt_5068e_J0_isLatin1_aae02 rfl (by decide +kernel) ⟨(Nat.le_of_ble_eq_true rfl), (Nat.le_of_ble_eq_true rfl)⟩ dJ0_charAt_5068e_1 rfl ⟨(Nat.le_of_ble_eq_true rfl), (Nat.le_of_ble_eq_true rfl)⟩ (Nat.le_of_ble_eq_true rfl) (fun s Z9 => (Z9.2.1 i hi).1) rfl (c_latin G _ _ i hi) (fun v h1 z1 hq => v_pq hq ?_)
  refine v_if_eq (tgt := 16) dJ0_charAt_5068e_4 (by decide) (fun c_4 => ?_) (fun c_4 => ?_)
  · exact absurd c_4 (by decide)
  · refine v_aload_n dJ0_charAt_5068e_7 rfl 0 rfl ?_
    refine v_sval hi (by decide +kernel) dJ0_charAt_5068e_8 ?_
    refine v_iload_n dJ0_charAt_5068e_11 rfl 1 rfl ?_
    refine v_callSq (M' := mJ1_charAt_3b067) (n := 2) (As := [_, _]) ggJ0_charAt_5068e_J1_charAt_3b067 (by decide +kernel) (by decide +kernel) (by decide +kernel) rfl (by decide +kernel) ⟨(Nat.le_of_ble_eq_true rfl), (Nat.le_of_ble_eq_true rfl)⟩ dJ0_charAt_5068e_12 rfl ⟨(Nat.le_of_ble_eq_true rfl), (Nat.le_of_ble_eq_true rfl)⟩ (Nat.le_of_ble_eq_true rfl) rfl (c_char1 G _ _ i q hi hql) (fun v h1 z1 hq => v_pq hq ?_)
    exact v_iret rfl dJ0_charAt_5068e_15 (Nat.le_of_ble_eq_true rfl) (Nat.le_of_ble_eq_true rfl) (wc_n i hi q hql) ⟨rfl, rfl, rfl⟩

