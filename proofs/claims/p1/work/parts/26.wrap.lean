theorem CT.ofH {G : sv_G} {M : sv_M} {av : List Value} {h : sv_h} {z : Nat} {Qr : Option Value → sv_h → Nat → Prop} {ws' : List Cond} (hy : plainName M.2.2.1.cls = true) (hw : M.2.2.2.1 = Cond.codeWith M.2.2.1 M.1 M.2.1 M.2.2.2.2.1 M.2.2.2.2.2.2 :: ws') (hn : (lg_sl av).length ≤ M.2.1)
    (body : V G M (sv_XQ G M Qr (fun _ _ _ => False)) 0 (lv_args 0 av) [] h z 0 0) : CT G M av h z Qr := by
  have hX : vx_Met G.1 M.2.2.1 M.2.2.2.1 M.2.2.2.2.2.1 (sv_Pc G av h z) (sv_Qc G Qr) (sv_XC G (fun _ _ _ => False)) M.2.2.2.2.2.1.cells M.2.2.2.2.2.1.slots (sv_A G) := by
    refine vx_ofWH (cc := M.1) (maxL := M.2.1) (ret := M.2.2.2.2.1) (hh := M.2.2.2.2.2.2) hy hw ?_
    intro p e s m args below meth c s₁ B hml hv
    obtain ⟨rfl, hH, hK, hZ⟩ := hv
    rw [lg_entry_eq]
    have hts := atoms_spec (ws := M.2.2.2.1) B.pre
    exact body p e s m _ below meth c s.heap [] _ ⟨B.exec, B.bytes, hml, findClass_of_methodNamed B.named, hts, B.returns, B.notSynchronized, (name_of_methodNamed B.named B.method).1, vx_table (x := M.2.2.1) B (hts _ (by rw [hw]; exact List.mem_cons_self))⟩ hK hZ va_S.rf hH (lv_entry av hn)
  intro p e ha hc hk s m args below hf happ hP hK
  obtain ⟨n, o, h1, h2, h3, h4⟩ := hX p e ha hc hk s m args below hf happ hP hK
  refine ⟨n, o, h1, h2, h3, ?_⟩
  rcases h4 with h4 | ⟨q, _, E, ce, L, ⟨⟨h', z', hF, _⟩, _⟩, _⟩
  · exact h4
  · exact hF.elim
/-- a static method with a table of handlers -/
theorem v_callSW {G : sv_G} {M M' : sv_M} {P : sv_P} {pc : Nat} {L : List (Nat × Value)} {S : List Value} {h : sv_h} {z ce sl index n : Nat} {As : List Value} {ws' : List Cond} {Qr : Option Value → sv_h → Nat → Prop} (hg : GoodIn M.2.2.2.1 (va_wsS M.2.2.1.cls index M'.2.2.1 M'.2.2.2.1)) (hw : M'.2.2.2.1 = Cond.codeWith M'.2.2.1 M'.1 M'.2.1 M'.2.2.2.2.1 M'.2.2.2.2.2.2 :: ws') (hd : M'.2.2.1.cls ≠ "java/lang/invoke/MethodHandle" ∧ M'.2.2.1.cls ≠ "java/lang/invoke/VarHandle" ∧ (parseMethodDescriptor M'.2.2.1.desc).map (fun d => d.parameters.length) = some n) (hR : M'.2.2.2.2.2.1.frames + 1 ≤ M.2.2.2.2.2.1.frames ∧ 8 + (M'.2.1 + 11) + M'.2.2.2.2.2.1.locals ≤ M.2.2.2.2.2.1.locals) (hdg : decode M.1 pc = .ok (.invokestatic index, 3)) (hn : As.length = n) (hf : ce + M'.2.2.2.2.2.1.cells ≤ M.2.2.2.2.2.1.cells ∧ sl + M'.2.2.2.2.2.1.slots ≤ M.2.2.2.2.2.1.slots) (hst : (S.map fun v => v.category).sum ≤ 8)
    {S0 : List Value} (hS0 : S0 = As.reverse ++ S) (ct : CT G M' As h z Qr) (kk : ∀ (v : Option Value) (h' : sv_h) (z' : Nat), Qr v h' z' → V G M P (pc + 3) L (v.toList ++ S) h' z' (ce + M'.2.2.2.2.2.1.cells) (sl + M'.2.2.2.2.2.1.slots)) : V G M P pc L S0 h z ce sl := by
  intro p e s m args below meth c H locs ls C K Z hS hH hl
  have hts := C.2.2.2.2.1
  refine sv_go (vx_runSW (As := As) (rest := S) ⟨C.1, C.2.1, C.2.2.1, C.2.2.2.1, hts⟩ ct (vx_cwSW n hts hg hw rfl rfl hd hR) ⟨sv_blind, sv_pre K Z hS hH⟩ rfl hn hl.1 hS0 (lv_room hst) hdg hf) hS ?_
  exact fun v h' z' H1 locs1 hq hH1 hS1 => kk v h' z' hq p e s m args below meth c H1 locs1 ls C K Z hS1 hH1 hl

abbrev mX12_count : sv_M := (cX12_count, 2, yX12_count, wsX12_count, (some .int), { frames := 100, cells := 6, slots := 100, locals := 5000 }, [])
def wvL_cell_ : List Cond := .codeWith yL_cell_ cL_cell_ 3 (some .int) [(0, 8, 11, 13)] :: ([.classLink RL 13 "java/lang/IllegalStateException", .methodLink RL 7 yX12_cell, .instanceMethod yX12_cell, .selects RX12 yX12_cell yX12_cell, .initialized RX12] ++ wsX12_cell)
theorem gaX12_cell : wsX12_cell.all goodWord = true := by decide +kernel
theorem gvL_cell_ : GoodIn wvL_cell_ (wsV RL 7 RX12 yX12_cell wsX12_cell) := goodIn_app (goodIn_of _ (by decide +kernel)) (goodIn_sub (fun w h => List.mem_cons_of_mem _ (List.mem_append_right _ h)) gaX12_cell)
abbrev mL_cell_ : sv_M := (cL_cell_, 3, yL_cell_, wvL_cell_, (some .int), { frames := 110, cells := 6, slots := 100, locals := 5200 }, [(0, 8, 11, 13)])
set_option maxHeartbeats 4000000 in
set_option maxRecDepth 100000 in
theorem w_cell_ (G : sv_G) (h : sv_h) (z b o : Nat) (fs : List Value) (f0 : Nat → Int64) (Qr : Option Value → sv_h → Nat → Prop) (Qx : String → sv_h → Nat → Prop) (hb : h b = some (.inr (10, fs))) (ho : h o = some (.inl (G.2.2.1 1, 1, .inr (.inl f0)))) (ct : CX G mX12_cell [.ref b] h z Qr Qx) (hQ : ∀ (v : Option Value) (h1 : sv_h) (z1 : Nat), Qr v h1 z1 → ∃ (w : Int32) (f : Nat → Int64), v = some (.int w) ∧ h1 o = some (.inl (G.2.2.1 1, 1, .inr (.inl f)))) (hX : ∀ (E : String) (h1 : sv_h) (z1 : Nat), Qx E h1 z1 → E = "java/lang/IllegalStateException") : CT G mL_cell_ [.ref b, .ref o] h z (fun v h1 z1 => (v = some (.int 0) ∧ ∃ (w : Int32) (h2 : sv_h) (g : Nat → Int64), Qr (some (.int w)) h2 z1 ∧ h1 o = some (.inl (G.2.2.1 1, 1, .inr (.inl g))) ∧ g 0 = w.toInt64 ∧ ∀ a, a ≠ o → h1 a = h2 a) ∨ (v = some (.int 1) ∧ Qx "java/lang/IllegalStateException" h1 z1)) := by
  refine CT.ofH (by decide +kernel) rfl (Nat.le_of_ble_eq_true rfl) ?_
  refine v_aload_n dL_cell__0 rfl 1 rfl ?_
  refine v_iconst (v := 0) dL_cell__1 (by decide) ?_
  refine v_aload_n dL_cell__2 rfl 0 rfl ?_
  refine v_callX (M' := mX12_cell) (n := 0) (As := []) (ci := 10) (r := (RX12, TX12, 13)) gvL_cell_ rfl (by decide +kernel) ⟨(Nat.le_of_ble_eq_true rfl), (Nat.le_of_ble_eq_true rfl)⟩ rfl rfl dL_cell__3 rfl ⟨(Nat.le_of_ble_eq_true rfl), (Nat.le_of_ble_eq_true rfl)⟩ (Nat.le_of_ble_eq_true rfl) hb rfl ct (fun v h1 z1 hq => ?_) (fun E h1 z1 hq => ?_)
  · obtain ⟨w, f, rfl, ho1⟩ := hQ _ _ _ hq
    refine v_i2l dL_cell__6 rfl ?_
    refine v_last dL_cell__7 (by repeat (first | (with_reducible refine sv_us.trans ?_; exact rfl) | with_reducible assumption | with_reducible refine (sv_un (by omega)).trans ?_)) (by rw [← nI_0]; exact vp_in_nI (by omega) (by omega)) ?_
    refine v_goto (tgt := 14) dL_cell__8 (by decide) ?_
    refine v_iconst (v := 0) dL_cell__14 (by decide) ?_
    exact v_xret (v_iret rfl dL_cell__15 (Nat.le_of_ble_eq_true rfl) (Nat.le_of_ble_eq_true rfl) rfl (Or.inl ⟨rfl, w, h1, _, hq, sv_us, by simp [vp_updL, sb_cl0], fun a ha => sv_un ha⟩))
  · obtain rfl := hX _ _ _ hq
    refine v_catch (hp := 11) [] 0 8 13 [] rfl (by decide +kernel) (by decide +kernel) ⟨by decide, by decide⟩ (by decide) (by decide +kernel) (fun q => ?_)
    refine v_astore_n (L' := [(2, _), (0, _), (1, _)]) dL_cell__11 rfl (Nat.le_of_ble_eq_true rfl) rfl ?_
    refine v_iconst (v := 1) dL_cell__12 (by decide) ?_
    exact v_xret (v_iret rfl dL_cell__13 (Nat.le_of_ble_eq_true rfl) (Nat.le_of_ble_eq_true rfl) rfl (Or.inr (⟨rfl, hq⟩)))

def wvL_polygon : List Cond := .codeWith yL_polygon cL_polygon 5 (some .int) [(0, 10, 13, 19), (0, 10, 17, 13)] :: ([.classLink RL 19 "java/lang/IndexOutOfBoundsException", .classLink RL 13 "java/lang/IllegalStateException", .methodLink RL 15 yX12_polygon, .instanceMethod yX12_polygon, .selects RX12 yX12_polygon yX12_polygon, .initialized RX12] ++ wsX12_polygon)
theorem gaX12_polygon : wsX12_polygon.all goodWord = true := by decide +kernel
theorem gvL_polygon : GoodIn wvL_polygon (wsV RL 15 RX12 yX12_polygon wsX12_polygon) := goodIn_app (goodIn_of _ (by decide +kernel)) (goodIn_sub (fun w h => List.mem_cons_of_mem _ (List.mem_append_right _ h)) gaX12_polygon)
abbrev mL_polygon : sv_M := (cL_polygon, 5, yL_polygon, wvL_polygon, (some .int), { frames := 110, cells := 6, slots := 100, locals := 5200 }, [(0, 10, 13, 19), (0, 10, 17, 13)])
set_option maxHeartbeats 4000000 in
set_option maxRecDepth 100000 in
theorem w_polygon (G : sv_G) (h : sv_h) (z b o : Nat) (a0 : Int32) (a1 : Int32) (fs : List Value) (f0 : Nat → Int64) (Qr : Option Value → sv_h → Nat → Prop) (Qx : String → sv_h → Nat → Prop) (hb : h b = some (.inr (10, fs))) (ho : h o = some (.inl (G.2.2.1 1, 1, .inr (.inl f0)))) (ct : CX G mX12_polygon [.ref b, .int a0, .int a1] h z Qr Qx) (hQ : ∀ (v : Option Value) (h1 : sv_h) (z1 : Nat), Qr v h1 z1 → ∃ (w : Int32) (f : Nat → Int64), v = some (.int w) ∧ h1 o = some (.inl (G.2.2.1 1, 1, .inr (.inl f)))) (hX : ∀ (E : String) (h1 : sv_h) (z1 : Nat), Qx E h1 z1 → E = "java/lang/IndexOutOfBoundsException" ∨ E = "java/lang/IllegalStateException") : CT G mL_polygon [.ref b, .int a0, .int a1, .ref o] h z (fun v h1 z1 => (v = some (.int 0) ∧ ∃ (w : Int32) (h2 : sv_h) (g : Nat → Int64), Qr (some (.int w)) h2 z1 ∧ h1 o = some (.inl (G.2.2.1 1, 1, .inr (.inl g))) ∧ g 0 = w.toInt64 ∧ ∀ a, a ≠ o → h1 a = h2 a) ∨ (v = some (.int 1) ∧ Qx "java/lang/IndexOutOfBoundsException" h1 z1) ∨ (v = some (.int 2) ∧ Qx "java/lang/IllegalStateException" h1 z1)) := by
  refine CT.ofH (by decide +kernel) rfl (Nat.le_of_ble_eq_true rfl) ?_
  refine v_aload_n dL_polygon_0 rfl 3 rfl ?_
  refine v_iconst (v := 0) dL_polygon_1 (by decide) ?_
  refine v_aload_n dL_polygon_2 rfl 0 rfl ?_
  refine v_iload_n dL_polygon_3 rfl 1 rfl ?_
  refine v_iload_n dL_polygon_4 rfl 2 rfl ?_
  refine v_callX (M' := mX12_polygon) (n := 2) (As := [_, _]) (ci := 10) (r := (RX12, TX12, 13)) gvL_polygon rfl (by decide +kernel) ⟨(Nat.le_of_ble_eq_true rfl), (Nat.le_of_ble_eq_true rfl)⟩ rfl rfl dL_polygon_5 rfl ⟨(Nat.le_of_ble_eq_true rfl), (Nat.le_of_ble_eq_true rfl)⟩ (Nat.le_of_ble_eq_true rfl) hb rfl ct (fun v h1 z1 hq => ?_) (fun E h1 z1 hq => ?_)
  · obtain ⟨w, f, rfl, ho1⟩ := hQ _ _ _ hq
    refine v_i2l dL_polygon_8 rfl ?_
    refine v_last dL_polygon_9 (by repeat (first | (with_reducible refine sv_us.trans ?_; exact rfl) | with_reducible assumption | with_reducible refine (sv_un (by omega)).trans ?_)) (by rw [← nI_0]; exact vp_in_nI (by omega) (by omega)) ?_
    refine v_goto (tgt := 21) dL_polygon_10 (by decide) ?_
    refine v_iconst (v := 0) dL_polygon_21 (by decide) ?_
    exact v_xret (v_iret rfl dL_polygon_22 (Nat.le_of_ble_eq_true rfl) (Nat.le_of_ble_eq_true rfl) rfl (Or.inl ⟨rfl, w, h1, _, hq, sv_us, by simp [vp_updL, sb_cl0], fun a ha => sv_un ha⟩))
  · rcases hX _ _ _ hq with rfl | rfl
    · refine v_catch (hp := 13) [] 0 10 19 [(0, 10, 17, 13)] rfl (by decide +kernel) (by decide +kernel) ⟨by decide, by decide⟩ (by decide) (by decide +kernel) (fun q => ?_)
      refine v_astore (L' := [(4, _), (0, _), (1, _), (2, _), (3, _)]) dL_polygon_13 (Nat.le_of_ble_eq_true rfl) rfl ?_
      refine v_iconst (v := 1) dL_polygon_15 (by decide) ?_
      exact v_xret (v_iret rfl dL_polygon_16 (Nat.le_of_ble_eq_true rfl) (Nat.le_of_ble_eq_true rfl) rfl (Or.inr (Or.inl ⟨rfl, hq⟩)))
    · refine v_catch (hp := 17) [(0, 10, 13, 19, "java/lang/IndexOutOfBoundsException")] 0 10 13 [] rfl (by decide +kernel) (by decide +kernel) ⟨by decide, by decide⟩ (by decide) (by decide +kernel) (fun q => ?_)
      refine v_astore (L' := [(4, _), (0, _), (1, _), (2, _), (3, _)]) dL_polygon_17 (Nat.le_of_ble_eq_true rfl) rfl ?_
      refine v_iconst (v := 2) dL_polygon_19 (by decide) ?_
      exact v_xret (v_iret rfl dL_polygon_20 (Nat.le_of_ble_eq_true rfl) (Nat.le_of_ble_eq_true rfl) rfl (Or.inr (Or.inr (⟨rfl, hq⟩))))

def wvL_corner : List Cond := .codeWith yL_corner cL_corner 8 (some .int) [(0, 20, 23, 19), (0, 20, 27, 13), (0, 20, 31, 25)] :: ([.classLink RL 19 "java/lang/IndexOutOfBoundsException", .classLink RL 13 "java/lang/IllegalStateException", .classLink RL 25 "java/lang/IllegalArgumentException", .methodLink RL 21 yX12_corner, .instanceMethod yX12_corner, .selects RX12 yX12_corner yX12_corner, .initialized RX12] ++ wsX12_corner)
theorem gaX12_corner : wsX12_corner.all goodWord = true := by decide +kernel
theorem gvL_corner : GoodIn wvL_corner (wsV RL 21 RX12 yX12_corner wsX12_corner) := goodIn_app (goodIn_of _ (by decide +kernel)) (goodIn_sub (fun w h => List.mem_cons_of_mem _ (List.mem_append_right _ h)) gaX12_corner)
abbrev mL_corner : sv_M := (cL_corner, 8, yL_corner, wvL_corner, (some .int), { frames := 110, cells := 6, slots := 100, locals := 5200 }, [(0, 20, 23, 19), (0, 20, 27, 13), (0, 20, 31, 25)])
set_option maxHeartbeats 4000000 in
set_option maxRecDepth 100000 in
theorem w_corner (G : sv_G) (h : sv_h) (z b o : Nat) (a0 : Int32) (a1 : Int64) (a2 : Int64) (fs : List Value) (f0 : Nat → Int64) (Qr : Option Value → sv_h → Nat → Prop) (Qx : String → sv_h → Nat → Prop) (hb : h b = some (.inr (10, fs))) (ho : h o = some (.inl (G.2.2.1 1, 1, .inr (.inl f0)))) (ct : CX G mX12_corner [.ref b, .int a0, .long a1, .long a2] h z Qr Qx) (hQ : ∀ (v : Option Value) (h1 : sv_h) (z1 : Nat), Qr v h1 z1 → ∃ (w : Int32) (f : Nat → Int64), v = some (.int w) ∧ h1 o = some (.inl (G.2.2.1 1, 1, .inr (.inl f)))) (hX : ∀ (E : String) (h1 : sv_h) (z1 : Nat), Qx E h1 z1 → E = "java/lang/IndexOutOfBoundsException" ∨ E = "java/lang/IllegalStateException" ∨ E = "java/lang/IllegalArgumentException") : CT G mL_corner [.ref b, .int a0, .long a1, .long a2, .ref o] h z (fun v h1 z1 => (v = some (.int 0) ∧ ∃ (w : Int32) (h2 : sv_h) (g : Nat → Int64), Qr (some (.int w)) h2 z1 ∧ h1 o = some (.inl (G.2.2.1 1, 1, .inr (.inl g))) ∧ g 0 = (if w = 0 then 0 else 1) ∧ ∀ a, a ≠ o → h1 a = h2 a) ∨ (v = some (.int 1) ∧ Qx "java/lang/IndexOutOfBoundsException" h1 z1) ∨ (v = some (.int 2) ∧ Qx "java/lang/IllegalStateException" h1 z1) ∨ (v = some (.int 3) ∧ Qx "java/lang/IllegalArgumentException" h1 z1)) := by
  refine CT.ofH (by decide +kernel) rfl (Nat.le_of_ble_eq_true rfl) ?_
  refine v_aload dL_corner_0 4 rfl ?_
  refine v_iconst (v := 0) dL_corner_2 (by decide) ?_
  refine v_aload_n dL_corner_3 rfl 0 rfl ?_
  refine v_iload_n dL_corner_4 rfl 1 rfl ?_
  refine v_lload_n dL_corner_5 rfl 2 rfl ?_
  refine v_lload dL_corner_6 3 rfl ?_
  refine v_callX (M' := mX12_corner) (n := 3) (As := [_, _, _]) (ci := 10) (r := (RX12, TX12, 13)) gvL_corner rfl (by decide +kernel) ⟨(Nat.le_of_ble_eq_true rfl), (Nat.le_of_ble_eq_true rfl)⟩ rfl rfl dL_corner_8 rfl ⟨(Nat.le_of_ble_eq_true rfl), (Nat.le_of_ble_eq_true rfl)⟩ (Nat.le_of_ble_eq_true rfl) hb rfl ct (fun v h1 z1 hq => ?_) (fun E h1 z1 hq => ?_)
  · obtain ⟨w, f, rfl, ho1⟩ := hQ _ _ _ hq
    refine v_if_eq (tgt := 18) dL_corner_11 (by decide) (fun c_11 => ?_) (fun c_11 => ?_)
    · refine v_lconst (v := 0) dL_corner_18 (by decide) ?_
      refine v_last dL_corner_19 (by repeat (first | (with_reducible refine sv_us.trans ?_; exact rfl) | with_reducible assumption | with_reducible refine (sv_un (by omega)).trans ?_)) (by rw [← nI_0]; exact vp_in_nI (by omega) (by omega)) ?_
      refine v_goto (tgt := 35) dL_corner_20 (by decide) ?_
      refine v_iconst (v := 0) dL_corner_35 (by decide) ?_
      exact v_xret (v_iret rfl dL_corner_36 (Nat.le_of_ble_eq_true rfl) (Nat.le_of_ble_eq_true rfl) rfl (Or.inl ⟨rfl, w, h1, _, hq, sv_us, by simp [vp_updL, sb_cl0, *], fun a ha => sv_un ha⟩))
    · refine v_lconst (v := 1) dL_corner_14 (by decide) ?_
      refine v_goto (tgt := 19) dL_corner_15 (by decide) ?_
      refine v_last dL_corner_19 (by repeat (first | (with_reducible refine sv_us.trans ?_; exact rfl) | with_reducible assumption | with_reducible refine (sv_un (by omega)).trans ?_)) (by rw [← nI_0]; exact vp_in_nI (by omega) (by omega)) ?_
      refine v_goto (tgt := 35) dL_corner_20 (by decide) ?_
      refine v_iconst (v := 0) dL_corner_35 (by decide) ?_
      exact v_xret (v_iret rfl dL_corner_36 (Nat.le_of_ble_eq_true rfl) (Nat.le_of_ble_eq_true rfl) rfl (Or.inl ⟨rfl, w, h1, _, hq, sv_us, by simp [vp_updL, sb_cl0, *], fun a ha => sv_un ha⟩))
  · rcases hX _ _ _ hq with rfl | rfl | rfl
    · refine v_catch (hp := 23) [] 0 20 19 [(0, 20, 27, 13), (0, 20, 31, 25)] rfl (by decide +kernel) (by decide +kernel) ⟨by decide, by decide⟩ (by decide) (by decide +kernel) (fun q => ?_)
      refine v_astore (L' := [(7, _), (0, _), (1, _), (2, _), (4, _), (6, _)]) dL_corner_23 (Nat.le_of_ble_eq_true rfl) rfl ?_
      refine v_iconst (v := 1) dL_corner_25 (by decide) ?_
      exact v_xret (v_iret rfl dL_corner_26 (Nat.le_of_ble_eq_true rfl) (Nat.le_of_ble_eq_true rfl) rfl (Or.inr (Or.inl ⟨rfl, hq⟩)))
    · refine v_catch (hp := 27) [(0, 20, 23, 19, "java/lang/IndexOutOfBoundsException")] 0 20 13 [(0, 20, 31, 25)] rfl (by decide +kernel) (by decide +kernel) ⟨by decide, by decide⟩ (by decide) (by decide +kernel) (fun q => ?_)
      refine v_astore (L' := [(7, _), (0, _), (1, _), (2, _), (4, _), (6, _)]) dL_corner_27 (Nat.le_of_ble_eq_true rfl) rfl ?_
      refine v_iconst (v := 2) dL_corner_29 (by decide) ?_
      exact v_xret (v_iret rfl dL_corner_30 (Nat.le_of_ble_eq_true rfl) (Nat.le_of_ble_eq_true rfl) rfl (Or.inr (Or.inr (Or.inl ⟨rfl, hq⟩))))
    · refine v_catch (hp := 31) [(0, 20, 23, 19, "java/lang/IndexOutOfBoundsException"), (0, 20, 27, 13, "java/lang/IllegalStateException")] 0 20 25 [] rfl (by decide +kernel) (by decide +kernel) ⟨by decide, by decide⟩ (by decide) (by decide +kernel) (fun q => ?_)
      refine v_astore (L' := [(7, _), (0, _), (1, _), (2, _), (4, _), (6, _)]) dL_corner_31 (Nat.le_of_ble_eq_true rfl) rfl ?_
      refine v_iconst (v := 3) dL_corner_33 (by decide) ?_
      exact v_xret (v_iret rfl dL_corner_34 (Nat.le_of_ble_eq_true rfl) (Nat.le_of_ble_eq_true rfl) rfl (Or.inr (Or.inr (Or.inr (⟨rfl, hq⟩)))))

def wvL_voltage : List Cond := .codeWith yL_voltage cL_voltage 6 (some .int) [(0, 18, 21, 19), (0, 18, 25, 25)] :: ([.classLink RL 19 "java/lang/IndexOutOfBoundsException", .classLink RL 25 "java/lang/IllegalArgumentException", .methodLink RL 27 yX12_voltage, .instanceMethod yX12_voltage, .selects RX12 yX12_voltage yX12_voltage, .initialized RX12] ++ wsX12_voltage)
theorem gaX12_voltage : wsX12_voltage.all goodWord = true := by decide +kernel
theorem gvL_voltage : GoodIn wvL_voltage (wsV RL 27 RX12 yX12_voltage wsX12_voltage) := goodIn_app (goodIn_of _ (by decide +kernel)) (goodIn_sub (fun w h => List.mem_cons_of_mem _ (List.mem_append_right _ h)) gaX12_voltage)
abbrev mL_voltage : sv_M := (cL_voltage, 6, yL_voltage, wvL_voltage, (some .int), { frames := 110, cells := 6, slots := 100, locals := 5200 }, [(0, 18, 21, 19), (0, 18, 25, 25)])
set_option maxHeartbeats 4000000 in
set_option maxRecDepth 100000 in
theorem w_voltage (G : sv_G) (h : sv_h) (z b o : Nat) (a0 : Int32) (a1 : Int64) (fs : List Value) (f0 : Nat → Int64) (Qr : Option Value → sv_h → Nat → Prop) (Qx : String → sv_h → Nat → Prop) (hb : h b = some (.inr (10, fs))) (ho : h o = some (.inl (G.2.2.1 1, 1, .inr (.inl f0)))) (ct : CX G mX12_voltage [.ref b, .int a0, .long a1] h z Qr Qx) (hQ : ∀ (v : Option Value) (h1 : sv_h) (z1 : Nat), Qr v h1 z1 → ∃ (w : Int32) (f : Nat → Int64), v = some (.int w) ∧ h1 o = some (.inl (G.2.2.1 1, 1, .inr (.inl f)))) (hX : ∀ (E : String) (h1 : sv_h) (z1 : Nat), Qx E h1 z1 → E = "java/lang/IndexOutOfBoundsException" ∨ E = "java/lang/IllegalArgumentException") : CT G mL_voltage [.ref b, .int a0, .long a1, .ref o] h z (fun v h1 z1 => (v = some (.int 0) ∧ ∃ (w : Int32) (h2 : sv_h) (g : Nat → Int64), Qr (some (.int w)) h2 z1 ∧ h1 o = some (.inl (G.2.2.1 1, 1, .inr (.inl g))) ∧ g 0 = (if w = 0 then 0 else 1) ∧ ∀ a, a ≠ o → h1 a = h2 a) ∨ (v = some (.int 1) ∧ Qx "java/lang/IndexOutOfBoundsException" h1 z1) ∨ (v = some (.int 2) ∧ Qx "java/lang/IllegalArgumentException" h1 z1)) := by
  refine CT.ofH (by decide +kernel) rfl (Nat.le_of_ble_eq_true rfl) ?_
  refine v_aload dL_voltage_0 3 rfl ?_
  refine v_iconst (v := 0) dL_voltage_2 (by decide) ?_
  refine v_aload_n dL_voltage_3 rfl 0 rfl ?_
  refine v_iload_n dL_voltage_4 rfl 1 rfl ?_
  refine v_lload_n dL_voltage_5 rfl 2 rfl ?_
  refine v_callX (M' := mX12_voltage) (n := 2) (As := [_, _]) (ci := 10) (r := (RX12, TX12, 13)) gvL_voltage rfl (by decide +kernel) ⟨(Nat.le_of_ble_eq_true rfl), (Nat.le_of_ble_eq_true rfl)⟩ rfl rfl dL_voltage_6 rfl ⟨(Nat.le_of_ble_eq_true rfl), (Nat.le_of_ble_eq_true rfl)⟩ (Nat.le_of_ble_eq_true rfl) hb rfl ct (fun v h1 z1 hq => ?_) (fun E h1 z1 hq => ?_)
  · obtain ⟨w, f, rfl, ho1⟩ := hQ _ _ _ hq
    refine v_if_eq (tgt := 16) dL_voltage_9 (by decide) (fun c_9 => ?_) (fun c_9 => ?_)
    · refine v_lconst (v := 0) dL_voltage_16 (by decide) ?_
      refine v_last dL_voltage_17 (by repeat (first | (with_reducible refine sv_us.trans ?_; exact rfl) | with_reducible assumption | with_reducible refine (sv_un (by omega)).trans ?_)) (by rw [← nI_0]; exact vp_in_nI (by omega) (by omega)) ?_
      refine v_goto (tgt := 29) dL_voltage_18 (by decide) ?_
      refine v_iconst (v := 0) dL_voltage_29 (by decide) ?_
      exact v_xret (v_iret rfl dL_voltage_30 (Nat.le_of_ble_eq_true rfl) (Nat.le_of_ble_eq_true rfl) rfl (Or.inl ⟨rfl, w, h1, _, hq, sv_us, by simp [vp_updL, sb_cl0, *], fun a ha => sv_un ha⟩))
    · refine v_lconst (v := 1) dL_voltage_12 (by decide) ?_
      refine v_goto (tgt := 17) dL_voltage_13 (by decide) ?_
      refine v_last dL_voltage_17 (by repeat (first | (with_reducible refine sv_us.trans ?_; exact rfl) | with_reducible assumption | with_reducible refine (sv_un (by omega)).trans ?_)) (by rw [← nI_0]; exact vp_in_nI (by omega) (by omega)) ?_
      refine v_goto (tgt := 29) dL_voltage_18 (by decide) ?_
      refine v_iconst (v := 0) dL_voltage_29 (by decide) ?_
      exact v_xret (v_iret rfl dL_voltage_30 (Nat.le_of_ble_eq_true rfl) (Nat.le_of_ble_eq_true rfl) rfl (Or.inl ⟨rfl, w, h1, _, hq, sv_us, by simp [vp_updL, sb_cl0, *], fun a ha => sv_un ha⟩))
  · rcases hX _ _ _ hq with rfl | rfl
    · refine v_catch (hp := 21) [] 0 18 19 [(0, 18, 25, 25)] rfl (by decide +kernel) (by decide +kernel) ⟨by decide, by decide⟩ (by decide) (by decide +kernel) (fun q => ?_)
      refine v_astore (L' := [(5, _), (0, _), (1, _), (2, _), (4, _)]) dL_voltage_21 (Nat.le_of_ble_eq_true rfl) rfl ?_
      refine v_iconst (v := 1) dL_voltage_23 (by decide) ?_
      exact v_xret (v_iret rfl dL_voltage_24 (Nat.le_of_ble_eq_true rfl) (Nat.le_of_ble_eq_true rfl) rfl (Or.inr (Or.inl ⟨rfl, hq⟩)))
    · refine v_catch (hp := 25) [(0, 18, 21, 19, "java/lang/IndexOutOfBoundsException")] 0 18 25 [] rfl (by decide +kernel) (by decide +kernel) ⟨by decide, by decide⟩ (by decide) (by decide +kernel) (fun q => ?_)
      refine v_astore (L' := [(5, _), (0, _), (1, _), (2, _), (4, _)]) dL_voltage_25 (Nat.le_of_ble_eq_true rfl) rfl ?_
      refine v_iconst (v := 2) dL_voltage_27 (by decide) ?_
      exact v_xret (v_iret rfl dL_voltage_28 (Nat.le_of_ble_eq_true rfl) (Nat.le_of_ble_eq_true rfl) rfl (Or.inr (Or.inr (⟨rfl, hq⟩))))

def wvL_place : List Cond := .codeWith yL_place cL_place 10 (some .int) [(0, 16, 19, 19), (0, 16, 23, 13), (0, 16, 27, 25)] :: ([.classLink RL 19 "java/lang/IndexOutOfBoundsException", .classLink RL 13 "java/lang/IllegalStateException", .classLink RL 25 "java/lang/IllegalArgumentException", .methodLink RL 31 yX12_place, .instanceMethod yX12_place, .selects RX12 yX12_place yX12_place, .initialized RX12] ++ wsX12_place)
theorem gaX12_place : wsX12_place.all goodWord = true := by decide +kernel
theorem gvL_place : GoodIn wvL_place (wsV RL 31 RX12 yX12_place wsX12_place) := goodIn_app (goodIn_of _ (by decide +kernel)) (goodIn_sub (fun w h => List.mem_cons_of_mem _ (List.mem_append_right _ h)) gaX12_place)
abbrev mL_place : sv_M := (cL_place, 10, yL_place, wvL_place, (some .int), { frames := 110, cells := 6, slots := 100, locals := 5200 }, [(0, 16, 19, 19), (0, 16, 23, 13), (0, 16, 27, 25)])
set_option maxHeartbeats 4000000 in
set_option maxRecDepth 100000 in
theorem w_place (G : sv_G) (h : sv_h) (z b o : Nat) (a0 : Int32) (a1 : Int32) (a2 : Int64) (a3 : Int64) (a4 : Int32) (fs : List Value) (f0 : Nat → Int64) (Qr : Option Value → sv_h → Nat → Prop) (Qx : String → sv_h → Nat → Prop) (hb : h b = some (.inr (10, fs))) (ho : h o = some (.inl (G.2.2.1 1, 1, .inr (.inl f0)))) (ct : CX G mX12_place [.ref b, .int a0, .int a1, .long a2, .long a3, .int a4] h z Qr Qx) (hQ : ∀ (v : Option Value) (h1 : sv_h) (z1 : Nat), Qr v h1 z1 → ∃ (w : Int32) (f : Nat → Int64), v = some (.int w) ∧ h1 o = some (.inl (G.2.2.1 1, 1, .inr (.inl f)))) (hX : ∀ (E : String) (h1 : sv_h) (z1 : Nat), Qx E h1 z1 → E = "java/lang/IndexOutOfBoundsException" ∨ E = "java/lang/IllegalStateException" ∨ E = "java/lang/IllegalArgumentException") : CT G mL_place [.ref b, .int a0, .int a1, .long a2, .long a3, .int a4, .ref o] h z (fun v h1 z1 => (v = some (.int 0) ∧ ∃ (w : Int32) (h2 : sv_h) (g : Nat → Int64), Qr (some (.int w)) h2 z1 ∧ h1 o = some (.inl (G.2.2.1 1, 1, .inr (.inl g))) ∧ g 0 = w.toInt64 ∧ ∀ a, a ≠ o → h1 a = h2 a) ∨ (v = some (.int 1) ∧ Qx "java/lang/IndexOutOfBoundsException" h1 z1) ∨ (v = some (.int 2) ∧ Qx "java/lang/IllegalStateException" h1 z1) ∨ (v = some (.int 3) ∧ Qx "java/lang/IllegalArgumentException" h1 z1)) := by
  refine CT.ofH (by decide +kernel) rfl (Nat.le_of_ble_eq_true rfl) ?_
  refine v_aload dL_place_0 6 rfl ?_
  refine v_iconst (v := 0) dL_place_2 (by decide) ?_
  refine v_aload_n dL_place_3 rfl 0 rfl ?_
  refine v_iload_n dL_place_4 rfl 1 rfl ?_
  refine v_iload_n dL_place_5 rfl 2 rfl ?_
  refine v_lload_n dL_place_6 rfl 3 rfl ?_
  refine v_lload dL_place_7 4 rfl ?_
  refine v_iload dL_place_9 5 rfl ?_
  refine v_callX (M' := mX12_place) (n := 5) (As := [_, _, _, _, _]) (ci := 10) (r := (RX12, TX12, 13)) gvL_place rfl (by decide +kernel) ⟨(Nat.le_of_ble_eq_true rfl), (Nat.le_of_ble_eq_true rfl)⟩ rfl rfl dL_place_11 rfl ⟨(Nat.le_of_ble_eq_true rfl), (Nat.le_of_ble_eq_true rfl)⟩ (Nat.le_of_ble_eq_true rfl) hb rfl ct (fun v h1 z1 hq => ?_) (fun E h1 z1 hq => ?_)
  · obtain ⟨w, f, rfl, ho1⟩ := hQ _ _ _ hq
    refine v_i2l dL_place_14 rfl ?_
    refine v_last dL_place_15 (by repeat (first | (with_reducible refine sv_us.trans ?_; exact rfl) | with_reducible assumption | with_reducible refine (sv_un (by omega)).trans ?_)) (by rw [← nI_0]; exact vp_in_nI (by omega) (by omega)) ?_
    refine v_goto (tgt := 31) dL_place_16 (by decide) ?_
    refine v_iconst (v := 0) dL_place_31 (by decide) ?_
    exact v_xret (v_iret rfl dL_place_32 (Nat.le_of_ble_eq_true rfl) (Nat.le_of_ble_eq_true rfl) rfl (Or.inl ⟨rfl, w, h1, _, hq, sv_us, by simp [vp_updL, sb_cl0], fun a ha => sv_un ha⟩))
  · rcases hX _ _ _ hq with rfl | rfl | rfl
    · refine v_catch (hp := 19) [] 0 16 19 [(0, 16, 23, 13), (0, 16, 27, 25)] rfl (by decide +kernel) (by decide +kernel) ⟨by decide, by decide⟩ (by decide) (by decide +kernel) (fun q => ?_)
      refine v_astore (L' := [(9, _), (0, _), (1, _), (2, _), (3, _), (5, _), (7, _), (8, _)]) dL_place_19 (Nat.le_of_ble_eq_true rfl) rfl ?_
      refine v_iconst (v := 1) dL_place_21 (by decide) ?_
      exact v_xret (v_iret rfl dL_place_22 (Nat.le_of_ble_eq_true rfl) (Nat.le_of_ble_eq_true rfl) rfl (Or.inr (Or.inl ⟨rfl, hq⟩)))
    · refine v_catch (hp := 23) [(0, 16, 19, 19, "java/lang/IndexOutOfBoundsException")] 0 16 13 [(0, 16, 27, 25)] rfl (by decide +kernel) (by decide +kernel) ⟨by decide, by decide⟩ (by decide) (by decide +kernel) (fun q => ?_)
      refine v_astore (L' := [(9, _), (0, _), (1, _), (2, _), (3, _), (5, _), (7, _), (8, _)]) dL_place_23 (Nat.le_of_ble_eq_true rfl) rfl ?_
      refine v_iconst (v := 2) dL_place_25 (by decide) ?_
      exact v_xret (v_iret rfl dL_place_26 (Nat.le_of_ble_eq_true rfl) (Nat.le_of_ble_eq_true rfl) rfl (Or.inr (Or.inr (Or.inl ⟨rfl, hq⟩))))
    · refine v_catch (hp := 27) [(0, 16, 19, 19, "java/lang/IndexOutOfBoundsException"), (0, 16, 23, 13, "java/lang/IllegalStateException")] 0 16 25 [] rfl (by decide +kernel) (by decide +kernel) ⟨by decide, by decide⟩ (by decide) (by decide +kernel) (fun q => ?_)
      refine v_astore (L' := [(9, _), (0, _), (1, _), (2, _), (3, _), (5, _), (7, _), (8, _)]) dL_place_27 (Nat.le_of_ble_eq_true rfl) rfl ?_
      refine v_iconst (v := 3) dL_place_29 (by decide) ?_
      exact v_xret (v_iret rfl dL_place_30 (Nat.le_of_ble_eq_true rfl) (Nat.le_of_ble_eq_true rfl) rfl (Or.inr (Or.inr (Or.inr (⟨rfl, hq⟩)))))

def wvL_run : List Cond := .codeWith yL_run cL_run 6 (some .int) [(0, 12, 15, 19), (0, 12, 19, 39)] :: ([.classLink RL 19 "java/lang/IndexOutOfBoundsException", .classLink RL 39 "java/lang/UnsupportedOperationException", .methodLink RL 35 yX12_run, .instanceMethod yX12_run, .selects RX12 yX12_run yX12_run, .initialized RX12] ++ wsX12_run)
theorem gaX12_run : wsX12_run.all goodWord = true := by decide +kernel
theorem gvL_run : GoodIn wvL_run (wsV RL 35 RX12 yX12_run wsX12_run) := goodIn_app (goodIn_of _ (by decide +kernel)) (goodIn_sub (fun w h => List.mem_cons_of_mem _ (List.mem_append_right _ h)) gaX12_run)
abbrev mL_run : sv_M := (cL_run, 6, yL_run, wvL_run, (some .int), { frames := 110, cells := 6, slots := 100, locals := 5200 }, [(0, 12, 15, 19), (0, 12, 19, 39)])
set_option maxHeartbeats 4000000 in
set_option maxRecDepth 100000 in
theorem w_run (G : sv_G) (h : sv_h) (z b o : Nat) (a0 : Int32) (a1 : Int32) (a2 : Int32) (fs : List Value) (f0 : Nat → Int64) (Qr : Option Value → sv_h → Nat → Prop) (Qx : String → sv_h → Nat → Prop) (hb : h b = some (.inr (10, fs))) (ho : h o = some (.inl (G.2.2.1 1, 1, .inr (.inl f0)))) (ct : CX G mX12_run [.ref b, .int a0, .int a1, .int a2] h z Qr Qx) (hQ : ∀ (v : Option Value) (h1 : sv_h) (z1 : Nat), Qr v h1 z1 → ∃ (w : Int32) (f : Nat → Int64), v = some (.int w) ∧ h1 o = some (.inl (G.2.2.1 1, 1, .inr (.inl f)))) (hX : ∀ (E : String) (h1 : sv_h) (z1 : Nat), Qx E h1 z1 → E = "java/lang/IndexOutOfBoundsException" ∨ E = "java/lang/UnsupportedOperationException") : CT G mL_run [.ref b, .int a0, .int a1, .int a2, .ref o] h z (fun v h1 z1 => (v = some (.int 0) ∧ ∃ (w : Int32) (h2 : sv_h) (g : Nat → Int64), Qr (some (.int w)) h2 z1 ∧ h1 o = some (.inl (G.2.2.1 1, 1, .inr (.inl g))) ∧ g 0 = w.toInt64 ∧ ∀ a, a ≠ o → h1 a = h2 a) ∨ (v = some (.int 1) ∧ Qx "java/lang/IndexOutOfBoundsException" h1 z1) ∨ (v = some (.int 2) ∧ Qx "java/lang/UnsupportedOperationException" h1 z1)) := by
  refine CT.ofH (by decide +kernel) rfl (Nat.le_of_ble_eq_true rfl) ?_
  refine v_aload dL_run_0 4 rfl ?_
  refine v_iconst (v := 0) dL_run_2 (by decide) ?_
  refine v_aload_n dL_run_3 rfl 0 rfl ?_
  refine v_iload_n dL_run_4 rfl 1 rfl ?_
  refine v_iload_n dL_run_5 rfl 2 rfl ?_
  refine v_iload_n dL_run_6 rfl 3 rfl ?_
  refine v_callX (M' := mX12_run) (n := 3) (As := [_, _, _]) (ci := 10) (r := (RX12, TX12, 13)) gvL_run rfl (by decide +kernel) ⟨(Nat.le_of_ble_eq_true rfl), (Nat.le_of_ble_eq_true rfl)⟩ rfl rfl dL_run_7 rfl ⟨(Nat.le_of_ble_eq_true rfl), (Nat.le_of_ble_eq_true rfl)⟩ (Nat.le_of_ble_eq_true rfl) hb rfl ct (fun v h1 z1 hq => ?_) (fun E h1 z1 hq => ?_)
  · obtain ⟨w, f, rfl, ho1⟩ := hQ _ _ _ hq
    refine v_i2l dL_run_10 rfl ?_
    refine v_last dL_run_11 (by repeat (first | (with_reducible refine sv_us.trans ?_; exact rfl) | with_reducible assumption | with_reducible refine (sv_un (by omega)).trans ?_)) (by rw [← nI_0]; exact vp_in_nI (by omega) (by omega)) ?_
    refine v_goto (tgt := 23) dL_run_12 (by decide) ?_
    refine v_iconst (v := 0) dL_run_23 (by decide) ?_
    exact v_xret (v_iret rfl dL_run_24 (Nat.le_of_ble_eq_true rfl) (Nat.le_of_ble_eq_true rfl) rfl (Or.inl ⟨rfl, w, h1, _, hq, sv_us, by simp [vp_updL, sb_cl0], fun a ha => sv_un ha⟩))
  · rcases hX _ _ _ hq with rfl | rfl
    · refine v_catch (hp := 15) [] 0 12 19 [(0, 12, 19, 39)] rfl (by decide +kernel) (by decide +kernel) ⟨by decide, by decide⟩ (by decide) (by decide +kernel) (fun q => ?_)
      refine v_astore (L' := [(5, _), (0, _), (1, _), (2, _), (3, _), (4, _)]) dL_run_15 (Nat.le_of_ble_eq_true rfl) rfl ?_
      refine v_iconst (v := 1) dL_run_17 (by decide) ?_
      exact v_xret (v_iret rfl dL_run_18 (Nat.le_of_ble_eq_true rfl) (Nat.le_of_ble_eq_true rfl) rfl (Or.inr (Or.inl ⟨rfl, hq⟩)))
    · refine v_catch (hp := 19) [(0, 12, 15, 19, "java/lang/IndexOutOfBoundsException")] 0 12 39 [] rfl (by decide +kernel) (by decide +kernel) ⟨by decide, by decide⟩ (by decide) (by decide +kernel) (fun q => ?_)
      refine v_astore (L' := [(5, _), (0, _), (1, _), (2, _), (3, _), (4, _)]) dL_run_19 (Nat.le_of_ble_eq_true rfl) rfl ?_
      refine v_iconst (v := 2) dL_run_21 (by decide) ?_
      exact v_xret (v_iret rfl dL_run_22 (Nat.le_of_ble_eq_true rfl) (Nat.le_of_ble_eq_true rfl) rfl (Or.inr (Or.inr (⟨rfl, hq⟩))))

def wvL_violation : List Cond := .codeWith yL_violation cL_violation 5 (some .int) [(0, 9, 12, 19)] :: ([.classLink RL 19 "java/lang/IndexOutOfBoundsException", .methodLink RL 41 yX12_violation, .instanceMethod yX12_violation, .selects RX12 yX12_violation yX12_violation, .initialized RX12] ++ wsX12_violation)
theorem gaX12_violation : wsX12_violation.all goodWord = true := by decide +kernel
theorem gvL_violation : GoodIn wvL_violation (wsV RL 41 RX12 yX12_violation wsX12_violation) := goodIn_app (goodIn_of _ (by decide +kernel)) (goodIn_sub (fun w h => List.mem_cons_of_mem _ (List.mem_append_right _ h)) gaX12_violation)
abbrev mL_violation : sv_M := (cL_violation, 5, yL_violation, wvL_violation, (some .int), { frames := 110, cells := 6, slots := 100, locals := 5200 }, [(0, 9, 12, 19)])
set_option maxHeartbeats 4000000 in
set_option maxRecDepth 100000 in
theorem w_violation (G : sv_G) (h : sv_h) (z b o : Nat) (a0 : Int32) (a1 : Int32) (fs : List Value) (f0 : Nat → Int64) (Qr : Option Value → sv_h → Nat → Prop) (Qx : String → sv_h → Nat → Prop) (hb : h b = some (.inr (10, fs))) (ho : h o = some (.inl (G.2.2.1 1, 1, .inr (.inl f0)))) (ct : CX G mX12_violation [.ref b, .int a0, .int a1] h z Qr Qx) (hQ : ∀ (v : Option Value) (h1 : sv_h) (z1 : Nat), Qr v h1 z1 → ∃ (w : Int64) (f : Nat → Int64), v = some (.long w) ∧ h1 o = some (.inl (G.2.2.1 1, 1, .inr (.inl f)))) (hX : ∀ (E : String) (h1 : sv_h) (z1 : Nat), Qx E h1 z1 → E = "java/lang/IndexOutOfBoundsException") : CT G mL_violation [.ref b, .int a0, .int a1, .ref o] h z (fun v h1 z1 => (v = some (.int 0) ∧ ∃ (w : Int64) (h2 : sv_h) (g : Nat → Int64), Qr (some (.long w)) h2 z1 ∧ h1 o = some (.inl (G.2.2.1 1, 1, .inr (.inl g))) ∧ g 0 = w ∧ ∀ a, a ≠ o → h1 a = h2 a) ∨ (v = some (.int 1) ∧ Qx "java/lang/IndexOutOfBoundsException" h1 z1)) := by
  refine CT.ofH (by decide +kernel) rfl (Nat.le_of_ble_eq_true rfl) ?_
  refine v_aload_n dL_violation_0 rfl 3 rfl ?_
  refine v_iconst (v := 0) dL_violation_1 (by decide) ?_
  refine v_aload_n dL_violation_2 rfl 0 rfl ?_
  refine v_iload_n dL_violation_3 rfl 1 rfl ?_
  refine v_iload_n dL_violation_4 rfl 2 rfl ?_
  refine v_callX (M' := mX12_violation) (n := 2) (As := [_, _]) (ci := 10) (r := (RX12, TX12, 13)) gvL_violation rfl (by decide +kernel) ⟨(Nat.le_of_ble_eq_true rfl), (Nat.le_of_ble_eq_true rfl)⟩ rfl rfl dL_violation_5 rfl ⟨(Nat.le_of_ble_eq_true rfl), (Nat.le_of_ble_eq_true rfl)⟩ (Nat.le_of_ble_eq_true rfl) hb rfl ct (fun v h1 z1 hq => ?_) (fun E h1 z1 hq => ?_)
  · obtain ⟨w, f, rfl, ho1⟩ := hQ _ _ _ hq
    refine v_last dL_violation_8 (by repeat (first | (with_reducible refine sv_us.trans ?_; exact rfl) | with_reducible assumption | with_reducible refine (sv_un (by omega)).trans ?_)) (by rw [← nI_0]; exact vp_in_nI (by omega) (by omega)) ?_
    refine v_goto (tgt := 16) dL_violation_9 (by decide) ?_
    refine v_iconst (v := 0) dL_violation_16 (by decide) ?_
    exact v_xret (v_iret rfl dL_violation_17 (Nat.le_of_ble_eq_true rfl) (Nat.le_of_ble_eq_true rfl) rfl (Or.inl ⟨rfl, w, h1, _, hq, sv_us, by simp [vp_updL, sb_cl0], fun a ha => sv_un ha⟩))
  · obtain rfl := hX _ _ _ hq
    refine v_catch (hp := 12) [] 0 9 19 [] rfl (by decide +kernel) (by decide +kernel) ⟨by decide, by decide⟩ (by decide) (by decide +kernel) (fun q => ?_)
    refine v_astore (L' := [(4, _), (0, _), (1, _), (2, _), (3, _)]) dL_violation_12 (Nat.le_of_ble_eq_true rfl) rfl ?_
    refine v_iconst (v := 1) dL_violation_14 (by decide) ?_
    exact v_xret (v_iret rfl dL_violation_15 (Nat.le_of_ble_eq_true rfl) (Nat.le_of_ble_eq_true rfl) rfl (Or.inr (⟨rfl, hq⟩)))

def wvL_cellOf : List Cond := .codeWith yL_cellOf cL_cellOf 4 (some .int) [(0, 9, 12, 19)] :: ([.classLink RL 19 "java/lang/IndexOutOfBoundsException", .methodLink RL 45 yX12_cellOf, .instanceMethod yX12_cellOf, .selects RX12 yX12_cellOf yX12_cellOf, .initialized RX12] ++ wsX12_cellOf)
theorem gaX12_cellOf : wsX12_cellOf.all goodWord = true := by decide +kernel
theorem gvL_cellOf : GoodIn wvL_cellOf (wsV RL 45 RX12 yX12_cellOf wsX12_cellOf) := goodIn_app (goodIn_of _ (by decide +kernel)) (goodIn_sub (fun w h => List.mem_cons_of_mem _ (List.mem_append_right _ h)) gaX12_cellOf)
abbrev mL_cellOf : sv_M := (cL_cellOf, 4, yL_cellOf, wvL_cellOf, (some .int), { frames := 110, cells := 6, slots := 100, locals := 5200 }, [(0, 9, 12, 19)])
set_option maxHeartbeats 4000000 in
set_option maxRecDepth 100000 in
theorem w_cellOf (G : sv_G) (h : sv_h) (z b o : Nat) (a0 : Int32) (fs : List Value) (f0 : Nat → Int64) (Qr : Option Value → sv_h → Nat → Prop) (Qx : String → sv_h → Nat → Prop) (hb : h b = some (.inr (10, fs))) (ho : h o = some (.inl (G.2.2.1 1, 1, .inr (.inl f0)))) (ct : CX G mX12_cellOf [.ref b, .int a0] h z Qr Qx) (hQ : ∀ (v : Option Value) (h1 : sv_h) (z1 : Nat), Qr v h1 z1 → ∃ (w : Int32) (f : Nat → Int64), v = some (.int w) ∧ h1 o = some (.inl (G.2.2.1 1, 1, .inr (.inl f)))) (hX : ∀ (E : String) (h1 : sv_h) (z1 : Nat), Qx E h1 z1 → E = "java/lang/IndexOutOfBoundsException") : CT G mL_cellOf [.ref b, .int a0, .ref o] h z (fun v h1 z1 => (v = some (.int 0) ∧ ∃ (w : Int32) (h2 : sv_h) (g : Nat → Int64), Qr (some (.int w)) h2 z1 ∧ h1 o = some (.inl (G.2.2.1 1, 1, .inr (.inl g))) ∧ g 0 = w.toInt64 ∧ ∀ a, a ≠ o → h1 a = h2 a) ∨ (v = some (.int 1) ∧ Qx "java/lang/IndexOutOfBoundsException" h1 z1)) := by
  refine CT.ofH (by decide +kernel) rfl (Nat.le_of_ble_eq_true rfl) ?_
  refine v_aload_n dL_cellOf_0 rfl 2 rfl ?_
  refine v_iconst (v := 0) dL_cellOf_1 (by decide) ?_
  refine v_aload_n dL_cellOf_2 rfl 0 rfl ?_
  refine v_iload_n dL_cellOf_3 rfl 1 rfl ?_
  refine v_callX (M' := mX12_cellOf) (n := 1) (As := [_]) (ci := 10) (r := (RX12, TX12, 13)) gvL_cellOf rfl (by decide +kernel) ⟨(Nat.le_of_ble_eq_true rfl), (Nat.le_of_ble_eq_true rfl)⟩ rfl rfl dL_cellOf_4 rfl ⟨(Nat.le_of_ble_eq_true rfl), (Nat.le_of_ble_eq_true rfl)⟩ (Nat.le_of_ble_eq_true rfl) hb rfl ct (fun v h1 z1 hq => ?_) (fun E h1 z1 hq => ?_)
  · obtain ⟨w, f, rfl, ho1⟩ := hQ _ _ _ hq
    refine v_i2l dL_cellOf_7 rfl ?_
    refine v_last dL_cellOf_8 (by repeat (first | (with_reducible refine sv_us.trans ?_; exact rfl) | with_reducible assumption | with_reducible refine (sv_un (by omega)).trans ?_)) (by rw [← nI_0]; exact vp_in_nI (by omega) (by omega)) ?_
    refine v_goto (tgt := 15) dL_cellOf_9 (by decide) ?_
    refine v_iconst (v := 0) dL_cellOf_15 (by decide) ?_
    exact v_xret (v_iret rfl dL_cellOf_16 (Nat.le_of_ble_eq_true rfl) (Nat.le_of_ble_eq_true rfl) rfl (Or.inl ⟨rfl, w, h1, _, hq, sv_us, by simp [vp_updL, sb_cl0], fun a ha => sv_un ha⟩))
  · obtain rfl := hX _ _ _ hq
    refine v_catch (hp := 12) [] 0 9 19 [] rfl (by decide +kernel) (by decide +kernel) ⟨by decide, by decide⟩ (by decide) (by decide +kernel) (fun q => ?_)
    refine v_astore_n (L' := [(3, _), (0, _), (1, _), (2, _)]) dL_cellOf_12 rfl (Nat.le_of_ble_eq_true rfl) rfl ?_
    refine v_iconst (v := 1) dL_cellOf_13 (by decide) ?_
    exact v_xret (v_iret rfl dL_cellOf_14 (Nat.le_of_ble_eq_true rfl) (Nat.le_of_ble_eq_true rfl) rfl (Or.inr (⟨rfl, hq⟩)))

def wvL_waive : List Cond := .codeWith yL_waive cL_waive 4 (some .int) [(0, 16, 19, 19), (0, 16, 22, 13)] :: ([.classLink RL 19 "java/lang/IndexOutOfBoundsException", .classLink RL 13 "java/lang/IllegalStateException", .methodLink RL 49 yX12_waive, .instanceMethod yX12_waive, .selects RX12 yX12_waive yX12_waive, .initialized RX12] ++ wsX12_waive)
theorem gaX12_waive : wsX12_waive.all goodWord = true := by decide +kernel
theorem gvL_waive : GoodIn wvL_waive (wsV RL 49 RX12 yX12_waive wsX12_waive) := goodIn_app (goodIn_of _ (by decide +kernel)) (goodIn_sub (fun w h => List.mem_cons_of_mem _ (List.mem_append_right _ h)) gaX12_waive)
abbrev mL_waive : sv_M := (cL_waive, 4, yL_waive, wvL_waive, (some .int), { frames := 110, cells := 6, slots := 100, locals := 5200 }, [(0, 16, 19, 19), (0, 16, 22, 13)])
set_option maxHeartbeats 4000000 in
set_option maxRecDepth 100000 in
theorem w_waive (G : sv_G) (h : sv_h) (z b o : Nat) (a0 : Int32) (fs : List Value) (f0 : Nat → Int64) (Qr : Option Value → sv_h → Nat → Prop) (Qx : String → sv_h → Nat → Prop) (hb : h b = some (.inr (10, fs))) (ho : h o = some (.inl (G.2.2.1 1, 1, .inr (.inl f0)))) (ct : CX G mX12_waive [.ref b, .int a0] h z Qr Qx) (hQ : ∀ (v : Option Value) (h1 : sv_h) (z1 : Nat), Qr v h1 z1 → ∃ (w : Int32) (f : Nat → Int64), v = some (.int w) ∧ h1 o = some (.inl (G.2.2.1 1, 1, .inr (.inl f)))) (hX : ∀ (E : String) (h1 : sv_h) (z1 : Nat), Qx E h1 z1 → E = "java/lang/IndexOutOfBoundsException" ∨ E = "java/lang/IllegalStateException") : CT G mL_waive [.ref b, .int a0, .ref o] h z (fun v h1 z1 => (v = some (.int 0) ∧ ∃ (w : Int32) (h2 : sv_h) (g : Nat → Int64), Qr (some (.int w)) h2 z1 ∧ h1 o = some (.inl (G.2.2.1 1, 1, .inr (.inl g))) ∧ g 0 = (if w = 0 then 0 else 1) ∧ ∀ a, a ≠ o → h1 a = h2 a) ∨ (v = some (.int 1) ∧ Qx "java/lang/IndexOutOfBoundsException" h1 z1) ∨ (v = some (.int 2) ∧ Qx "java/lang/IllegalStateException" h1 z1)) := by
  refine CT.ofH (by decide +kernel) rfl (Nat.le_of_ble_eq_true rfl) ?_
  refine v_aload_n dL_waive_0 rfl 2 rfl ?_
  refine v_iconst (v := 0) dL_waive_1 (by decide) ?_
  refine v_aload_n dL_waive_2 rfl 0 rfl ?_
  refine v_iload_n dL_waive_3 rfl 1 rfl ?_
  refine v_callX (M' := mX12_waive) (n := 1) (As := [_]) (ci := 10) (r := (RX12, TX12, 13)) gvL_waive rfl (by decide +kernel) ⟨(Nat.le_of_ble_eq_true rfl), (Nat.le_of_ble_eq_true rfl)⟩ rfl rfl dL_waive_4 rfl ⟨(Nat.le_of_ble_eq_true rfl), (Nat.le_of_ble_eq_true rfl)⟩ (Nat.le_of_ble_eq_true rfl) hb rfl ct (fun v h1 z1 hq => ?_) (fun E h1 z1 hq => ?_)
  · obtain ⟨w, f, rfl, ho1⟩ := hQ _ _ _ hq
    refine v_if_eq (tgt := 14) dL_waive_7 (by decide) (fun c_7 => ?_) (fun c_7 => ?_)
    · refine v_lconst (v := 0) dL_waive_14 (by decide) ?_
      refine v_last dL_waive_15 (by repeat (first | (with_reducible refine sv_us.trans ?_; exact rfl) | with_reducible assumption | with_reducible refine (sv_un (by omega)).trans ?_)) (by rw [← nI_0]; exact vp_in_nI (by omega) (by omega)) ?_
      refine v_goto (tgt := 25) dL_waive_16 (by decide) ?_
      refine v_iconst (v := 0) dL_waive_25 (by decide) ?_
      exact v_xret (v_iret rfl dL_waive_26 (Nat.le_of_ble_eq_true rfl) (Nat.le_of_ble_eq_true rfl) rfl (Or.inl ⟨rfl, w, h1, _, hq, sv_us, by simp [vp_updL, sb_cl0, *], fun a ha => sv_un ha⟩))
    · refine v_lconst (v := 1) dL_waive_10 (by decide) ?_
      refine v_goto (tgt := 15) dL_waive_11 (by decide) ?_
      refine v_last dL_waive_15 (by repeat (first | (with_reducible refine sv_us.trans ?_; exact rfl) | with_reducible assumption | with_reducible refine (sv_un (by omega)).trans ?_)) (by rw [← nI_0]; exact vp_in_nI (by omega) (by omega)) ?_
      refine v_goto (tgt := 25) dL_waive_16 (by decide) ?_
      refine v_iconst (v := 0) dL_waive_25 (by decide) ?_
      exact v_xret (v_iret rfl dL_waive_26 (Nat.le_of_ble_eq_true rfl) (Nat.le_of_ble_eq_true rfl) rfl (Or.inl ⟨rfl, w, h1, _, hq, sv_us, by simp [vp_updL, sb_cl0, *], fun a ha => sv_un ha⟩))
  · rcases hX _ _ _ hq with rfl | rfl
    · refine v_catch (hp := 19) [] 0 16 19 [(0, 16, 22, 13)] rfl (by decide +kernel) (by decide +kernel) ⟨by decide, by decide⟩ (by decide) (by decide +kernel) (fun q => ?_)
      refine v_astore_n (L' := [(3, _), (0, _), (1, _), (2, _)]) dL_waive_19 rfl (Nat.le_of_ble_eq_true rfl) rfl ?_
      refine v_iconst (v := 1) dL_waive_20 (by decide) ?_
      exact v_xret (v_iret rfl dL_waive_21 (Nat.le_of_ble_eq_true rfl) (Nat.le_of_ble_eq_true rfl) rfl (Or.inr (Or.inl ⟨rfl, hq⟩)))
    · refine v_catch (hp := 22) [(0, 16, 19, 19, "java/lang/IndexOutOfBoundsException")] 0 16 13 [] rfl (by decide +kernel) (by decide +kernel) ⟨by decide, by decide⟩ (by decide) (by decide +kernel) (fun q => ?_)
      refine v_astore_n (L' := [(3, _), (0, _), (1, _), (2, _)]) dL_waive_22 rfl (Nat.le_of_ble_eq_true rfl) rfl ?_
      refine v_iconst (v := 2) dL_waive_23 (by decide) ?_
      exact v_xret (v_iret rfl dL_waive_24 (Nat.le_of_ble_eq_true rfl) (Nat.le_of_ble_eq_true rfl) rfl (Or.inr (Or.inr (⟨rfl, hq⟩))))

def wvL_changed : List Cond := .codeWith yL_changed cL_changed 11 (some .int) [(0, 15, 18, 13), (0, 15, 22, 25)] :: ([.classLink RL 13 "java/lang/IllegalStateException", .classLink RL 25 "java/lang/IllegalArgumentException", .methodLink RL 53 yX12_changed, .instanceMethod yX12_changed, .selects RX12 yX12_changed yX12_changed, .initialized RX12] ++ wsX12_changed)
theorem gaX12_changed : wsX12_changed.all goodWord = true := by decide +kernel
theorem gvL_changed : GoodIn wvL_changed (wsV RL 53 RX12 yX12_changed wsX12_changed) := goodIn_app (goodIn_of _ (by decide +kernel)) (goodIn_sub (fun w h => List.mem_cons_of_mem _ (List.mem_append_right _ h)) gaX12_changed)
abbrev mL_changed : sv_M := (cL_changed, 11, yL_changed, wvL_changed, (some .int), { frames := 110, cells := 6, slots := 100, locals := 5200 }, [(0, 15, 18, 13), (0, 15, 22, 25)])
set_option maxHeartbeats 4000000 in
set_option maxRecDepth 100000 in
theorem w_changed (G : sv_G) (h : sv_h) (z b o : Nat) (a0 : Int64) (a1 : Int64) (a2 : Int64) (a3 : Int64) (fs : List Value) (f0 : Nat → Int64) (Qr : Option Value → sv_h → Nat → Prop) (Qx : String → sv_h → Nat → Prop) (hb : h b = some (.inr (10, fs))) (ho : h o = some (.inl (G.2.2.1 1, 1, .inr (.inl f0)))) (ct : CX G mX12_changed [.ref b, .long a0, .long a1, .long a2, .long a3] h z Qr Qx) (hQ : ∀ (v : Option Value) (h1 : sv_h) (z1 : Nat), Qr v h1 z1 → ∃ (w : Int32) (f : Nat → Int64), v = some (.int w) ∧ h1 o = some (.inl (G.2.2.1 1, 1, .inr (.inl f)))) (hX : ∀ (E : String) (h1 : sv_h) (z1 : Nat), Qx E h1 z1 → E = "java/lang/IllegalStateException" ∨ E = "java/lang/IllegalArgumentException") : CT G mL_changed [.ref b, .long a0, .long a1, .long a2, .long a3, .ref o] h z (fun v h1 z1 => (v = some (.int 0) ∧ ∃ (w : Int32) (h2 : sv_h) (g : Nat → Int64), Qr (some (.int w)) h2 z1 ∧ h1 o = some (.inl (G.2.2.1 1, 1, .inr (.inl g))) ∧ g 0 = w.toInt64 ∧ ∀ a, a ≠ o → h1 a = h2 a) ∨ (v = some (.int 1) ∧ Qx "java/lang/IllegalStateException" h1 z1) ∨ (v = some (.int 2) ∧ Qx "java/lang/IllegalArgumentException" h1 z1)) := by
  refine CT.ofH (by decide +kernel) rfl (Nat.le_of_ble_eq_true rfl) ?_
  refine v_aload dL_changed_0 5 rfl ?_
  refine v_iconst (v := 0) dL_changed_2 (by decide) ?_
  refine v_aload_n dL_changed_3 rfl 0 rfl ?_
  refine v_lload_n dL_changed_4 rfl 1 rfl ?_
  refine v_lload_n dL_changed_5 rfl 2 rfl ?_
  refine v_lload dL_changed_6 3 rfl ?_
  refine v_lload dL_changed_8 4 rfl ?_
  refine v_callX (M' := mX12_changed) (n := 4) (As := [_, _, _, _]) (ci := 10) (r := (RX12, TX12, 13)) gvL_changed rfl (by decide +kernel) ⟨(Nat.le_of_ble_eq_true rfl), (Nat.le_of_ble_eq_true rfl)⟩ rfl rfl dL_changed_10 rfl ⟨(Nat.le_of_ble_eq_true rfl), (Nat.le_of_ble_eq_true rfl)⟩ (Nat.le_of_ble_eq_true rfl) hb rfl ct (fun v h1 z1 hq => ?_) (fun E h1 z1 hq => ?_)
  · obtain ⟨w, f, rfl, ho1⟩ := hQ _ _ _ hq
    refine v_i2l dL_changed_13 rfl ?_
    refine v_last dL_changed_14 (by repeat (first | (with_reducible refine sv_us.trans ?_; exact rfl) | with_reducible assumption | with_reducible refine (sv_un (by omega)).trans ?_)) (by rw [← nI_0]; exact vp_in_nI (by omega) (by omega)) ?_
    refine v_goto (tgt := 26) dL_changed_15 (by decide) ?_
    refine v_iconst (v := 0) dL_changed_26 (by decide) ?_
    exact v_xret (v_iret rfl dL_changed_27 (Nat.le_of_ble_eq_true rfl) (Nat.le_of_ble_eq_true rfl) rfl (Or.inl ⟨rfl, w, h1, _, hq, sv_us, by simp [vp_updL, sb_cl0], fun a ha => sv_un ha⟩))
  · rcases hX _ _ _ hq with rfl | rfl
    · refine v_catch (hp := 18) [] 0 15 13 [(0, 15, 22, 25)] rfl (by decide +kernel) (by decide +kernel) ⟨by decide, by decide⟩ (by decide) (by decide +kernel) (fun q => ?_)
      refine v_astore (L' := [(10, _), (0, _), (1, _), (3, _), (5, _), (7, _), (9, _)]) dL_changed_18 (Nat.le_of_ble_eq_true rfl) rfl ?_
      refine v_iconst (v := 1) dL_changed_20 (by decide) ?_
      exact v_xret (v_iret rfl dL_changed_21 (Nat.le_of_ble_eq_true rfl) (Nat.le_of_ble_eq_true rfl) rfl (Or.inr (Or.inl ⟨rfl, hq⟩)))
    · refine v_catch (hp := 22) [(0, 15, 18, 13, "java/lang/IllegalStateException")] 0 15 25 [] rfl (by decide +kernel) (by decide +kernel) ⟨by decide, by decide⟩ (by decide) (by decide +kernel) (fun q => ?_)
      refine v_astore (L' := [(10, _), (0, _), (1, _), (3, _), (5, _), (7, _), (9, _)]) dL_changed_22 (Nat.le_of_ble_eq_true rfl) rfl ?_
      refine v_iconst (v := 2) dL_changed_24 (by decide) ?_
      exact v_xret (v_iret rfl dL_changed_25 (Nat.le_of_ble_eq_true rfl) (Nat.le_of_ble_eq_true rfl) rfl (Or.inr (Or.inr (⟨rfl, hq⟩))))

def wvL_same : List Cond := .codeWith yL_same cL_same 5 (some .int) [(0, 17, 20, 19), (0, 17, 24, 39)] :: ([.classLink RL 19 "java/lang/IndexOutOfBoundsException", .classLink RL 39 "java/lang/UnsupportedOperationException", .methodLink RL 57 yX12_same, .instanceMethod yX12_same, .selects RX12 yX12_same yX12_same, .initialized RX12] ++ wsX12_same)
theorem gaX12_same : wsX12_same.all goodWord = true := by decide +kernel
theorem gvL_same : GoodIn wvL_same (wsV RL 57 RX12 yX12_same wsX12_same) := goodIn_app (goodIn_of _ (by decide +kernel)) (goodIn_sub (fun w h => List.mem_cons_of_mem _ (List.mem_append_right _ h)) gaX12_same)
abbrev mL_same : sv_M := (cL_same, 5, yL_same, wvL_same, (some .int), { frames := 110, cells := 6, slots := 100, locals := 5200 }, [(0, 17, 20, 19), (0, 17, 24, 39)])
set_option maxHeartbeats 4000000 in
set_option maxRecDepth 100000 in
theorem w_same (G : sv_G) (h : sv_h) (z b o : Nat) (a0 : Int32) (a1 : Int32) (fs : List Value) (f0 : Nat → Int64) (Qr : Option Value → sv_h → Nat → Prop) (Qx : String → sv_h → Nat → Prop) (hb : h b = some (.inr (10, fs))) (ho : h o = some (.inl (G.2.2.1 1, 1, .inr (.inl f0)))) (ct : CX G mX12_same [.ref b, .int a0, .int a1] h z Qr Qx) (hQ : ∀ (v : Option Value) (h1 : sv_h) (z1 : Nat), Qr v h1 z1 → ∃ (w : Int32) (f : Nat → Int64), v = some (.int w) ∧ h1 o = some (.inl (G.2.2.1 1, 1, .inr (.inl f)))) (hX : ∀ (E : String) (h1 : sv_h) (z1 : Nat), Qx E h1 z1 → E = "java/lang/IndexOutOfBoundsException" ∨ E = "java/lang/UnsupportedOperationException") : CT G mL_same [.ref b, .int a0, .int a1, .ref o] h z (fun v h1 z1 => (v = some (.int 0) ∧ ∃ (w : Int32) (h2 : sv_h) (g : Nat → Int64), Qr (some (.int w)) h2 z1 ∧ h1 o = some (.inl (G.2.2.1 1, 1, .inr (.inl g))) ∧ g 0 = (if w = 0 then 0 else 1) ∧ ∀ a, a ≠ o → h1 a = h2 a) ∨ (v = some (.int 1) ∧ Qx "java/lang/IndexOutOfBoundsException" h1 z1) ∨ (v = some (.int 2) ∧ Qx "java/lang/UnsupportedOperationException" h1 z1)) := by
  refine CT.ofH (by decide +kernel) rfl (Nat.le_of_ble_eq_true rfl) ?_
  refine v_aload_n dL_same_0 rfl 3 rfl ?_
  refine v_iconst (v := 0) dL_same_1 (by decide) ?_
  refine v_aload_n dL_same_2 rfl 0 rfl ?_
  refine v_iload_n dL_same_3 rfl 1 rfl ?_
  refine v_iload_n dL_same_4 rfl 2 rfl ?_
  refine v_callX (M' := mX12_same) (n := 2) (As := [_, _]) (ci := 10) (r := (RX12, TX12, 13)) gvL_same rfl (by decide +kernel) ⟨(Nat.le_of_ble_eq_true rfl), (Nat.le_of_ble_eq_true rfl)⟩ rfl rfl dL_same_5 rfl ⟨(Nat.le_of_ble_eq_true rfl), (Nat.le_of_ble_eq_true rfl)⟩ (Nat.le_of_ble_eq_true rfl) hb rfl ct (fun v h1 z1 hq => ?_) (fun E h1 z1 hq => ?_)
  · obtain ⟨w, f, rfl, ho1⟩ := hQ _ _ _ hq
    refine v_if_eq (tgt := 15) dL_same_8 (by decide) (fun c_8 => ?_) (fun c_8 => ?_)
    · refine v_lconst (v := 0) dL_same_15 (by decide) ?_
      refine v_last dL_same_16 (by repeat (first | (with_reducible refine sv_us.trans ?_; exact rfl) | with_reducible assumption | with_reducible refine (sv_un (by omega)).trans ?_)) (by rw [← nI_0]; exact vp_in_nI (by omega) (by omega)) ?_
      refine v_goto (tgt := 28) dL_same_17 (by decide) ?_
      refine v_iconst (v := 0) dL_same_28 (by decide) ?_
      exact v_xret (v_iret rfl dL_same_29 (Nat.le_of_ble_eq_true rfl) (Nat.le_of_ble_eq_true rfl) rfl (Or.inl ⟨rfl, w, h1, _, hq, sv_us, by simp [vp_updL, sb_cl0, *], fun a ha => sv_un ha⟩))
    · refine v_lconst (v := 1) dL_same_11 (by decide) ?_
      refine v_goto (tgt := 16) dL_same_12 (by decide) ?_
      refine v_last dL_same_16 (by repeat (first | (with_reducible refine sv_us.trans ?_; exact rfl) | with_reducible assumption | with_reducible refine (sv_un (by omega)).trans ?_)) (by rw [← nI_0]; exact vp_in_nI (by omega) (by omega)) ?_
      refine v_goto (tgt := 28) dL_same_17 (by decide) ?_
      refine v_iconst (v := 0) dL_same_28 (by decide) ?_
      exact v_xret (v_iret rfl dL_same_29 (Nat.le_of_ble_eq_true rfl) (Nat.le_of_ble_eq_true rfl) rfl (Or.inl ⟨rfl, w, h1, _, hq, sv_us, by simp [vp_updL, sb_cl0, *], fun a ha => sv_un ha⟩))
  · rcases hX _ _ _ hq with rfl | rfl
    · refine v_catch (hp := 20) [] 0 17 19 [(0, 17, 24, 39)] rfl (by decide +kernel) (by decide +kernel) ⟨by decide, by decide⟩ (by decide) (by decide +kernel) (fun q => ?_)
      refine v_astore (L' := [(4, _), (0, _), (1, _), (2, _), (3, _)]) dL_same_20 (Nat.le_of_ble_eq_true rfl) rfl ?_
      refine v_iconst (v := 1) dL_same_22 (by decide) ?_
      exact v_xret (v_iret rfl dL_same_23 (Nat.le_of_ble_eq_true rfl) (Nat.le_of_ble_eq_true rfl) rfl (Or.inr (Or.inl ⟨rfl, hq⟩)))
    · refine v_catch (hp := 24) [(0, 17, 20, 19, "java/lang/IndexOutOfBoundsException")] 0 17 39 [] rfl (by decide +kernel) (by decide +kernel) ⟨by decide, by decide⟩ (by decide) (by decide +kernel) (fun q => ?_)
      refine v_astore (L' := [(4, _), (0, _), (1, _), (2, _), (3, _)]) dL_same_24 (Nat.le_of_ble_eq_true rfl) rfl ?_
      refine v_iconst (v := 2) dL_same_26 (by decide) ?_
      exact v_xret (v_iret rfl dL_same_27 (Nat.le_of_ble_eq_true rfl) (Nat.le_of_ble_eq_true rfl) rfl (Or.inr (Or.inr (⟨rfl, hq⟩))))

def wvL_count : List Cond := .codeWith yL_count cL_count 4 (some .int) [(0, 9, 12, 19)] :: ([.classLink RL 19 "java/lang/IndexOutOfBoundsException", .methodLink RL 61 yX12_count, .instanceMethod yX12_count, .selects RX12 yX12_count yX12_count, .initialized RX12] ++ wsX12_count)
theorem gaX12_count : wsX12_count.all goodWord = true := by decide +kernel
theorem gvL_count : GoodIn wvL_count (wsV RL 61 RX12 yX12_count wsX12_count) := goodIn_app (goodIn_of _ (by decide +kernel)) (goodIn_sub (fun w h => List.mem_cons_of_mem _ (List.mem_append_right _ h)) gaX12_count)
abbrev mL_count : sv_M := (cL_count, 4, yL_count, wvL_count, (some .int), { frames := 110, cells := 6, slots := 100, locals := 5200 }, [(0, 9, 12, 19)])
set_option maxHeartbeats 4000000 in
set_option maxRecDepth 100000 in
theorem w_count (G : sv_G) (h : sv_h) (z b o : Nat) (a0 : Int32) (fs : List Value) (f0 : Nat → Int64) (Qr : Option Value → sv_h → Nat → Prop) (Qx : String → sv_h → Nat → Prop) (hb : h b = some (.inr (10, fs))) (ho : h o = some (.inl (G.2.2.1 1, 1, .inr (.inl f0)))) (ct : CX G mX12_count [.ref b, .int a0] h z Qr Qx) (hQ : ∀ (v : Option Value) (h1 : sv_h) (z1 : Nat), Qr v h1 z1 → ∃ (w : Int32) (f : Nat → Int64), v = some (.int w) ∧ h1 o = some (.inl (G.2.2.1 1, 1, .inr (.inl f)))) (hX : ∀ (E : String) (h1 : sv_h) (z1 : Nat), Qx E h1 z1 → E = "java/lang/IndexOutOfBoundsException") : CT G mL_count [.ref b, .int a0, .ref o] h z (fun v h1 z1 => (v = some (.int 0) ∧ ∃ (w : Int32) (h2 : sv_h) (g : Nat → Int64), Qr (some (.int w)) h2 z1 ∧ h1 o = some (.inl (G.2.2.1 1, 1, .inr (.inl g))) ∧ g 0 = w.toInt64 ∧ ∀ a, a ≠ o → h1 a = h2 a) ∨ (v = some (.int 1) ∧ Qx "java/lang/IndexOutOfBoundsException" h1 z1)) := by
  refine CT.ofH (by decide +kernel) rfl (Nat.le_of_ble_eq_true rfl) ?_
  refine v_aload_n dL_count_0 rfl 2 rfl ?_
  refine v_iconst (v := 0) dL_count_1 (by decide) ?_
  refine v_aload_n dL_count_2 rfl 0 rfl ?_
  refine v_iload_n dL_count_3 rfl 1 rfl ?_
  refine v_callX (M' := mX12_count) (n := 1) (As := [_]) (ci := 10) (r := (RX12, TX12, 13)) gvL_count rfl (by decide +kernel) ⟨(Nat.le_of_ble_eq_true rfl), (Nat.le_of_ble_eq_true rfl)⟩ rfl rfl dL_count_4 rfl ⟨(Nat.le_of_ble_eq_true rfl), (Nat.le_of_ble_eq_true rfl)⟩ (Nat.le_of_ble_eq_true rfl) hb rfl ct (fun v h1 z1 hq => ?_) (fun E h1 z1 hq => ?_)
  · obtain ⟨w, f, rfl, ho1⟩ := hQ _ _ _ hq
    refine v_i2l dL_count_7 rfl ?_
    refine v_last dL_count_8 (by repeat (first | (with_reducible refine sv_us.trans ?_; exact rfl) | with_reducible assumption | with_reducible refine (sv_un (by omega)).trans ?_)) (by rw [← nI_0]; exact vp_in_nI (by omega) (by omega)) ?_
    refine v_goto (tgt := 15) dL_count_9 (by decide) ?_
    refine v_iconst (v := 0) dL_count_15 (by decide) ?_
    exact v_xret (v_iret rfl dL_count_16 (Nat.le_of_ble_eq_true rfl) (Nat.le_of_ble_eq_true rfl) rfl (Or.inl ⟨rfl, w, h1, _, hq, sv_us, by simp [vp_updL, sb_cl0], fun a ha => sv_un ha⟩))
  · obtain rfl := hX _ _ _ hq
    refine v_catch (hp := 12) [] 0 9 19 [] rfl (by decide +kernel) (by decide +kernel) ⟨by decide, by decide⟩ (by decide) (by decide +kernel) (fun q => ?_)
    refine v_astore_n (L' := [(3, _), (0, _), (1, _), (2, _)]) dL_count_12 rfl (Nat.le_of_ble_eq_true rfl) rfl ?_
    refine v_iconst (v := 1) dL_count_13 (by decide) ?_
    exact v_xret (v_iret rfl dL_count_14 (Nat.le_of_ble_eq_true rfl) (Nat.le_of_ble_eq_true rfl) rfl (Or.inr (⟨rfl, hq⟩)))

def wvL_occurrences : List Cond := .codeWith yL_occurrences cL_occurrences 4 (some .int) [(0, 9, 12, 19), (0, 9, 15, 39)] :: ([.classLink RL 19 "java/lang/IndexOutOfBoundsException", .classLink RL 39 "java/lang/UnsupportedOperationException", .methodLink RL 64 yX12_occurrences, .instanceMethod yX12_occurrences, .selects RX12 yX12_occurrences yX12_occurrences, .initialized RX12] ++ wsX12_occurrences)
theorem gaX12_occurrences : wsX12_occurrences.all goodWord = true := by decide +kernel
theorem gvL_occurrences : GoodIn wvL_occurrences (wsV RL 64 RX12 yX12_occurrences wsX12_occurrences) := goodIn_app (goodIn_of _ (by decide +kernel)) (goodIn_sub (fun w h => List.mem_cons_of_mem _ (List.mem_append_right _ h)) gaX12_occurrences)
abbrev mL_occurrences : sv_M := (cL_occurrences, 4, yL_occurrences, wvL_occurrences, (some .int), { frames := 110, cells := 6, slots := 100, locals := 5200 }, [(0, 9, 12, 19), (0, 9, 15, 39)])
set_option maxHeartbeats 4000000 in
set_option maxRecDepth 100000 in
theorem w_occurrences (G : sv_G) (h : sv_h) (z b o : Nat) (a0 : Int32) (fs : List Value) (f0 : Nat → Int64) (Qr : Option Value → sv_h → Nat → Prop) (Qx : String → sv_h → Nat → Prop) (hb : h b = some (.inr (10, fs))) (ho : h o = some (.inl (G.2.2.1 1, 1, .inr (.inl f0)))) (ct : CX G mX12_occurrences [.ref b, .int a0] h z Qr Qx) (hQ : ∀ (v : Option Value) (h1 : sv_h) (z1 : Nat), Qr v h1 z1 → ∃ (w : Int32) (f : Nat → Int64), v = some (.int w) ∧ h1 o = some (.inl (G.2.2.1 1, 1, .inr (.inl f)))) (hX : ∀ (E : String) (h1 : sv_h) (z1 : Nat), Qx E h1 z1 → E = "java/lang/IndexOutOfBoundsException" ∨ E = "java/lang/UnsupportedOperationException") : CT G mL_occurrences [.ref b, .int a0, .ref o] h z (fun v h1 z1 => (v = some (.int 0) ∧ ∃ (w : Int32) (h2 : sv_h) (g : Nat → Int64), Qr (some (.int w)) h2 z1 ∧ h1 o = some (.inl (G.2.2.1 1, 1, .inr (.inl g))) ∧ g 0 = w.toInt64 ∧ ∀ a, a ≠ o → h1 a = h2 a) ∨ (v = some (.int 1) ∧ Qx "java/lang/IndexOutOfBoundsException" h1 z1) ∨ (v = some (.int 2) ∧ Qx "java/lang/UnsupportedOperationException" h1 z1)) := by
  refine CT.ofH (by decide +kernel) rfl (Nat.le_of_ble_eq_true rfl) ?_
  refine v_aload_n dL_occurrences_0 rfl 2 rfl ?_
  refine v_iconst (v := 0) dL_occurrences_1 (by decide) ?_
  refine v_aload_n dL_occurrences_2 rfl 0 rfl ?_
  refine v_iload_n dL_occurrences_3 rfl 1 rfl ?_
  refine v_callX (M' := mX12_occurrences) (n := 1) (As := [_]) (ci := 10) (r := (RX12, TX12, 13)) gvL_occurrences rfl (by decide +kernel) ⟨(Nat.le_of_ble_eq_true rfl), (Nat.le_of_ble_eq_true rfl)⟩ rfl rfl dL_occurrences_4 rfl ⟨(Nat.le_of_ble_eq_true rfl), (Nat.le_of_ble_eq_true rfl)⟩ (Nat.le_of_ble_eq_true rfl) hb rfl ct (fun v h1 z1 hq => ?_) (fun E h1 z1 hq => ?_)
  · obtain ⟨w, f, rfl, ho1⟩ := hQ _ _ _ hq
    refine v_i2l dL_occurrences_7 rfl ?_
    refine v_last dL_occurrences_8 (by repeat (first | (with_reducible refine sv_us.trans ?_; exact rfl) | with_reducible assumption | with_reducible refine (sv_un (by omega)).trans ?_)) (by rw [← nI_0]; exact vp_in_nI (by omega) (by omega)) ?_
    refine v_goto (tgt := 18) dL_occurrences_9 (by decide) ?_
    refine v_iconst (v := 0) dL_occurrences_18 (by decide) ?_
    exact v_xret (v_iret rfl dL_occurrences_19 (Nat.le_of_ble_eq_true rfl) (Nat.le_of_ble_eq_true rfl) rfl (Or.inl ⟨rfl, w, h1, _, hq, sv_us, by simp [vp_updL, sb_cl0], fun a ha => sv_un ha⟩))
  · rcases hX _ _ _ hq with rfl | rfl
    · refine v_catch (hp := 12) [] 0 9 19 [(0, 9, 15, 39)] rfl (by decide +kernel) (by decide +kernel) ⟨by decide, by decide⟩ (by decide) (by decide +kernel) (fun q => ?_)
      refine v_astore_n (L' := [(3, _), (0, _), (1, _), (2, _)]) dL_occurrences_12 rfl (Nat.le_of_ble_eq_true rfl) rfl ?_
      refine v_iconst (v := 1) dL_occurrences_13 (by decide) ?_
      exact v_xret (v_iret rfl dL_occurrences_14 (Nat.le_of_ble_eq_true rfl) (Nat.le_of_ble_eq_true rfl) rfl (Or.inr (Or.inl ⟨rfl, hq⟩)))
    · refine v_catch (hp := 15) [(0, 9, 12, 19, "java/lang/IndexOutOfBoundsException")] 0 9 39 [] rfl (by decide +kernel) (by decide +kernel) ⟨by decide, by decide⟩ (by decide) (by decide +kernel) (fun q => ?_)
      refine v_astore_n (L' := [(3, _), (0, _), (1, _), (2, _)]) dL_occurrences_15 rfl (Nat.le_of_ble_eq_true rfl) rfl ?_
      refine v_iconst (v := 2) dL_occurrences_16 (by decide) ?_
      exact v_xret (v_iret rfl dL_occurrences_17 (Nat.le_of_ble_eq_true rfl) (Nat.le_of_ble_eq_true rfl) rfl (Or.inr (Or.inr (⟨rfl, hq⟩))))
