section SVC
theorem sv_K.warm {G : sv_G} {s U : State} (hW : s.WarmedH U.vm) (h : sv_K G s) : sv_K G U :=
  ⟨va_K.moved hW.alike h.1, fun q hq => va_Nw.warmM hW (h.2.1 q hq), va_Nw.warmF hW h.2.2.1, va_AO.moved hW.alike h.2.2.2.1, va_AO.moved hW.alike h.2.2.2.2.1, va_AO.moved hW.alike h.2.2.2.2.2.1, fun E hE => va_Nw.warmC hW (h.2.2.2.2.2.2.1 E hE), fun E hE F hF hn => (h.2.2.2.2.2.2.2.1 E hE F hF hn).moved hW.alike, fun y hy => va_Nw.warmD hW (h.2.2.2.2.2.2.2.2 y hy)⟩
theorem sv_K.same {G : sv_G} {s U : State} (hv : s.vm = U.vm) (h : sv_K G s) : sv_K G U := by
  have hA : s.vm.Alike U.vm := by rw [hv]; exact Vm.Alike.refl _
  exact ⟨va_K.moved hA h.1, fun q hq => va_Nw.same rfl hv (h.2.1 q hq), va_Nw.same rfl hv h.2.2.1, va_AO.moved hA h.2.2.2.1, va_AO.moved hA h.2.2.2.2.1, va_AO.moved hA h.2.2.2.2.2.1, fun E hE => va_Nw.same rfl hv (h.2.2.2.2.2.2.1 E hE), fun E hE F hF hn => (h.2.2.2.2.2.2.2.1 E hE F hF hn).moved hA, fun y hy => va_Nw.same rfl hv (h.2.2.2.2.2.2.2.2 y hy)⟩
theorem sv_Z.warm {G : sv_G} {s U : State} {locs : List Loc} (hW : s.WarmedH U.vm) (hS : va_S (sv_A G) s.heap U.heap locs) (h : sv_Z G s) : sv_Z G U := by
  refine ⟨fun q hq => ((h.1 q hq).moved hW.alike).kept hS.2.1, ⟨(h.2.1.1.moved hW.alike).kept hS.2.1, (h.2.1.2.moved hW.alike).kept hS.2.1⟩, fun q hq => ?_, ?_, h.2.2.2.2.1, (h.2.2.2.2.2.1.moved hW.alike).kept hS.2.1, fun q hq => (h.2.2.2.2.2.2 q hq).warm hW⟩
  · obtain ⟨a, ha⟩ := h.2.2.1 q hq
    exact ⟨a, ha.warm hW⟩
  · have hx := h.2.2.2.1
    refine (hx.moved hW.alike).kept (hS.2.1 _ ?_ (Nat.not_le.mpr h.2.2.2.2.1))
    obtain ⟨scr, h1, -⟩ := hx
    exact (Array.getElem?_eq_some_iff.mp h1).1
theorem sv_Z.same {G : sv_G} {s U : State} (hv : s.vm = U.vm) (hh : s.heap = U.heap) (h : sv_Z G s) : sv_Z G U := by
  have hA : s.vm.Alike U.vm := by rw [hv]; exact Vm.Alike.refl _
  refine ⟨fun q hq => ?_, ⟨?_, ?_⟩, fun q hq => ?_, ?_, h.2.2.2.2.1, ?_, fun q hq => (h.2.2.2.2.2.2 q hq).same hv.symm⟩
  · rw [← hh]; exact (h.1 q hq).moved hA
  · rw [← hh]; exact h.2.1.1.moved hA
  · rw [← hh]; exact h.2.1.2.moved hA
  · obtain ⟨a, ha⟩ := h.2.2.1 q hq
    exact ⟨a, ha.same hv.symm⟩
  · rw [← hh]; exact h.2.2.2.1.moved hA
  · rw [← hh]; exact h.2.2.2.2.2.1.moved hA
def sv_Pc (G : sv_G) (av : List Value) (h : sv_h) (z : Nat) : Array Value → State → Prop := fun a U => a = av.toArray ∧ sv_H G h z U.heap ∧ sv_K G U ∧ sv_Z G U
/-- the contract of a method that returns: from arguments av and the heap h of z cells it comes to an answer, a heap and its size with Qr -/
def CT (G : sv_G) (M : sv_M) (av : List Value) (h : sv_h) (z : Nat) (Qr : Option Value → sv_h → Nat → Prop) : Prop :=
  Met G.1 M.2.2.1 M.2.2.2.1 M.2.2.2.2.2.1 (sv_Pc G av h z) (sv_Qc G Qr) M.2.2.2.2.2.1.cells M.2.2.2.2.2.1.slots (sv_A G)
theorem sv_blind {G : sv_G} {av : List Value} {h : sv_h} {z : Nat} : FrameBlind (sv_Pc G av h z) := fun a U g mk q => ⟨q.1, q.2.1, q.2.2.1.same rfl, q.2.2.2.same rfl rfl⟩
theorem CT.of {G : sv_G} {M : sv_M} {av : List Value} {h : sv_h} {z : Nat} {Qr : Option Value → sv_h → Nat → Prop} {ws' : List Cond} (hy : plainName M.2.2.1.cls = true) (hw : M.2.2.2.1 = Cond.code M.2.2.1 M.1 M.2.1 M.2.2.2.2.1 :: ws') (hh : M.2.2.2.2.2.2 = []) (hn : (lg_sl av).length ≤ M.2.1)
    (body : V G M (sv_MQ G M Qr) 0 (lv_args 0 av) [] h z 0 0) : CT G M av h z Qr := by
  refine Met.ofW (cc := M.1) (maxL := M.2.1) (ret := M.2.2.2.2.1) hy hw ?_
  intro p e s m args below meth c s₁ B hml hv
  obtain ⟨rfl, hH, hK, hZ⟩ := hv
  rw [lg_entry_eq]
  have ht : c.exceptionTable.toList = tableOf M.2.2.2.2.2.2 := by
    obtain ⟨meth9, c9, h1, h2, -, -, -, -, h7, -⟩ := Cond.code_spec B.named (atoms_spec (ws := M.2.2.2.1) B.pre _ (by rw [hw]; exact List.mem_cons_self))
    cases Option.some.inj (h1.symm.trans B.method)
    cases Option.some.inj (h2.symm.trans (Stand.of_body B).code)
    rw [Array.isEmpty_iff.mp h7, hh]
    rfl
  exact body p e s m _ below meth c s.heap [] _ ⟨B.exec, B.bytes, hml, findClass_of_methodNamed B.named, atoms_spec (ws := M.2.2.2.1) B.pre, B.returns, B.notSynchronized, (name_of_methodNamed B.named B.method).1, ht⟩ hK hZ va_S.rf hH (lv_entry av hn)
section Go
variable {p : Program} {e : Env} {R : Room} {s : State} {m : MethodId} {args : Array Value} {below : List Frame} {meth : Method} {c : Code} {H : Heap} {locs : List Loc} {cells slots mc ms pc : Nat} {Q : State → Prop} {ls : Array Slot} {st0 rest : List Value} {a : Array Value}
theorem sv_go {G : sv_G} {Qr : Option Value → sv_h → Nat → Prop} (hr : va_Run p G.1 e R s m args below meth c H locs cells slots mc ms (F0 m pc ls st0) rest (sv_Qc G Qr a) (sv_A G)) (hS : va_S (sv_A G) s.heap H locs)
    (kk : ∀ (v : Option Value) (h : sv_h) (z : Nat) (H1 : Heap) (locs1 : List Loc), Qr v h z → sv_H G h z H1 → va_S (sv_A G) s.heap H1 locs1 → W p G.1 e R s m args below meth c H1 locs1 (cells + mc) (slots + ms) Q (F0 m (pc + 3) ls (v.toList ++ rest))) : W p G.1 e R s m args below meth c H locs cells slots Q (F0 m pc ls st0) := by
  intro T hT X
  obtain ⟨v, st₀, t, T', L, h0, X', hL, e1, e2, ⟨⟨v', h, z, hv, hq, hH⟩, hz, hk⟩, st⟩ := hr T hT X
  cases hv
  rw [h0] at hz hk
  obtain ⟨t2, a1, b1⟩ := kk _ h z T'.heap (locs ++ L) hq (by rw [e1]; exact hH)
    ⟨Nat.le_trans hS.1 (by rw [e1]; exact hz), fun q h1 h2 => by rw [e1, hk q (Nat.lt_of_lt_of_le h1 hS.1) h2]; exact hS.2.1 q h1 h2, fun q hq => by
      rcases List.mem_append.mp hq with h | h
      · exact hS.2.2 q h
      · exact hL q h⟩ T' rfl X'
  exact ⟨t2, st t2 a1, b1⟩
end Go
variable {G : sv_G} {M M' : sv_M} {P : sv_P} {pc : Nat} {L : List (Nat × Value)} {S : List Value} {h : sv_h} {z ce sl index n : Nat} {As : List Value} {ws' : List Cond} {Qr : Option Value → sv_h → Nat → Prop}
theorem sv_pre {s : State} {H : Heap} {locs : List Loc} {av : List Value} (K : sv_K G s) (Z : sv_Z G s) (hS : va_S (sv_A G) s.heap H locs) (hH : sv_H G h z H) : ∀ U : State, U.heap = H → s.WarmedH U.vm → sv_Pc G av h z av.toArray U := fun U hU hW =>
  ⟨rfl, by rw [hU]; exact hH, K.warm hW, Z.warm (locs := locs) hW (by rw [hU]; exact hS)⟩
/-- a method of an own object -/
theorem v_callV {b ci : Nat} {fs : List Value} {r : vw_C} (hg : GoodIn M.2.2.2.1 (wsV M.2.2.1.cls index M'.2.2.1.cls M'.2.2.1 M'.2.2.2.1)) (hw : M'.2.2.2.1 = Cond.code M'.2.2.1 M'.1 M'.2.1 M'.2.2.2.2.1 :: ws') (hd : M'.2.2.1.cls = M'.2.2.1.cls ∧ M'.2.2.1.cls ≠ "java/lang/invoke/MethodHandle" ∧ M'.2.2.1.cls ≠ "java/lang/invoke/VarHandle" ∧ (parseMethodDescriptor M'.2.2.1.desc).map (fun d => d.parameters.length) = some n) (hR : M'.2.2.2.2.2.1.frames + 1 ≤ M.2.2.2.2.2.1.frames ∧ 8 + (M'.2.1 + 11) + M'.2.2.2.2.2.1.locals ≤ M.2.2.2.2.2.1.locals) (hc : vwCl[ci]? = some r) (hr : r.1 = M'.2.2.1.cls) (hdg : decode M.1 pc = .ok (.invokevirtual index, 3)) (hn : As.length = n) (hf : ce + M'.2.2.2.2.2.1.cells ≤ M.2.2.2.2.2.1.cells ∧ sl + M'.2.2.2.2.2.1.slots ≤ M.2.2.2.2.2.1.slots) (hst : (S.map fun v => v.category).sum ≤ 8) (hb : h b = some (.inr (ci, fs)))
    {S0 : List Value} (hS0 : S0 = As.reverse ++ .ref b :: S) (ct : CT G M' (.ref b :: As) h z Qr) (kk : ∀ (v : Option Value) (h' : sv_h) (z' : Nat), Qr v h' z' → V G M P (pc + 3) L (v.toList ++ S) h' z' (ce + M'.2.2.2.2.2.1.cells) (sl + M'.2.2.2.2.2.1.slots)) : V G M P pc L S0 h z ce sl := by
  intro p e s m args below meth c H locs ls C K Z hS hH hl
  obtain ⟨cell, g1, g2, g3⟩ := va_recv (q := r) K.1 (hH.get hb) hc (q0 := 0) rfl
  rw [hr] at g3
  refine sv_go (va_runV (As := As) (b := b) (rest := S) ⟨C.1, C.2.1, C.2.2.1, C.2.2.2.1, C.2.2.2.2.1⟩ ct (cwV n C.2.2.2.2.1 hg hw rfl rfl hd hR) ⟨sv_blind, ⟨cell, g1, g2, g3⟩, sv_pre K Z hS hH⟩ rfl hn hl.1 hS0 (lv_room hst) hdg hf) hS ?_
  exact fun v h' z' H1 locs1 hq hH1 hS1 => kk v h' z' hq p e s m args below meth c H1 locs1 ls C K Z hS1 hH1 hl
/-- a static method -/
theorem v_callS (hg : GoodIn M.2.2.2.1 M'.2.2.2.1) (hl1 : Cond.methodLink M.2.2.1.cls index M'.2.2.1 ∈ M.2.2.2.1) (hl2 : Cond.static M'.2.2.1 ∈ M.2.2.2.1) (hl3 : Cond.initialized M'.2.2.1.cls ∈ M.2.2.2.1) (hw : M'.2.2.2.1 = Cond.code M'.2.2.1 M'.1 M'.2.1 M'.2.2.2.2.1 :: ws') (hd : M'.2.2.1.cls ≠ "java/lang/invoke/MethodHandle" ∧ M'.2.2.1.cls ≠ "java/lang/invoke/VarHandle" ∧ (parseMethodDescriptor M'.2.2.1.desc).map (fun d => d.parameters.length) = some n) (hR : M'.2.2.2.2.2.1.frames + 1 ≤ M.2.2.2.2.2.1.frames ∧ 8 + (M'.2.1 + 11) + M'.2.2.2.2.2.1.locals ≤ M.2.2.2.2.2.1.locals) (hdg : decode M.1 pc = .ok (.invokestatic index, 3)) (hn : As.length = n) (hf : ce + M'.2.2.2.2.2.1.cells ≤ M.2.2.2.2.2.1.cells ∧ sl + M'.2.2.2.2.2.1.slots ≤ M.2.2.2.2.2.1.slots) (hst : (S.map fun v => v.category).sum ≤ 8)
    {S0 : List Value} (hS0 : S0 = As.reverse ++ S) (ct : CT G M' As h z Qr) (kk : ∀ (v : Option Value) (h' : sv_h) (z' : Nat), Qr v h' z' → V G M P (pc + 3) L (v.toList ++ S) h' z' (ce + M'.2.2.2.2.2.1.cells) (sl + M'.2.2.2.2.2.1.slots)) : V G M P pc L S0 h z ce sl := by
  intro p e s m args below meth c H locs ls C K Z hS hH hl
  have hts := C.2.2.2.2.1
  refine sv_go (va_runS (As := As) (rest := S) ⟨C.1, C.2.1, C.2.2.1, C.2.2.2.1, hts⟩ ct ⟨callB_of n hts hg hw rfl rfl (hts _ hl3) (hts _ hl1) hd hR, hts _ hl2⟩ ⟨sv_blind, sv_pre K Z hS hH⟩ rfl hn hl.1 hS0 (lv_room hst) hdg hf) hS ?_
  exact fun v h' z' H1 locs1 hq hH1 hS1 => kk v h' z' hq p e s m args below meth c H1 locs1 ls C K Z hS1 hH1 hl
/-- a constructor -/
theorem v_callI {b : Nat} (hg : GoodIn M.2.2.2.1 M'.2.2.2.1) (hl1 : Cond.methodLink M.2.2.1.cls index M'.2.2.1 ∈ M.2.2.2.1) (hl2 : Cond.instanceMethod M'.2.2.1 ∈ M.2.2.2.1) (hl3 : Cond.initialized M'.2.2.1.cls ∈ M.2.2.2.1) (hy : M'.2.2.1.name = "<init>") (hw : M'.2.2.2.1 = Cond.code M'.2.2.1 M'.1 M'.2.1 none :: ws') (hd : M'.2.2.1.cls ≠ "java/lang/invoke/MethodHandle" ∧ M'.2.2.1.cls ≠ "java/lang/invoke/VarHandle" ∧ (parseMethodDescriptor M'.2.2.1.desc).map (fun d => d.parameters.length) = some n) (hR : M'.2.2.2.2.2.1.frames + 1 ≤ M.2.2.2.2.2.1.frames ∧ 8 + (M'.2.1 + 11) + M'.2.2.2.2.2.1.locals ≤ M.2.2.2.2.2.1.locals) (hdg : decode M.1 pc = .ok (.invokespecial index, 3)) (hn : As.length = n) (hf : ce + M'.2.2.2.2.2.1.cells ≤ M.2.2.2.2.2.1.cells ∧ sl + M'.2.2.2.2.2.1.slots ≤ M.2.2.2.2.2.1.slots) (hst : (S.map fun v => v.category).sum ≤ 8)
    {S0 : List Value} (hS0 : S0 = As.reverse ++ .ref b :: S) (ct : CT G M' (.ref b :: As) h z Qr) (kk : ∀ (v : Option Value) (h' : sv_h) (z' : Nat), Qr v h' z' → V G M P (pc + 3) L (v.toList ++ S) h' z' (ce + M'.2.2.2.2.2.1.cells) (sl + M'.2.2.2.2.2.1.slots)) : V G M P pc L S0 h z ce sl := by
  intro p e s m args below meth c H locs ls C K Z hS hH hl
  have hts := C.2.2.2.2.1
  refine sv_go (va_runI (As := As) (b := b) (rest := S) ⟨C.1, C.2.1, C.2.2.1, C.2.2.2.1, hts⟩ ct ⟨callB_of n hts hg hw rfl rfl (hts _ hl3) (hts _ hl1) hd hR, hy, hts _ hl2⟩ ⟨sv_blind, sv_pre K Z hS hH⟩ rfl hn hl.1 hS0 (lv_room hst) hdg hf) hS ?_
  exact fun v h' z' H1 locs1 hq hH1 hS1 => kk v h' z' hq p e s m args below meth c H1 locs1 ls C K Z hS1 hH1 hl
/-- a nest mate's constructor -/
theorem v_callIN {b : Nat} (hg : GoodIn M.2.2.2.1 M'.2.2.2.1) (hl1 : (M.2.2.1.cls, index, M'.2.2.1) ∈ sv_nm) (hl2 : Cond.instanceMethod M'.2.2.1 ∈ M.2.2.2.1) (hl3 : Cond.initialized M'.2.2.1.cls ∈ M.2.2.2.1) (hy : M'.2.2.1.name = "<init>") (hw : M'.2.2.2.1 = Cond.code M'.2.2.1 M'.1 M'.2.1 none :: ws') (hd : M'.2.2.1.cls ≠ "java/lang/invoke/MethodHandle" ∧ M'.2.2.1.cls ≠ "java/lang/invoke/VarHandle" ∧ (parseMethodDescriptor M'.2.2.1.desc).map (fun d => d.parameters.length) = some n) (hR : M'.2.2.2.2.2.1.frames + 1 ≤ M.2.2.2.2.2.1.frames ∧ 8 + (M'.2.1 + 11) + M'.2.2.2.2.2.1.locals ≤ M.2.2.2.2.2.1.locals) (hdg : decode M.1 pc = .ok (.invokespecial index, 3)) (hn : As.length = n) (hf : ce + M'.2.2.2.2.2.1.cells ≤ M.2.2.2.2.2.1.cells ∧ sl + M'.2.2.2.2.2.1.slots ≤ M.2.2.2.2.2.1.slots) (hst : (S.map fun v => v.category).sum ≤ 8)
    {S0 : List Value} (hS0 : S0 = As.reverse ++ .ref b :: S) (ct : CT G M' (.ref b :: As) h z Qr) (kk : ∀ (v : Option Value) (h' : sv_h) (z' : Nat), Qr v h' z' → V G M P (pc + 3) L (v.toList ++ S) h' z' (ce + M'.2.2.2.2.2.1.cells) (sl + M'.2.2.2.2.2.1.slots)) : V G M P pc L S0 h z ce sl := by
  intro p e s m args below meth c H locs ls C K Z hS hH hl
  have hts := C.2.2.2.2.1
  refine sv_go (va_runIN (As := As) (b := b) (rest := S) ⟨C.1, C.2.1, C.2.2.1, C.2.2.2.1, hts⟩ ct ⟨va_cnB n hts hg hw rfl rfl (K.2.1 _ hl1) (hts _ hl3) hd hR, hy, hts _ hl2⟩ ⟨sv_blind, sv_pre K Z hS hH⟩ rfl hn hl.1 hS0 (lv_room hst) hdg hf) hS ?_
  exact fun v h' z' H1 locs1 hq hH1 hS1 => kk v h' z' hq p e s m args below meth c H1 locs1 ls C K Z hS1 hH1 hl
/-- Object's constructor -/
theorem v_objI {a : Nat} (hl1 : Cond.methodLink M.2.2.1.cls index objectInit ∈ M.2.2.2.1) (hl2 : Cond.instanceMethod objectInit ∈ M.2.2.2.1) (hl3 : Cond.code objectInit ⟨#[0xb1]⟩ 1 none ∈ M.2.2.2.1) (hdg : decode M.1 pc = .ok (.invokespecial index, 3)) (hfr : 1 ≤ M.2.2.2.2.2.1.frames) (hlo : (S.map fun v => v.category).sum + 12 ≤ M.2.2.2.2.2.1.locals) (kk : V G M P (pc + 3) L S h z ce sl) : V G M P pc L (.ref a :: S) h z ce sl := fun p e s m args below meth c H locs ls C K Z hS hH hl =>
  W.objInit C.1 C.2.1 C.2.2.2.1 (C.2.2.2.2.1 _ hl1) (C.2.2.2.2.1 _ hl2) (C.2.2.2.2.1 _ hl3) rfl (hl.1.trans C.2.2.1.symm) rfl hdg hfr (by simpa [JFrame.monitorRoom] using hlo) (kk p e s m args below meth c H locs ls C K Z hS hH hl)
-- arrays: new ones, and those of references
theorem v_newI {N : Nat} {i : Int32} (hw : Cond.arrayClass .int ∈ M.2.2.2.1) (hdg : decode M.1 pc = .ok (.newarray .int, 2)) (hi : ¬ i < 0) (hN : i.toNatClampNeg = N) (hb : N * 4 ≤ 536870912) (hcells : ce + 1 ≤ M.2.2.2.2.2.1.cells) (hslots : sl + N ≤ M.2.2.2.2.2.1.slots)
    (kk : V G M P (pc + 2) L (.ref z :: S) (va_up h z (some (.inl (G.2.2.1 0, N, .inl (fun _ => 0))))) (z + 1) (ce + 1) (sl + N)) : V G M P pc L (.int i :: S) h z ce sl := by
  intro p e s m args below meth c H locs ls C K Z hS hH hl
  have hz0 := hH.1
  refine va_newaK (atype := .int) C.1 C.2.1 (C.2.2.2.2.1 _ hw) rfl hdg rfl hi hN hb hcells hslots hz0 fun H1 cA e1 z1 o1 hAr hNm => ?_
  have hcA : cA = G.2.2.1 0 := Option.some.inj (hNm.symm.trans (K.1.2 0 _ rfl).2)
  subst hcA
  refine kk p e s m args below meth c H1 locs ls C K Z (sv_S.new hS (by rw [z1, hz0]) (by rw [hz0]; exact o1)) (hH.new ?_ z1 o1) hl
  show H1[z]? = some (vp_cell _ _)
  rw [vp_cell_i]
  exact e1
theorem v_newJ {N : Nat} {i : Int32} (hw : Cond.arrayClass .long ∈ M.2.2.2.1) (hdg : decode M.1 pc = .ok (.newarray .long, 2)) (hi : ¬ i < 0) (hN : i.toNatClampNeg = N) (hb : N * 8 ≤ 536870912) (hcells : ce + 1 ≤ M.2.2.2.2.2.1.cells) (hslots : sl + N ≤ M.2.2.2.2.2.1.slots)
    (kk : V G M P (pc + 2) L (.ref z :: S) (va_up h z (some (.inl (G.2.2.1 1, N, .inr (.inl (fun _ => 0)))))) (z + 1) (ce + 1) (sl + N)) : V G M P pc L (.int i :: S) h z ce sl := by
  intro p e s m args below meth c H locs ls C K Z hS hH hl
  have hz0 := hH.1
  refine va_newaK (atype := .long) C.1 C.2.1 (C.2.2.2.2.1 _ hw) rfl hdg rfl hi hN hb hcells hslots hz0 fun H1 cA e1 z1 o1 hAr hNm => ?_
  have hcA : cA = G.2.2.1 1 := Option.some.inj (hNm.symm.trans (K.1.2 1 _ rfl).2)
  subst hcA
  refine kk p e s m args below meth c H1 locs ls C K Z (sv_S.new hS (by rw [z1, hz0]) (by rw [hz0]; exact o1)) (hH.new ?_ z1 o1) hl
  show H1[z]? = some (vp_cell _ _)
  rw [vp_cell_l]
  exact e1
theorem v_newZ {N : Nat} {i : Int32} (hw : Cond.arrayClass .boolean ∈ M.2.2.2.1) (hdg : decode M.1 pc = .ok (.newarray .boolean, 2)) (hi : ¬ i < 0) (hN : i.toNatClampNeg = N) (hb : N * 1 ≤ 536870912) (hcells : ce + 1 ≤ M.2.2.2.2.2.1.cells) (hslots : sl + N ≤ M.2.2.2.2.2.1.slots)
    (kk : V G M P (pc + 2) L (.ref z :: S) (va_up h z (some (.inl (G.2.2.1 2, N, .inl (fun _ => 0))))) (z + 1) (ce + 1) (sl + N)) : V G M P pc L (.int i :: S) h z ce sl := by
  intro p e s m args below meth c H locs ls C K Z hS hH hl
  have hz0 := hH.1
  refine va_newaK (atype := .boolean) C.1 C.2.1 (C.2.2.2.2.1 _ hw) rfl hdg rfl hi hN hb hcells hslots hz0 fun H1 cA e1 z1 o1 hAr hNm => ?_
  have hcA : cA = G.2.2.1 2 := Option.some.inj (hNm.symm.trans (K.1.2 2 _ rfl).2)
  subst hcA
  refine kk p e s m args below meth c H1 locs ls C K Z (sv_S.new hS (by rw [z1, hz0]) (by rw [hz0]; exact o1)) (hH.new ?_ z1 o1) hl
  show H1[z]? = some (vp_cell _ _)
  rw [vp_cell_i]
  exact e1
/-- an array of references to objects of the class E, kind t -/
theorem v_newQ {E : String} {N t : Nat} {i : Int32} (hw : Cond.classLink M.2.2.1.cls index E ∈ M.2.2.2.1) (hdg : decode M.1 pc = .ok (.anewarray index, 3)) (ht : ∀ ac : Nat → ClassId, (sv_ty ac)[t]? = some (ac t, .object E)) (hE : ∀ s, sv_K G s → va_AO E s) (hi : ¬ i < 0) (hN : i.toNatClampNeg = N) (hb : N * 4 ≤ 536870912) (hcells : ce + 1 ≤ M.2.2.2.2.2.1.cells) (hslots : sl + N ≤ M.2.2.2.2.2.1.slots)
    (kk : V G M P (pc + 3) L (.ref z :: S) (va_up h z (some (.inl (G.2.2.1 t, N, .inr (.inr (.inr (.inr (fun _ => none)))))))) (z + 1) (ce + 1) (sl + N)) : V G M P pc L (.int i :: S) h z ce sl := by
  intro p e s m args below meth c H locs ls C K Z hS hH hl
  have hz0 := hH.1
  subst hN
  refine W.anew C.1 C.2.1 C.2.2.2.1 (C.2.2.2.2.1 _ hw) (va_AO.use (hE s K)) rfl hdg rfl hi hb hcells hslots fun cA kA comp f1 f2 f3 f4 => ?_
  have hcA : cA = G.2.2.1 t := by
    obtain ⟨_, _, _, _, _, h4⟩ := (K.1.2 t _ (ht _)).2
    exact Option.some.inj (f1.symm.trans h4)
  subst hcA
  subst hz0
  generalize hH1 : H.push ({ cls := G.2.2.1 t, slots := Array.replicate i.toNatClampNeg .null, vm := .none } : Cell) = H1
  have z1 : H1.size = H.size + 1 := by rw [← hH1, Array.size_push]
  have e1 : H1[H.size]? = some (arrV (G.2.2.1 t) i.toNatClampNeg (fun _ => .null)) := by rw [← hH1, Array.getElem?_push_size, ← arrV_new]
  have o1 : ∀ q : Nat, q < H.size → H1[q]? = H[q]? := fun q hq => by rw [← hH1, Array.getElem?_push, if_neg (Nat.ne_of_lt hq)]
  refine kk p e s m args below meth c H1 locs ls C K Z (sv_S.new hS z1 o1) (hH.new ?_ z1 o1) hl
  show H1[H.size]? = some (vp_cell _ _)
  rw [vp_cell_q]
  exact e1
theorem v_aald {E : String} {a N t : Nat} {f : Nat → Option Nat} {i : Int32} (hdg : decode M.1 pc = .ok (.aaload, 1)) (ht : ∀ ac : Nat → ClassId, (sv_ty ac)[t]? = some (ac t, .object E)) (ha : h a = some (.inl (G.2.2.1 t, N, .inr (.inr (.inr (.inr f)))))) (hin : vp_in i N) (kk : V G M P (pc + 1) L (va_rf (f i.toNatClampNeg) :: S) h z ce sl) : V G M P pc L (.int i :: .ref a :: S) h z ce sl := fun p e s m args below meth c H locs ls C K Z hS hH hl =>
  va_aldq C.1 C.2.1 K.1 (hH.get ha) 0 t rfl (ht _) hin hdg (kk p e s m args below meth c H locs ls C K Z hS hH hl)
theorem v_aast {r : vw_C} {a b ci N t : Nat} {vs : List Value} {f : Nat → Option Nat} {i : Int32} (hdg : decode M.1 pc = .ok (.aastore, 1)) (ht : ∀ ac : Nat → ClassId, (sv_ty ac)[t]? = some (ac t, .object r.1)) (hc : vwCl[ci]? = some r) (ha : h a = some (.inl (G.2.2.1 t, N, .inr (.inr (.inr (.inr f)))))) (hb : h b = some (.inr (ci, vs))) (hin : vp_in i N) (kk : V G M P (pc + 1) L S (va_up h a (some (.inl (G.2.2.1 t, N, .inr (.inr (.inr (.inr (va_up f i.toNatClampNeg (some b))))))))) z ce sl) : V G M P pc L (.ref b :: .int i :: .ref a :: S) h z ce sl := by
  intro p e s m args below meth c H locs ls C K Z hS hH hl
  have hlt : i.toNatClampNeg < N := Nat.not_le.mp fun q => hin (Or.inr q)
  have h0 : ¬ i < 0 := fun q => hin (Or.inl q)
  obtain ⟨-, r', hr', cellV, g1, g2, g3, -⟩ := hH.2.2 b _ hb
  have hcls := (K.1.1 ci r hc).2
  obtain ⟨kA, comp, k1, k2, k3, -⟩ := (K.1.2 t _ (ht _)).2
  have hcomp : comp = G.2.1.1 ci := Option.some.inj (k3.symm.trans hcls.1)
  subst hcomp
  obtain ⟨kC, hkC, -⟩ := hcls.2
  refine W.aast C.1 C.2.1 (hH.2.2 a _ ha).2 (fun q h => by cases h) (fun h => by cases h) k1 k2 rfl hkC ⟨h0, by show _ < (arrV _ _ _).slots.size; rw [arrV_size]; exact hlt⟩ g1 (fun q h => by rw [g3] at h; cases h) (by rw [g2]; exact hkC) (by rw [g2]; exact va_assign hcls) rfl rfl hdg fun H1 e1 z1 oq => ?_
  refine kk p e s m args below meth c H1 _ ls C K Z (hS.put z1 oq (hH.2.2 a _ ha).1) (hH.set ha ?_ z1 oq) hl
  show H1[a]? = some (vp_cell _ _)
  rw [e1, vp_cell_q, vp_cell_q, arrV_store]
  congr 2
  funext q
  by_cases hq : q = i.toNatClampNeg
  · subst hq
    simp [updV, va_up, va_rf]
  · simp [updV, va_up, hq]
theorem v_aret {Qr : Option Value → sv_h → Nat → Prop} {a : Nat} {ty : FieldType} (hr : M.2.2.2.2.1 = some ty) (hty : (∃ n, ty = .object n) ∨ ∃ t, ty = .array t) (hdg : decode M.1 pc = .ok (.areturn, 1)) (h1 : ce ≤ M.2.2.2.2.2.1.cells) (h2 : sl ≤ M.2.2.2.2.2.1.slots) (hq : Qr (some (.ref a)) h z) : V G M (sv_MQ G M Qr) pc L [.ref a] h z ce sl := fun p e s m args below meth c H locs ls C K Z hS hH hl =>
  W.widen h1 h2 (W.aret C.1 C.2.1 (C.2.2.2.2.2.1.trans hr) hty (Or.inr ⟨a, rfl⟩) (fun t ht hW => ⟨⟨some (.ref a), h, z, rfl, hq, by rw [ht]; exact hH⟩, hS.F ht⟩) hS.2.2 hdg C.2.2.2.2.2.2.1)
/-- a constant of Kind -/
theorem v_getk {i : Nat} {nm : String} (hw : Cond.fieldLink M.2.2.1.cls index "RuleDeck$Kind" nm "LRuleDeck$Kind;" ∈ M.2.2.2.1) (hk : (i, nm) ∈ sv_kc) (hdg : decode M.1 pc = .ok (.getstatic index, 3)) (kk : V G M P (pc + 3) L (.ref (G.2.2.2.2.1 i) :: S) h z ce sl) : V G M P pc L S h z ce sl := fun p e s m args below meth c H locs ls C K Z hS hH hl =>
  va_gets C.1 C.2.1 (Z.1 _ hk) hS C.2.2.2.1 (C.2.2.2.2.1 _ hw) (fun _ q => q) hdg (kk p e s m args below meth c H locs ls C K Z hS hH hl)
theorem v_slen {v : Int32} (hdg : decode M.1 pc = .ok (.arraylength, 1)) (hv : Int32.ofNat G.2.2.2.2.2.1 = v) (kk : V G M P (pc + 1) L (.int v :: S) h z ce sl) : V G M P pc L (.ref (G.2.2.2.2.1 100) :: S) h z ce sl := by
  intro p e s m args below meth c H locs ls C K Z hS hH hl
  subst hv
  refine va_slen C.1 C.2.1 Z.2.2.2.1 ?_ (Nat.not_le.mpr Z.2.2.2.2.1) hS hdg (kk p e s m args below meth c H locs ls C K Z hS hH hl)
  obtain ⟨scr, h1, -⟩ := Z.2.2.2.1
  exact (Array.getElem?_eq_some_iff.mp h1).1
theorem v_sld {i : Int32} (hdg : decode M.1 pc = .ok (.iaload, 1)) (hin : vp_in i G.2.2.2.2.2.1) (kk : V G M P (pc + 1) L (.int (G.2.2.2.2.2.2 i.toNatClampNeg) :: S) h z ce sl) : V G M P pc L (.int i :: .ref (G.2.2.2.2.1 100) :: S) h z ce sl := by
  intro p e s m args below meth c H locs ls C K Z hS hH hl
  refine va_sld C.1 C.2.1 Z.2.2.2.1 ?_ (Nat.not_le.mpr Z.2.2.2.2.1) hS hin hdg (kk p e s m args below meth c H locs ls C K Z hS hH hl)
  obtain ⟨scr, h1, -⟩ := Z.2.2.2.1
  exact (Array.getElem?_eq_some_iff.mp h1).1
end SVC
