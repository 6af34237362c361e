section Rows
variable {p : Program} {l : Launch} {e : Env} {R : Room} {s : State} {m : MethodId} {args : Array Value} {below : List Frame} {meth : Method} {c : Code} {H : Heap} {locs : List Loc} {cells slots : Nat} {Q : State → Prop}
variable {mc ms : Nat} {free : Addr → Prop} {A0 A1 : Nat → Prop} {H0 : Heap} {a : Array Value} {pc : Nat} {ls : Array Slot} {st0 rest : List Value}
/-- caught by the row x of this method's table; the rows ahead don't take it -/
theorem vx_catch {own name : String} {E : String} {ce : Cell} {q : Addr} (hown : s.vm.findClass own = some m.cls) (pre : List ExceptionTableEntry) (x : ExceptionTableEntry) (suf : List ExceptionTableEntry) (hsplit : c.exceptionTable.toList = pre ++ x :: suf)
    (hpass : ∀ z ∈ pre, covers z pc = false ∨ (z.catchType ≠ 0 ∧ ∃ nm : String, (Cond.classLink own z.catchType nm).before args s = true ∧ va_Nc E nm s)) (hx : covers x pc = true) (h0 : x.catchType ≠ 0)
    (hlink : (Cond.classLink own x.catchType name).before args s = true) (hcast : (Cond.castable E name).before args s = true) (hcell : H[q]? = some ce) (hv : ce.vm = .none) (hcl : s.vm.findClass E = some ce.cls)
    (kk : W p l e R s m args below meth c H locs cells slots Q (F0 m x.handlerPc ls [.ref q])) : vx_W p l e R s m args below meth c H locs cells slots Q (F0 m pc ls rest) q := by
  intro T hT X
  have hpl : e.platform.magicAccessors = ({} : Platform).magicAccessors := by rw [X.admits.platform]
  obtain ⟨c3, c4, hc3, hc4, hasg⟩ := Cond.castable_spec hcast
  cases Option.some.inj (hc3.symm.trans hcl)
  obtain ⟨c5, hc5, hcl5⟩ := Cond.classLink_spec hown hlink e.platform hpl
  cases Option.some.inj (hc4.symm.trans hc5)
  obtain ⟨vm', X', st⟩ := Stand.thenCaughtThrough X q (g := F0 m pc ls rest) rfl (Steps.refl _) (by rw [hT]; exact hcell) (by rw [hv]; rfl) (by obtain ⟨k9, h9, -⟩ := Vm.findClass_spec hcl; exact ⟨k9, h9⟩) pre x suf hsplit
    (fun z hz => by
      rcases hpass z hz with h | ⟨hz0, nm, hl1, hn1⟩
      · exact Or.inl h
      · obtain ⟨c6, hc6, hcl6⟩ := Cond.classLink_spec hown hl1 e.platform hpl
        obtain ⟨a8, b8, h1, h2, h3⟩ := hn1
        cases Option.some.inj (h1.symm.trans hcl)
        cases Option.some.inj (h2.symm.trans hc6)
        exact Or.inr ⟨hz0, _, hcl6, h3⟩) hx (Or.inr ⟨h0, c4, hcl5, hasg⟩)
  obtain ⟨t, a1, b1⟩ := kk (T.setVm vm') hT X'
  exact ⟨t, st.trans a1, b1⟩
end Rows
section SVX
variable {G : sv_G} {M M' : sv_M} {P : sv_P} {pc : Nat} {L : List (Nat × Value)} {S : List Value} {h : sv_h} {z ce sl index n : Nat} {As : List Value} {ws' : List Cond} {Qr : Option Value → sv_h → Nat → Prop} {Qx : String → sv_h → Nat → Prop}
/-- the method M, at pc, with an exception of the class E thrown over it -/
def VX (G : sv_G) (M : sv_M) (P : sv_P) (pc : Nat) (L : List (Nat × Value)) (E : String) (h : sv_h) (z ce sl : Nat) : Prop :=
  ∀ (p : Program) (e : Env) (s : State) (m : MethodId) (args : Array Value) (below : List Frame) (meth : Method) (c : Code) (H : Heap) (locs : List Loc) (ls : Array Slot) (q : Addr) (cell : Cell) (S : List Value),
    sv_C p s m args meth c M → sv_K G s → sv_Z G s → va_S (sv_A G) s.heap H locs → sv_H G h z H → lv_has ls M.2.1 L → H[q]? = some cell → cell.vm = .none → s.vm.findClass E = some cell.cls →
    vx_W p G.1 e M.2.2.2.2.2.1 s m args below meth c H locs ce sl (P below args s) (F0 m pc ls S) q
theorem v_callX {b ci : Nat} {fs : List Value} {r : vw_C} (hg : GoodIn M.2.2.2.1 (wsV M.2.2.1.cls index M'.2.2.1.cls M'.2.2.1 M'.2.2.2.1)) (hw : M'.2.2.2.1 = Cond.code M'.2.2.1 M'.1 M'.2.1 M'.2.2.2.2.1 :: ws') (hd : M'.2.2.1.cls = M'.2.2.1.cls ∧ M'.2.2.1.cls ≠ "java/lang/invoke/MethodHandle" ∧ M'.2.2.1.cls ≠ "java/lang/invoke/VarHandle" ∧ (parseMethodDescriptor M'.2.2.1.desc).map (fun d => d.parameters.length) = some n) (hR : M'.2.2.2.2.2.1.frames + 1 ≤ M.2.2.2.2.2.1.frames ∧ 8 + (M'.2.1 + 11) + M'.2.2.2.2.2.1.locals ≤ M.2.2.2.2.2.1.locals) (hc : vwCl[ci]? = some r) (hr : r.1 = M'.2.2.1.cls) (hdg : decode M.1 pc = .ok (.invokevirtual index, 3)) (hn : As.length = n) (hf : ce + M'.2.2.2.2.2.1.cells ≤ M.2.2.2.2.2.1.cells ∧ sl + M'.2.2.2.2.2.1.slots ≤ M.2.2.2.2.2.1.slots) (hst : (S.map fun v => v.category).sum ≤ 8) (hb : h b = some (.inr (ci, fs)))
    {S0 : List Value} (hS0 : S0 = As.reverse ++ .ref b :: S) (ct : CX G M' (.ref b :: As) h z Qr Qx) (kk : ∀ (v : Option Value) (h' : sv_h) (z' : Nat), Qr v h' z' → V G M P (pc + 3) L (v.toList ++ S) h' z' (ce + M'.2.2.2.2.2.1.cells) (sl + M'.2.2.2.2.2.1.slots))
    (kx : ∀ (E : String) (h' : sv_h) (z' : Nat), Qx E h' z' → VX G M P pc L E h' z' (ce + M'.2.2.2.2.2.1.cells) (sl + M'.2.2.2.2.2.1.slots)) : V G M P pc L S0 h z ce sl := by
  intro p e s m args below meth c H locs ls C K Z hS hH hl
  obtain ⟨cell, g1, g2, g3⟩ := va_recv (q := r) K.1 (hH.get hb) hc (q0 := 0) rfl
  rw [hr] at g3
  have hrun := vx_runV (As := As) (b := b) (rest := S) (g := F0 m pc ls S0) (locs := locs) (e := e) (below := below) (meth := meth) (cells := ce) (slots := sl) ⟨C.1, C.2.1, C.2.2.1, C.2.2.2.1, C.2.2.2.2.1⟩ ct (cwV n C.2.2.2.2.1 hg hw rfl rfl hd hR) ⟨sv_blind, ⟨cell, g1, g2, g3⟩, sv_pre K Z hS hH⟩ rfl hn hl.1 hS0 (lv_room hst) hdg hf
  intro T hT X
  rcases hrun T hT X with ⟨v, st₀, t, T', Lo, h0, X', hL, e1, e2, ⟨⟨v', h', z', hv, hq, hH'⟩, hz, hk⟩, st⟩ | ⟨q, st₀, t, T', Lo, E, cl, h0, X', hL, e1, e2, ⟨⟨h', z', hq, hH'⟩, hz, hk⟩, hce, hcv, hcl, st⟩
  · cases hv
    rw [h0] at hz hk
    obtain ⟨t2, a1, b1⟩ := kk _ h' z' hq p e s m args below meth c T'.heap (locs ++ Lo) ls C K Z
      ⟨Nat.le_trans hS.1 (by rw [e1]; exact hz), fun q h1 h2 => by rw [e1, hk q (Nat.lt_of_lt_of_le h1 hS.1) h2]; exact hS.2.1 q h1 h2, fun q hq => by
        rcases List.mem_append.mp hq with h | h
        · exact hS.2.2 q h
        · exact hL q h⟩ (by rw [e1]; exact hH') hl T' rfl X'
    exact ⟨t2, st t2 a1, b1⟩
  · rw [h0] at hz hk
    obtain ⟨t2, a1, b1⟩ := kx E h' z' hq p e s m args below meth c T'.heap (locs ++ Lo) ls q cl S C K Z
      ⟨Nat.le_trans hS.1 (by rw [e1]; exact hz), fun q h1 h2 => by rw [e1, hk q (Nat.lt_of_lt_of_le h1 hS.1) h2]; exact hS.2.1 q h1 h2, fun q hq => by
        rcases List.mem_append.mp hq with h | h
        · exact hS.2.2 q h
        · exact hL q h⟩ (by rw [e1]; exact hH') hl (by rw [e1]; exact hce) hcv hcl T' rfl X'
    exact ⟨t2, st.trans a1, b1⟩
/-- caught by the handler at hp, of the class E itself; those ahead are of others -/
theorem v_catch {E : String} {hp : Nat} (pre : List (Nat × Nat × Nat × Nat × String)) (a1 a2 ct : Nat) (suf : List (Nat × Nat × Nat × Nat)) (hh : M.2.2.2.2.2.2 = pre.map (fun q => (q.1, q.2.1, q.2.2.1, q.2.2.2.1)) ++ (a1, a2, hp, ct) :: suf) (hE : E ∈ sv_ex)
    (hpre : ∀ q ∈ pre, q.2.2.2.1 ≠ 0 ∧ Cond.classLink M.2.2.1.cls q.2.2.2.1 q.2.2.2.2 ∈ M.2.2.2.1 ∧ q.2.2.2.2 ∈ sv_ex ∧ E ≠ q.2.2.2.2) (h1 : a1 ≤ pc ∧ pc < a2) (h0 : ct ≠ 0) (hw : Cond.classLink M.2.2.1.cls ct E ∈ M.2.2.2.1)
    (kk : ∀ q : Nat, V G M P hp L [.ref q] h z ce sl) : VX G M P pc L E h z ce sl := by
  intro p e s m args below meth c H locs ls q cell S C K Z hS hH hl hq hv hcl
  have hts := C.2.2.2.2.1
  refine vx_catch (name := E) C.2.2.2.1 (tableOf (pre.map (fun q => (q.1, q.2.1, q.2.2.1, q.2.2.2.1)))) ⟨a1, a2, hp, ct⟩ (tableOf suf) ?_ ?_ ?_ h0 (hts _ hw) (va_Nw.use rfl (K.2.2.2.2.2.2.1 _ hE)) hq hv hcl (kk q p e s m args below meth c H locs ls C K Z hS hH hl)
  · rw [C.2.2.2.2.2.2.2.2, hh]
    simp [tableOf]
  · intro x hx
    simp only [tableOf, List.map_map, List.mem_map] at hx
    obtain ⟨y, hy, rfl⟩ := hx
    obtain ⟨k1, k2, k3, k4⟩ := hpre y hy
    exact Or.inr ⟨k1, _, hts _ k2, K.2.2.2.2.2.2.2.1 _ hE _ k3 k4⟩
  · simp [covers, h1.1, h1.2]
end SVX
