/-- a call with up to twelve slots below it -/
theorem lv_room12 {m : MethodId} {pc : Nat} {ls : Array Slot} {S st : List Value} (h : (S.map fun v => v.category).sum ≤ 12) : 2 * (F0 m pc ls st).monitorRoom + (S.map fun v => v.category).sum ≤ 12 := by
  have e : (F0 m pc ls st).monitorRoom = 0 := rfl
  rw [e]
  omega
section Wide
variable {p : Program} {l : Launch} {e : Env} {R : Room} {s : State} {m : MethodId} {args : Array Value} {below : List Frame} {meth : Method} {c : Code} {H : Heap} {locs : List Loc} {cells slots : Nat}
variable {y : MethodName} {bytes cc : ByteArray} {maxL nL mc ms n index : Nat} {ret : Option FieldType} {ws : List Cond} {rm : Room} {Pc : Array Value → State → Prop} {Qc : Array Value → State → Outcome → State → Prop} {free : Addr → Prop} {Ts : List Cond} {own C : String} {b : Addr} {As rest : List Value} {g : JFrame}
theorem va_runVw (S : CallFix p m c cc nL s args Ts own) (hM : Met l y ws rm Pc Qc mc ms free) (cw : CallW R s args own C index y bytes maxL ret ws rm mc ms n) (hp : PreV s H C b Pc As)
    (hg : g.method = m) (hn : As.length = n) (hsize : g.locals.size = nL) (hstack : g.stack = As.reverse ++ .ref b :: rest) (hW : 2 * g.monitorRoom + (rest.map fun v => v.category).sum ≤ 12) (hlo12 : 12 + (maxL + 11) + rm.locals ≤ R.locals) (hdg : decode cc g.pc = .ok (.invokevirtual index, 3)) (hf : cells + mc ≤ R.cells ∧ slots + ms ≤ R.slots) :
    va_Run p l e R s m args below meth c H locs cells slots mc ms g rest (Qc (Value.ref b :: As).toArray) (free) := by
  obtain ⟨⟨hrc, hrs, hfr, -, hws, hcw, hcode, hini, hy, hlen, hl⟩, hin, hse⟩ := cw
  have hK : Back l R p e below s args y 3 12 (PreOf R mc ms Pc) (PostOf Qc mc ms free) := back_of (bytes := bytes) (maxL := maxL) (ret := ret) hM hp.1 hrc hrs hfr hlo12 hws hcw (fun a' U hW => word_at hW (Or.inl (by first | rfl | simp [Cond.onTables, Cond.keeps, Cond.steady])) hini)
  obtain ⟨hx, hb, hml, ho, -⟩ := S
  obtain ⟨-, ⟨cellB, hcB, hoB, hclB⟩, hPc⟩ := hp
  intro T hT X
  obtain ⟨v, vm₁, ⟨U', l2, c2, s2⟩, hW₁, X', ⟨g', mk, t, L, e1, e2, hq, h1, hL, h2, h3⟩, st⟩ := callV X hx (C := C) (bytes := bytes) (maxL := maxL) (ret := ret) ho hl hin hse hcode hy hK (by rw [hT]; exact hcB) hoB hclB hg (hsize.trans hml.symm) (argsL := As) (rest := rest) (fun sig h => hn.trans (hlen sig h)) hstack hW (by rw [hb]; exact hdg)
    (fun vm₁ hW₁ => ⟨hf.1, hf.2, hPc (T.setVm vm₁) hT hW₁⟩)
  dsimp only [Pt.U, Pt.locs, Pt.cells, Pt.slots] at X' e1 e2 h1 h2 h3 st
  subst h1; subst h2; subst h3
  exact ⟨v, (T.setVm vm₁).calling g' mk (Value.ref b :: As).toArray, t, U', L, hT, X', hL, e1, e2, hq, st⟩
end Wide
section WideV
variable {G : sv_G} {M M' : sv_M} {P : sv_P} {pc : Nat} {L : List (Nat × Value)} {S : List Value} {h : sv_h} {z ce sl index n : Nat} {As : List Value} {ws' : List Cond} {Qr : Option Value → sv_h → Nat → Prop}
theorem v_callVw {b ci : Nat} {fs : List Value} {r : vw_C} (hg : GoodIn M.2.2.2.1 (wsV M.2.2.1.cls index M'.2.2.1.cls M'.2.2.1 M'.2.2.2.1)) (hw : M'.2.2.2.1 = Cond.code M'.2.2.1 M'.1 M'.2.1 M'.2.2.2.2.1 :: ws') (hd : M'.2.2.1.cls = M'.2.2.1.cls ∧ M'.2.2.1.cls ≠ "java/lang/invoke/MethodHandle" ∧ M'.2.2.1.cls ≠ "java/lang/invoke/VarHandle" ∧ (parseMethodDescriptor M'.2.2.1.desc).map (fun d => d.parameters.length) = some n) (hR : M'.2.2.2.2.2.1.frames + 1 ≤ M.2.2.2.2.2.1.frames ∧ 8 + (M'.2.1 + 11) + M'.2.2.2.2.2.1.locals ≤ M.2.2.2.2.2.1.locals) (hc : vwCl[ci]? = some r) (hr : r.1 = M'.2.2.1.cls) (hdg : decode M.1 pc = .ok (.invokevirtual index, 3)) (hn : As.length = n) (hf : ce + M'.2.2.2.2.2.1.cells ≤ M.2.2.2.2.2.1.cells ∧ sl + M'.2.2.2.2.2.1.slots ≤ M.2.2.2.2.2.1.slots) (hst : (S.map fun v => v.category).sum ≤ 12) (hlo12 : 12 + (M'.2.1 + 11) + M'.2.2.2.2.2.1.locals ≤ M.2.2.2.2.2.1.locals) (hb : h b = some (.inr (ci, fs)))
    {S0 : List Value} (hS0 : S0 = As.reverse ++ .ref b :: S) (ct : CT G M' (.ref b :: As) h z Qr) (kk : ∀ (v : Option Value) (h' : sv_h) (z' : Nat), Qr v h' z' → V G M P (pc + 3) L (v.toList ++ S) h' z' (ce + M'.2.2.2.2.2.1.cells) (sl + M'.2.2.2.2.2.1.slots)) : V G M P pc L S0 h z ce sl := by
  intro p e s m args below meth c H locs ls C K Z hS hH hl
  obtain ⟨cell, g1, g2, g3⟩ := va_recv (q := r) K.1 (hH.get hb) hc (q0 := 0) rfl
  rw [hr] at g3
  refine sv_go (va_runVw (As := As) (b := b) (rest := S) ⟨C.1, C.2.1, C.2.2.1, C.2.2.2.1, C.2.2.2.2.1⟩ ct (cwV n C.2.2.2.2.1 hg hw rfl rfl hd hR) ⟨sv_blind, ⟨cell, g1, g2, g3⟩, sv_pre K Z hS hH⟩ rfl hn hl.1 hS0 (lv_room12 hst) hlo12 hdg hf) hS ?_
  exact fun v h' z' H1 locs1 hq hH1 hS1 => kk v h' z' hq p e s m args below meth c H1 locs1 ls C K Z hS1 hH1 hl
end WideV
