section SVQ
variable {G : sv_G} {M M' : sv_M} {P : sv_P} {pc : Nat} {L : List (Nat × Value)} {S : List Value} {h : sv_h} {z ce sl index n : Nat} {As : List Value} {ws' : List Cond} {Qr : Option Value → sv_h → Nat → Prop}
theorem sv_dropV {As : List Value} {b n : Nat} {S S0 : List Value} (hn : As.length = n) (hS0 : S0 = As.reverse ++ .ref b :: S) : S0.drop (n + 1) = S := by
  rw [hS0, show As.reverse ++ Value.ref b :: S = (As.reverse ++ [Value.ref b]) ++ S by simp]
  exact List.drop_left' (by simp [hn])
theorem sv_dropS {As : List Value} {n : Nat} {S S0 : List Value} (hn : As.length = n) (hS0 : S0 = As.reverse ++ S) : S0.drop n = S := by
  rw [hS0]
  exact List.drop_left' (by simp [hn])
/-- v_callV, its stack first -/
theorem v_callVq {b ci : Nat} {fs : List Value} {r : vw_C} {S0 : List Value} (hg : GoodIn M.2.2.2.1 (wsV M.2.2.1.cls index M'.2.2.1.cls M'.2.2.1 M'.2.2.2.1)) (hw : M'.2.2.2.1 = Cond.code M'.2.2.1 M'.1 M'.2.1 M'.2.2.2.2.1 :: ws') (hd : M'.2.2.1.cls = M'.2.2.1.cls ∧ M'.2.2.1.cls ≠ "java/lang/invoke/MethodHandle" ∧ M'.2.2.1.cls ≠ "java/lang/invoke/VarHandle" ∧ (parseMethodDescriptor M'.2.2.1.desc).map (fun d => d.parameters.length) = some n) (hR : M'.2.2.2.2.2.1.frames + 1 ≤ M.2.2.2.2.2.1.frames ∧ 8 + (M'.2.1 + 11) + M'.2.2.2.2.2.1.locals ≤ M.2.2.2.2.2.1.locals) (hc : vwCl[ci]? = some r) (hr : r.1 = M'.2.2.1.cls) (hdg : decode M.1 pc = .ok (.invokevirtual index, 3)) (hn : As.length = n) (hf : ce + M'.2.2.2.2.2.1.cells ≤ M.2.2.2.2.2.1.cells ∧ sl + M'.2.2.2.2.2.1.slots ≤ M.2.2.2.2.2.1.slots) (hst : ((S0.drop (n + 1)).map fun v => v.category).sum ≤ 8) (hb : h b = some (.inr (ci, fs)))
    (hS0 : S0 = As.reverse ++ .ref b :: S) (ct : CT G M' (.ref b :: As) h z Qr) (kk : ∀ (v : Option Value) (h' : sv_h) (z' : Nat), Qr v h' z' → V G M P (pc + 3) L (v.toList ++ S) h' z' (ce + M'.2.2.2.2.2.1.cells) (sl + M'.2.2.2.2.2.1.slots)) : V G M P pc L S0 h z ce sl :=
  v_callV hg hw hd hR hc hr hdg hn hf (by rw [sv_dropV hn hS0] at hst; exact hst) hb hS0 ct kk
/-- v_callS, its stack first -/
theorem v_callSq {S0 : List Value} (hg : GoodIn M.2.2.2.1 M'.2.2.2.1) (hl1 : Cond.methodLink M.2.2.1.cls index M'.2.2.1 ∈ M.2.2.2.1) (hl2 : Cond.static M'.2.2.1 ∈ M.2.2.2.1) (hl3 : Cond.initialized M'.2.2.1.cls ∈ M.2.2.2.1) (hw : M'.2.2.2.1 = Cond.code M'.2.2.1 M'.1 M'.2.1 M'.2.2.2.2.1 :: ws') (hd : M'.2.2.1.cls ≠ "java/lang/invoke/MethodHandle" ∧ M'.2.2.1.cls ≠ "java/lang/invoke/VarHandle" ∧ (parseMethodDescriptor M'.2.2.1.desc).map (fun d => d.parameters.length) = some n) (hR : M'.2.2.2.2.2.1.frames + 1 ≤ M.2.2.2.2.2.1.frames ∧ 8 + (M'.2.1 + 11) + M'.2.2.2.2.2.1.locals ≤ M.2.2.2.2.2.1.locals) (hdg : decode M.1 pc = .ok (.invokestatic index, 3)) (hn : As.length = n) (hf : ce + M'.2.2.2.2.2.1.cells ≤ M.2.2.2.2.2.1.cells ∧ sl + M'.2.2.2.2.2.1.slots ≤ M.2.2.2.2.2.1.slots) (hst : ((S0.drop n).map fun v => v.category).sum ≤ 8)
    (hS0 : S0 = As.reverse ++ S) (ct : CT G M' As h z Qr) (kk : ∀ (v : Option Value) (h' : sv_h) (z' : Nat), Qr v h' z' → V G M P (pc + 3) L (v.toList ++ S) h' z' (ce + M'.2.2.2.2.2.1.cells) (sl + M'.2.2.2.2.2.1.slots)) : V G M P pc L S0 h z ce sl :=
  v_callS hg hl1 hl2 hl3 hw hd hR hdg hn hf (by rw [sv_dropS hn hS0] at hst; exact hst) hS0 ct kk
end SVQ
