section SVT
def sv_XC (G : sv_G) (Qx : String → sv_h → Nat → Prop) : String → State → State → Prop := fun E st t => (∃ (h : sv_h) (z : Nat), Qx E h z ∧ sv_H G h z t.heap) ∧ va_F (sv_A G) st t
/-- what a method that returns or throws owes -/
def sv_XQ (G : sv_G) (M : sv_M) (Qr : Option Value → sv_h → Nat → Prop) (Qx : String → sv_h → Nat → Prop) : sv_P := fun below args s => vx_MQ below (sv_Qc G Qr) (sv_XC G Qx) args s M.2.2.2.2.2.1.cells M.2.2.2.2.2.1.slots (sv_A G)
/-- the contract of a method that returns or throws -/
def CX (G : sv_G) (M : sv_M) (av : List Value) (h : sv_h) (z : Nat) (Qr : Option Value → sv_h → Nat → Prop) (Qx : String → sv_h → Nat → Prop) : Prop :=
  vx_Met G.1 M.2.2.1 M.2.2.2.1 M.2.2.2.2.2.1 (sv_Pc G av h z) (sv_Qc G Qr) (sv_XC G Qx) M.2.2.2.2.2.1.cells M.2.2.2.2.2.1.slots (sv_A G)
theorem CX.of {G : sv_G} {M : sv_M} {av : List Value} {h : sv_h} {z : Nat} {Qr : Option Value → sv_h → Nat → Prop} {Qx : String → sv_h → Nat → Prop} {ws' : List Cond} (hy : plainName M.2.2.1.cls = true) (hw : M.2.2.2.1 = Cond.code M.2.2.1 M.1 M.2.1 M.2.2.2.2.1 :: ws') (hh : M.2.2.2.2.2.2 = []) (hn : (lg_sl av).length ≤ M.2.1)
    (body : V G M (sv_XQ G M Qr Qx) 0 (lv_args 0 av) [] h z 0 0) : CX G M av h z Qr Qx := by
  refine vx_ofW (cc := M.1) (maxL := M.2.1) (ret := M.2.2.2.2.1) hy hw ?_
  intro p e s m args below meth c s₁ B hml ht0 hv
  obtain ⟨rfl, hH, hK, hZ⟩ := hv
  rw [lg_entry_eq]
  have ht : c.exceptionTable.toList = tableOf M.2.2.2.2.2.2 := by
    rw [hh]
    cases hq : c.exceptionTable.toList with
    | nil => rfl
    | cons x xs => exact (ht0 x (by rw [hq]; exact List.mem_cons_self)).elim
  exact body p e s m _ below meth c s.heap [] _ ⟨B.exec, B.bytes, hml, findClass_of_methodNamed B.named, atoms_spec (ws := M.2.2.2.1) B.pre, B.returns, B.notSynchronized, (name_of_methodNamed B.named B.method).1, ht⟩ hK hZ va_S.rf hH (lv_entry av hn)
variable {G : sv_G} {M M' : sv_M} {P : sv_P} {pc : Nat} {L : List (Nat × Value)} {S : List Value} {h : sv_h} {z ce sl index n : Nat} {As : List Value} {ws' : List Cond} {Qr : Option Value → sv_h → Nat → Prop} {Qx : String → sv_h → Nat → Prop}
theorem v_xret (k : V G M (sv_MQ G M Qr) pc L S h z ce sl) : V G M (sv_XQ G M Qr Qx) pc L S h z ce sl := fun p e s m args below meth c H locs ls C K Z hS hH hl => vx_ret (k p e s m args below meth c H locs ls C K Z hS hH hl)
/-- throw new E("text") -/
theorem v_throw {ik is ic : Nat} {cls text : String} {names : List String} (hl0 : G.1.stackTraces = false) (hown : M.2.2.1.cls = "RuleDeck") (hcls : Bundle.fit cls = true) (hnames : ∀ n ∈ names, Bundle.fit n = true) (hex : cls ∈ sv_ex)
    (hk : Cond.classLink M.2.2.1.cls ik cls ∈ M.2.2.2.1) (hini : Cond.initialized cls ∈ M.2.2.2.1) (hstr : (is, text) ∈ sv_tx) (hgw : ∀ w ∈ (vx_atS M.2.2.1.cls ic cls names).filter goodWord, w ∈ M.2.2.2.1) (hbw : ∀ w ∈ (vx_atS M.2.2.1.cls ic cls names).filter (fun w => !goodWord w), w ∈ (Cond.castable cls cls :: sv_dc.map Cond.declares))
    (hgood : ∀ w ∈ Cond.classLink M.2.2.1.cls ik cls :: Cond.initialized cls :: vx_atS M.2.2.1.cls ic cls names, vx_ot w = true)
    (d0 : decode M.1 pc = .ok (.new ik, 3)) (d3 : decode M.1 (pc + 3) = .ok (.dup, 1)) (d4 : decode M.1 (pc + 4) = .ok (.ldc is, 2)) (d6 : decode M.1 (pc + 6) = .ok (.invokespecial ic, 3)) (d9 : decode M.1 (pc + 9) = .ok (.athrow, 1))
    (hh : M.2.2.2.2.2.2 = []) (hRframes : names.length + 3 < M.2.2.2.2.2.1.frames) (hRlocals : (S.map fun v => v.category).sum + (13 * (names.length + 1) + 43) ≤ M.2.2.2.2.2.1.locals) (hRcells : ce + 1 ≤ M.2.2.2.2.2.1.cells) (hRslots : sl + 6 ≤ M.2.2.2.2.2.1.slots)
    (hx : ∀ z' : Nat, z ≤ z' → Qx cls h z') : V G M (sv_XQ G M Qr Qx) pc L S h z ce sl := by
  intro p e s m args below meth c H locs ls C K Z hS hH hl
  have hts := C.2.2.2.2.1
  obtain ⟨sa, hsa⟩ := Z.2.2.1 _ hstr
  have hout : ∀ x ∈ c.exceptionTable.toList, covers x (pc + 9) = false := by
    intro x hx
    rw [C.2.2.2.2.2.2.2.2, hh] at hx
    cases hx
  refine vx_throwS (sa := sa) (text := text) (is := is) (ik := ik) (ic := ic) (cls := cls) (names := names) (A := sv_A G) (own := M.2.2.1.cls) C.1 C.2.1 hl0 C.2.2.2.1 hcls hnames (hts _ hk) (hts _ hini) (by rw [hown]; exact hsa) ?_ hgood Z.2.1.1 Z.2.1.2 hS (hl.1.trans C.2.2.1.symm) d0 d3 d4 d6 d9 hout hRframes hRlocals hRcells hRslots C.2.2.2.2.2.2.1 ?_ hS.2.2 hRcells hRslots
  · refine vx_hat (B := Cond.castable cls cls :: sv_dc.map Cond.declares) (fun w hw => hts _ (hgw w hw)) hbw (vx_c (va_Nw.use rfl (K.2.2.2.2.2.2.1 _ hex)) fun w hw => ?_)
    obtain ⟨y, hy, rfl⟩ := List.mem_map.mp hw
    exact va_Nw.use rfl (K.2.2.2.2.2.2.2.2 y hy)
  · intro t hA hsz hq
    have hge : z ≤ t.heap.size := by rw [← hH.1]; exact hsz
    refine ⟨⟨h, t.heap.size, hx _ hge, rfl, Nat.le_trans hH.2.1 hge, fun a x ha => ⟨(hH.2.2 a x ha).1, (hH.2.2 a x ha).2.kept (hq a ?_)⟩⟩, Nat.le_trans hS.1 hsz, fun q h1 h2 => (hq q (Nat.lt_of_lt_of_le h1 hS.1)).trans (hS.2.1 q h1 h2)⟩
    rw [hH.1]
    exact hH.lt ha
end SVT
theorem sv_bwI : ∀ w ∈ (vx_atS RX12 112 "java/lang/IllegalStateException" ["java/lang/RuntimeException", "java/lang/Exception"]).filter (fun w => !goodWord w), w ∈ (Cond.castable "java/lang/IllegalStateException" "java/lang/IllegalStateException" :: sv_dc.map Cond.declares) := by decide +kernel
theorem sv_bwO : ∀ w ∈ (vx_atS RX12 125 "java/lang/IndexOutOfBoundsException" ["java/lang/RuntimeException", "java/lang/Exception"]).filter (fun w => !goodWord w), w ∈ (Cond.castable "java/lang/IndexOutOfBoundsException" "java/lang/IndexOutOfBoundsException" :: sv_dc.map Cond.declares) := by decide +kernel
theorem sv_bwA : ∀ w ∈ (vx_atS RX12 159 "java/lang/IllegalArgumentException" ["java/lang/RuntimeException", "java/lang/Exception"]).filter (fun w => !goodWord w), w ∈ (Cond.castable "java/lang/IllegalArgumentException" "java/lang/IllegalArgumentException" :: sv_dc.map Cond.declares) := by decide +kernel
theorem sv_bwU : ∀ w ∈ (vx_atS RX12 206 "java/lang/UnsupportedOperationException" ["java/lang/RuntimeException", "java/lang/Exception"]).filter (fun w => !goodWord w), w ∈ (Cond.castable "java/lang/UnsupportedOperationException" "java/lang/UnsupportedOperationException" :: sv_dc.map Cond.declares) := by decide +kernel
