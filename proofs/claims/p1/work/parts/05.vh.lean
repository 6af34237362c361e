section SVH
variable {G : sv_G} {M : sv_M} {P : sv_P} {pc : Nat} {L : List (Nat × Value)} {S : List Value} {h : sv_h} {z ce sl : Nat}
theorem sv_one {D : va_G} {cl : List vw_C} {q : Nat × va_E} {H : Heap} (h : va_at D cl q H) : va_P D cl [q] H := by
  intro k x hk
  have hz : k < 1 := (List.getElem?_eq_some_iff.mp hk).1
  rw [show k = 0 by omega] at hk
  cases hk
  exact h
theorem sv_H.get {H : Heap} (hH : sv_H G h z H) {a : Nat} {e : va_E} (ha : h a = some e) : va_P G.2.1 vwCl [(a, e)] H := sv_one (hH.2.2 a e ha).2
theorem sv_H.lt {H : Heap} (hH : sv_H G h z H) {a : Nat} {e : va_E} (ha : h a = some e) : a < z := by
  rw [← hH.1]
  exact (hH.2.2 a e ha).2.lt
theorem sv_H.set {H H1 : Heap} (hH : sv_H G h z H) {a : Nat} {e0 e : va_E} (ha : h a = some e0) (he : va_at G.2.1 vwCl (a, e) H1) (hs : H1.size = H.size) (ho : ∀ q : Nat, q ≠ a → H1[q]? = H[q]?) : sv_H G (va_up h a (some e)) z H1 := by
  refine ⟨hs.trans hH.1, hH.2.1, fun b x hb => ?_⟩
  by_cases hba : b = a
  · subst hba
    simp only [va_up, if_true, Option.some.injEq] at hb
    subst hb
    exact ⟨(hH.2.2 _ _ ha).1, he⟩
  · simp only [va_up, if_neg hba] at hb
    exact ⟨(hH.2.2 b x hb).1, (hH.2.2 b x hb).2.kept (ho b hba)⟩
theorem sv_H.new {H H1 : Heap} (hH : sv_H G h z H) {e : va_E} (he : va_at G.2.1 vwCl (z, e) H1) (hs : H1.size = z + 1) (ho : ∀ q : Nat, q < z → H1[q]? = H[q]?) : sv_H G (va_up h z (some e)) (z + 1) H1 := by
  refine ⟨hs, Nat.le_succ_of_le hH.2.1, fun b x hb => ?_⟩
  by_cases hba : b = z
  · subst hba
    simp only [va_up, if_true, Option.some.injEq] at hb
    subst hb
    exact ⟨hH.2.1, he⟩
  · simp only [va_up, if_neg hba] at hb
    exact ⟨(hH.2.2 b x hb).1, (hH.2.2 b x hb).2.kept (ho b (hH.lt hb))⟩
theorem sv_S.new {s : State} {H H1 : Heap} {locs : List Loc} (hS : va_S (sv_A G) s.heap H locs) (hs : H1.size = H.size + 1) (ho : ∀ q : Nat, q < H.size → H1[q]? = H[q]?) : va_S (sv_A G) s.heap H1 locs :=
  ⟨Nat.le_trans hS.1 (by omega), fun x h1 h2 => (ho x (Nat.lt_of_lt_of_le h1 hS.1)).trans (hS.2.1 x h1 h2), hS.2.2⟩
-- fields
theorem v_getf {ci : Nat} {C : String} {T : u_T} {N index a : Nat} {fs : List Value} {v : Value} (k : Nat) (hc : vwCl[ci]? = some (C, T, N)) (hin : ∀ w ∈ u_ws C T N, w ∈ M.2.2.2.1) (hk : k < N) (hw : Cond.fieldLink M.2.2.1.cls index (T k).1 (T k).2.1 (T k).2.2.1 ∈ M.2.2.2.1) (hdg : decode M.1 pc = .ok (.getfield index, 3)) (ha : h a = some (.inr (ci, fs))) (hv : fs[k]? = some v)
    (kk : V G M P (pc + 3) L (v :: S) h z ce sl) : V G M P pc L (.ref a :: S) h z ce sl := fun p e s m args below meth c H locs ls C K Z hS hH hl =>
  va_get (D := G.2.1) C.1 C.2.1 C.2.2.2.2.1 hin C.2.2.2.1 K.1 (hH.get ha) 0 rfl hc k hk (C.2.2.2.2.1 _ hw) (fun _ q => q) hv hdg (kk p e s m args below meth c H locs ls C K Z hS hH hl)
theorem v_putf {ci : Nat} {C : String} {T : u_T} {N index a : Nat} {fs fs' : List Value} {v : Value} {ty : FieldType} (k : Nat) (hc : vwCl[ci]? = some (C, T, N)) (hin : ∀ w ∈ u_ws C T N, w ∈ M.2.2.2.1) (ty0 : Nat → FieldType) (hty : ∀ k, k < N → parseFieldDescriptor (T k).2.2.1 = some (ty0 k)) (hnm : ∀ a, a < N → ∀ b, b < N → a ≠ b → (T a).2.1 ≠ (T b).2.1) (hk : k < N) (hw : Cond.fieldLink M.2.2.1.cls index (T k).1 (T k).2.1 (T k).2.2.1 ∈ M.2.2.2.1) (hfin : (T k).2.2.2 = false) (hd : parseFieldDescriptor (T k).2.2.1 = some ty) (hdg : decode M.1 pc = .ok (.putfield index, 3)) (hn : narrow ty v = v) (hfit : fits ty v = true) (ha : h a = some (.inr (ci, fs))) (hlen : k < fs.length) (hset : fs.set k v = fs')
    (kk : V G M P (pc + 3) L S (va_up h a (some (.inr (ci, fs')))) z ce sl) : V G M P pc L (v :: .ref a :: S) h z ce sl := by
  subst hset
  intro p e s m args below meth c H locs ls C K Z hS hH hl
  have hts := C.2.2.2.2.1
  have hap := va_apart (own := M.2.2.1.cls) hts hin ty0 hty hnm K.1 hc
  obtain ⟨hA, r, h1, cell, q1, q2, q3, q4⟩ := hH.2.2 a _ ha
  have hr : r = _ := Option.some.inj (h1.symm.trans hc)
  subst hr
  obtain ⟨hSl, hfc, kC, hkC, hkind⟩ := K.1.1 ci _ hc
  obtain ⟨cf, kf, fi, f, hi, hsl⟩ := hSl k hk
  have hlay := hts _ (hin _ (u_in_lay hk))
  unfold u_lay at hlay
  rw [if_neg (by rw [hfin]; decide)] at hlay
  have hst := (u_facts hfc hkC (u_lays hts hin hk) hi).1
  have h6 := u_store hfc hkC hkind hlay hi hd hn hfit
  refine W.putK C.1 C.2.1 (f := f) ⟨C.2.2.2.1, hts _ hw, ⟨_, _, _, hi⟩, hst⟩ (by rw [q2]; exact h6) q1 q3 (by rw [hsl]; exact k2_hasslot (q4 k hk)) rfl rfl hdg fun H' e1 e2 e3 => ?_
  rw [hsl] at e1 ⊢
  exact kk p e s m args below meth c H' _ ls C K Z (hS.put e2 e3 hA) (hH.set ha ⟨_, hc, t_OB.to (V := updV (vp_V fs) k v) ⟨_, e1, q2, q3, t_set q4 hap hk v⟩ (fun j _ => vp_updV_set hlen v j)⟩ e2 e3) hl
theorem v_putF {ci : Nat} {C : String} {T : u_T} {N index a : Nat} {fs fs' : List Value} {v : Value} {ty : FieldType} (k : Nat) (hc : vwCl[ci]? = some (C, T, N)) (hin : ∀ w ∈ u_ws C T N, w ∈ M.2.2.2.1) (ty0 : Nat → FieldType) (hty : ∀ k, k < N → parseFieldDescriptor (T k).2.2.1 = some (ty0 k)) (hnm : ∀ a, a < N → ∀ b, b < N → a ≠ b → (T a).2.1 ≠ (T b).2.1) (hk : k < N) (hw : Cond.fieldLink M.2.2.1.cls index (T k).1 (T k).2.1 (T k).2.2.1 ∈ M.2.2.2.1) (hfin : (T k).2.2.2 = true) (hin2 : M.2.2.1.name = "<init>") (hdecl : (T k).1 = M.2.2.1.cls) (hd : parseFieldDescriptor (T k).2.2.1 = some ty) (hdg : decode M.1 pc = .ok (.putfield index, 3)) (hn : narrow ty v = v) (hfit : fits ty v = true) (ha : h a = some (.inr (ci, fs))) (hlen : k < fs.length) (hset : fs.set k v = fs')
    (kk : V G M P (pc + 3) L S (va_up h a (some (.inr (ci, fs')))) z ce sl) : V G M P pc L (v :: .ref a :: S) h z ce sl := by
  subst hset
  intro p e s m args below meth c H locs ls C K Z hS hH hl
  have hts := C.2.2.2.2.1
  have hap := va_apart (own := M.2.2.1.cls) hts hin ty0 hty hnm K.1 hc
  obtain ⟨hA, r, h1, cell, q1, q2, q3, q4⟩ := hH.2.2 a _ ha
  have hr : r = _ := Option.some.inj (h1.symm.trans hc)
  subst hr
  obtain ⟨hSl, hfc, kC, hkC, hkind⟩ := K.1.1 ci _ hc
  obtain ⟨cf, kf, fi, f, hi, hsl⟩ := hSl k hk
  have hlay := hts _ (hin _ (u_in_lay hk))
  unfold u_lay at hlay
  rw [if_pos hfin] at hlay
  have hst := (u_facts hfc hkC (u_lays hts hin hk) hi).1
  have hcf : m.cls = cf := by
    obtain ⟨_, _, c', _, _, _, -, -, hf', -, -, -, hown2, -⟩ := Cond.laysFinal_spec hlay
    have e1 : c' = cf := by have := hi.symm.trans hf'; simp at this; exact this.1.symm
    rw [hdecl] at hown2
    rw [← e1]; exact Option.some.inj (C.2.2.2.1.symm.trans hown2)
  have h6 := u_fits hfc hkC hkind (Or.inr hlay) hi hd hn hfit
  refine W.putFinK C.1 C.2.1 C.2.2.2.1 (hts _ hw) hi hst hcf (C.2.2.2.2.2.2.2.1.trans hin2) (by rw [q2]; exact h6) q1 q3 (by rw [hsl]; exact k2_hasslot (q4 k hk)) rfl rfl hdg fun H' e1 e2 e3 => ?_
  rw [hsl] at e1 ⊢
  exact kk p e s m args below meth c H' _ ls C K Z (hS.put e2 e3 hA) (hH.set ha ⟨_, hc, t_OB.to (V := updV (vp_V fs) k v) ⟨_, e1, q2, q3, t_set q4 hap hk v⟩ (fun j _ => vp_updV_set hlen v j)⟩ e2 e3) hl
-- new objects
theorem v_new {ci : Nat} {C : String} {T : u_T} {N index : Nat} {fs : List Value} (hc : vwCl[ci]? = some (C, T, N)) (hin : ∀ w ∈ u_ws C T N, w ∈ M.2.2.2.1) (ty : Nat → FieldType) (hty : ∀ k, k < N → parseFieldDescriptor (T k).2.2.1 = some (ty k)) (hcl : Cond.classLink M.2.2.1.cls index C ∈ M.2.2.2.1) (hinst : Cond.instantiable C N ∈ M.2.2.2.1) (hini : Cond.initialized C ∈ M.2.2.2.1) (hdg : decode M.1 pc = .ok (.new index, 3)) (hfs : ∀ j, j < N → defaultValue (ty j) = vp_V fs j) (hcells : ce + 1 ≤ M.2.2.2.2.2.1.cells) (hslots : sl + N ≤ M.2.2.2.2.2.1.slots)
    (kk : V G M P (pc + 3) L (.ref z :: S) (va_up h z (some (.inr (ci, fs)))) (z + 1) (ce + 1) (sl + N)) : V G M P pc L S h z ce sl := by
  intro p e s m args below meth c H locs ls C K Z hS hH hl
  have hts := C.2.2.2.2.1
  have hKn := K.1.1 ci _ hc
  have hz0 := hH.1
  refine W.newcK C.1 C.2.1 C.2.2.2.1 (hts _ hcl) (hts _ hinst) (hts _ hini) rfl hdg hcells hslots hKn.2.1 hz0 fun H1 kC hkC e1 z1 o1 => ?_
  exact kk p e s m args below meth c H1 locs ls C K Z (sv_S.new hS (by rw [z1, hz0]) (by rw [hz0]; exact o1)) (hH.new ⟨_, hc, (u_born ty hts hin hKn hkC e1 hty).to hfs⟩ z1 o1) hl
-- arrays of ints and longs, booleans
theorem v_iald {a N : Nat} {f : Nat → Int32} {i : Int32} (hdg : decode M.1 pc = .ok (.iaload, 1)) (ha : h a = some (.inl (G.2.2.1 0, N, .inl f))) (hin : vp_in i N) (kk : V G M P (pc + 1) L (.int (f i.toNatClampNeg) :: S) h z ce sl) : V G M P pc L (.int i :: .ref a :: S) h z ce sl := fun p e s m args below meth c H locs ls C K Z hS hH hl =>
  va_iald C.1 C.2.1 K.1 (hH.get ha) 0 0 rfl rfl hin hdg (kk p e s m args below meth c H locs ls C K Z hS hH hl)
theorem v_lald {a N : Nat} {f : Nat → Int64} {i : Int32} (hdg : decode M.1 pc = .ok (.laload, 1)) (ha : h a = some (.inl (G.2.2.1 1, N, .inr (.inl f)))) (hin : vp_in i N) (kk : V G M P (pc + 1) L (.long (f i.toNatClampNeg) :: S) h z ce sl) : V G M P pc L (.int i :: .ref a :: S) h z ce sl := fun p e s m args below meth c H locs ls C K Z hS hH hl =>
  va_lald C.1 C.2.1 K.1 (hH.get ha) 0 1 rfl rfl hin hdg (kk p e s m args below meth c H locs ls C K Z hS hH hl)
theorem v_zald {a N : Nat} {f : Nat → Int32} {i : Int32} (hdg : decode M.1 pc = .ok (.baload, 1)) (ha : h a = some (.inl (G.2.2.1 2, N, .inl f))) (hin : vp_in i N) (kk : V G M P (pc + 1) L (.int (f i.toNatClampNeg) :: S) h z ce sl) : V G M P pc L (.int i :: .ref a :: S) h z ce sl := fun p e s m args below meth c H locs ls C K Z hS hH hl =>
  va_zald C.1 C.2.1 K.1 (hH.get ha) 0 2 rfl rfl hin hdg (kk p e s m args below meth c H locs ls C K Z hS hH hl)
theorem v_alen {a t : Nat} {x : vp_A} {ty : FieldType} {v : Int32} (hdg : decode M.1 pc = .ok (.arraylength, 1)) (ht : ∀ ac : Nat → ClassId, (sv_ty ac)[t]? = some (ac t, ty)) (ha : h a = some (.inl (G.2.2.1 t, x))) (hv : Int32.ofNat x.1 = v) (kk : V G M P (pc + 1) L (.int v :: S) h z ce sl) : V G M P pc L (.ref a :: S) h z ce sl := fun p e s m args below meth c H locs ls C K Z hS hH hl =>
  va_alen C.1 C.2.1 K.1 (hH.get ha) 0 t rfl (ht _) hv hdg (kk p e s m args below meth c H locs ls C K Z hS hH hl)
theorem v_iast {a N : Nat} {f : Nat → Int32} {i x : Int32} (hdg : decode M.1 pc = .ok (.iastore, 1)) (ha : h a = some (.inl (G.2.2.1 0, N, .inl f))) (hin : vp_in i N) (kk : V G M P (pc + 1) L S (va_up h a (some (.inl (G.2.2.1 0, N, .inl (upd f i.toNatClampNeg x))))) z ce sl) : V G M P pc L (.int x :: .int i :: .ref a :: S) h z ce sl := by
  intro p e s m args below meth c H locs ls C K Z hS hH hl
  refine W.iast C.1 C.2.1 (hH.2.2 a _ ha).2 ((K.1.2 0 _ rfl).1 N (fun j => .int (f j))) (fun q => by cases q) (by show ¬ (i < 0 ∨ (arrV _ _ _).slots.size ≤ _); rw [arrV_size]; exact hin) rfl rfl hdg fun H1 e1 z1 oq => ?_
  refine kk p e s m args below meth c H1 _ ls C K Z (hS.put z1 oq (hH.2.2 a _ ha).1) (hH.set ha ?_ z1 oq) hl
  show H1[a]? = some (vp_cell _ _)
  rw [e1, vp_cell_i, vp_cell_i, arrV_store]
  congr 2
  funext q
  by_cases hq : q = i.toNatClampNeg
  · subst hq
    simp [updV, upd]
  · simp [updV, upd, hq]
theorem v_last {a N : Nat} {f : Nat → Int64} {i : Int32} {x : Int64} (hdg : decode M.1 pc = .ok (.lastore, 1)) (ha : h a = some (.inl (G.2.2.1 1, N, .inr (.inl f)))) (hin : vp_in i N) (kk : V G M P (pc + 1) L S (va_up h a (some (.inl (G.2.2.1 1, N, .inr (.inl (vp_updL f i.toNatClampNeg x)))))) z ce sl) : V G M P pc L (.long x :: .int i :: .ref a :: S) h z ce sl := by
  intro p e s m args below meth c H locs ls C K Z hS hH hl
  refine W.last C.1 C.2.1 (hH.2.2 a _ ha).2 ((K.1.2 1 _ rfl).1 N (fun j => .long (f j))) (fun q => by cases q) (by show ¬ (i < 0 ∨ (arrV _ _ _).slots.size ≤ _); rw [arrV_size]; exact hin) rfl rfl hdg fun H1 e1 z1 oq => ?_
  refine kk p e s m args below meth c H1 _ ls C K Z (hS.put z1 oq (hH.2.2 a _ ha).1) (hH.set ha ?_ z1 oq) hl
  show H1[a]? = some (vp_cell _ _)
  rw [e1, vp_cell_l, vp_cell_l, arrV_store]
  congr 2
  funext q
  by_cases hq : q = i.toNatClampNeg
  · subst hq
    simp [updV, vp_updL]
  · simp [updV, vp_updL, hq]
-- the ends
/-- what a method that only returns owes -/
def sv_Qc (G : sv_G) (Qr : Option Value → sv_h → Nat → Prop) : Array Value → State → Outcome → State → Prop := fun _ st o t => (∃ (v : Option Value) (h : sv_h) (z : Nat), o = .returned v ∧ Qr v h z ∧ sv_H G h z t.heap) ∧ va_F (sv_A G) st t
def sv_MQ (G : sv_G) (M : sv_M) (Qr : Option Value → sv_h → Nat → Prop) : sv_P := fun below args s => MQ below (sv_Qc G Qr) args s M.2.2.2.2.2.1.cells M.2.2.2.2.2.1.slots (sv_A G)
theorem v_ret {Qr : Option Value → sv_h → Nat → Prop} (hr : M.2.2.2.2.1 = none) (hdg : decode M.1 pc = .ok (.return_, 1)) (h1 : ce ≤ M.2.2.2.2.2.1.cells) (h2 : sl ≤ M.2.2.2.2.2.1.slots) (hq : Qr none h z) : V G M (sv_MQ G M Qr) pc L [] h z ce sl := fun p e s m args below meth c H locs ls C K Z hS hH hl =>
  W.widen h1 h2 (W.vret C.1 C.2.1 (C.2.2.2.2.2.1.trans hr) (fun t ht hW => ⟨⟨none, h, z, rfl, hq, by rw [ht]; exact hH⟩, hS.F ht⟩) hS.2.2 hdg C.2.2.2.2.2.2.1)
theorem v_iret {Qr : Option Value → sv_h → Nat → Prop} {x : Int32} {ty : FieldType} (hr : M.2.2.2.2.1 = some ty) (hdg : decode M.1 pc = .ok (.ireturn, 1)) (h1 : ce ≤ M.2.2.2.2.2.1.cells) (h2 : sl ≤ M.2.2.2.2.2.1.slots) (hn : narrow ty (.int x) = .int x) (hq : Qr (some (.int x)) h z) : V G M (sv_MQ G M Qr) pc L [.int x] h z ce sl := fun p e s m args below meth c H locs ls C K Z hS hH hl =>
  W.widen h1 h2 (W.zret C.1 C.2.1 (C.2.2.2.2.2.1.trans hr) hn (fun t ht hW => ⟨⟨some (.int x), h, z, rfl, hq, by rw [ht]; exact hH⟩, hS.F ht⟩) hS.2.2 hdg C.2.2.2.2.2.2.1)
theorem v_lret {Qr : Option Value → sv_h → Nat → Prop} {x : Int64} (hr : M.2.2.2.2.1 = some .long) (hdg : decode M.1 pc = .ok (.lreturn, 1)) (h1 : ce ≤ M.2.2.2.2.2.1.cells) (h2 : sl ≤ M.2.2.2.2.2.1.slots) (hq : Qr (some (.long x)) h z) : V G M (sv_MQ G M Qr) pc L [.long x] h z ce sl := fun p e s m args below meth c H locs ls C K Z hS hH hl =>
  W.widen h1 h2 (W.lret C.1 C.2.1 (C.2.2.2.2.2.1.trans hr) (fun t ht hW => ⟨⟨some (.long x), h, z, rfl, hq, by rw [ht]; exact hH⟩, hS.F ht⟩) hS.2.2 hdg C.2.2.2.2.2.2.1)
end SVH
