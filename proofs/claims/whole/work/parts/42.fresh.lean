/-- the two objects and the row stand -/
def sv_Wk (G : sv_G) (b m o : Nat) : sv_h → Nat → Prop := fun h _ => (∃ fs, h b = some (.inr (10, fs))) ∧ (∃ fs, h m = some (.inr (11, fs))) ∧ ∃ f, h o = some (.inl (G.2.2.1 1, 1, .inr (.inl f)))
/-- both new, from b on -/
def sv_Fr (G : sv_G) (b : Nat) (k : Int32) : sv_h → Nat → Prop := fun h _ => sv_new G b (b + 1) k h ∧ sv_newM G (b + 220) (b + 221) k h ∧ ∃ f, h (b + 261) = some (.inl (G.2.2.1 1, 1, .inr (.inl f)))
theorem sv_Wk_up {G : sv_G} {b m o z z1 : Nat} {h : sv_h} {F : List Value} (hi : sv_Wk G b m o h z) (h1 : b ≠ m) (h2 : o ≠ m) : sv_Wk G b m o (va_up h m (some (.inr (11, F)))) z1 := by
  obtain ⟨⟨f1, e1⟩, ⟨f2, e2⟩, f3, e3⟩ := hi
  exact ⟨⟨f1, (sv_un h1).trans e1⟩, ⟨F, sv_us⟩, f3, (sv_un h2).trans e3⟩
theorem op_refI {G : sv_G} {MX MM : sv_M} {b m o : Nat} {names : List String} {as : List Value} {I : sv_h → Nat → Prop} {E : String} (hE : names[0]? = some E) (hbm : b ≠ m) (hom : o ≠ m) (hw : ∀ h z, I h z → sv_Wk G b m o h z)
    (hI : ∀ h z, I h z → CX G MX (.ref b :: as) h z (fun _ _ _ => False) (fun E1 h1 z1 => E1 = E ∧ h1 = h) ∧ ∃ fs : List Value, h m = some (.inr (11, fs)) ∧ fs.length = 71 ∧ ∀ z1, CT G MM (.ref m :: as) h z1 (fun v h1 z2 => v = some (.int 0) ∧ h1 = va_up h m (some (.inr (11, fs.set 0 (.int 1)))) ∧ z2 = z1)) : OpI G MX MM b m o names as I (sv_Wk G b m o) := by
  intro h z hi
  obtain ⟨hc, fs, hm, hlen, hc2⟩ := hI h z hi
  refine ⟨_, _, hc, fun v h1 z1 hq => hq.elim, fun E1 h1 z1 hq => ?_⟩
  obtain ⟨rfl, rfl⟩ := hq
  refine ⟨0, hE, ⟨fs, hm⟩, _, hc2 z1, fun v2 h3 z3 hq2 => ?_⟩
  obtain ⟨rfl, rfl, rfl⟩ := hq2
  exact ⟨⟨0, rfl⟩, ⟨_, sv_us, by rw [List.length_set]; exact hlen, sv_ls (by omega)⟩, sv_Wk_up (hw _ _ hi) hbm hom⟩
theorem sv_new.deck {G : sv_G} {b : Nat} {k : Int32} {h : sv_h} (H : sv_new G b (b + 1) k h) : h b = some (.inr (10, [.ref (b + 1), .ref (b + 8), .ref (b + 10), .ref (b + 32), .ref (b + 180), .ref (b + 183), .int 0, .int 0, .int 0, .ref (b + 204), .ref (b + 208), .ref (b + 212), .ref (b + 216)])) := H.1.1
theorem sv_new.lay {G : sv_G} {b : Nat} {k : Int32} {h : sv_h} (H : sv_new G b (b + 1) k h) : h (b + 1) = some (.inr (1, [.int k, .int 0, .ref (b + 2), .int 0, .ref (b + 3), .ref (b + 4), .ref (b + 5), .int 0, .ref (b + 6), .ref (b + 7)])) := H.1.2.1
theorem sv_new.tape {G : sv_G} {b : Nat} {k : Int32} {h : sv_h} (H : sv_new G b (b + 1) k h) : h (b + 8) = some (.inr (7, [.ref (b + 9), .int 0])) := H.1.2.2.2.2.2.2.2.2.1
theorem sv_new.wv {G : sv_G} {b : Nat} {k : Int32} {h : sv_h} (H : sv_new G b (b + 1) k h) : h (b + 180) = some (.inr (9, [.ref (b + 181), .ref (b + 182), .int 0])) := H.1.2.2.2.2.2.2.2.2.2.2.2.2.2.2.2.2.2.2.2.2.2.2.2.2.1
theorem sv_new.told {G : sv_G} {b : Nat} {k : Int32} {h : sv_h} (H : sv_new G b (b + 1) k h) : h (b + 204) = some (.inr (8, [.ref (b + 205), .int 0, .ref (b + 206), .ref (b + 207), .int 0, .int 0, .int 0])) := H.1.2.2.2.2.2.2.2.2.2.2.2.2.2.2.2.2.2.2.2.2.2.2.2.2.2.2.2.1
/-- the fields of a new model -/
def sv_fs (b : Nat) (k : Int32) : List Value := (.int 0 :: .int k :: .int 0 :: .int 0 :: .ref (b + 221) :: .ref (b + 222) :: .ref (b + 223) :: .ref (b + 224) :: .ref (b + 225) :: .ref (b + 226) :: .int 0 :: .ref (b + 227) :: .ref (b + 228) :: .ref (b + 229) :: .ref (b + 230) :: .ref (b + 231) :: .ref (b + 232) :: .int 0 :: .int 0 :: .ref (b + 233) :: .ref (b + 234) :: .ref (b + 235) :: .ref (b + 236) :: .ref (b + 237) :: .ref (b + 238) :: .ref (b + 239) :: .ref (b + 240) :: .ref (b + 241) :: .int 0 :: .int 0 :: .int 0 :: .int (-1) :: .int 0 :: .int 0 :: .ref (b + 242) :: .ref (b + 243) :: .int 0 :: .ref (b + 244) :: .ref (b + 245) :: .ref (b + 246) :: .ref (b + 247) :: .int 0 :: .ref (b + 248) :: .ref (b + 249) :: .ref (b + 250) :: .ref (b + 251) :: .ref (b + 252) :: .ref (b + 253) :: .ref (b + 254) :: .ref (b + 255) :: .ref (b + 256) :: .ref (b + 257) :: .long 0 :: .long 0 :: .long 0 :: .long 0 :: .long 0 :: .long 0 :: .int 0 :: .int 0 :: .int 0 :: .int 0 :: .int 0 :: .ref (b + 258) :: .int 0 :: .ref (b + 259) :: .ref (b + 260) :: .int 0 :: .int 0 :: .int 0 :: .int 0 :: [])
theorem sv_newM.obj {G : sv_G} {b : Nat} {k : Int32} {h : sv_h} (H : sv_newM G (b + 220) (b + 221) k h) : h (b + 220) = some (.inr (11, sv_fs b k)) := H.1
theorem sv_newM.tape {G : sv_G} {b : Nat} {k : Int32} {h : sv_h} (H : sv_newM G (b + 220) (b + 221) k h) : h (b + 232) = some (.inl (G.2.2.1 0, 600, .inl (fun _ => 0))) := H.2.2.2.2.2.2.2.2.2.2.2.2.1
theorem sv_Fr_Wk {G : sv_G} {b z : Nat} {k : Int32} {h : sv_h} (H : sv_Fr G b k h z) : sv_Wk G b (b + 220) (b + 261) h z := ⟨⟨_, H.1.deck⟩, ⟨_, H.2.1.obj⟩, H.2.2⟩
theorem sv_no0 (c : Int32) : ¬ (0 ≤ c ∧ c < 0) := by
  simp only [Int32.lt_iff_toInt_lt, Int32.le_iff_toInt_le]
  omega
theorem f_polygon (G : sv_G) (hl0 : G.1.stackTraces = false) (b : Nat) (k : Int32) (a0 : Int32) (a1 : Int32) : OpI G mX12_polygon mX13_polygon b (b + 220) (b + 261) ["java/lang/IndexOutOfBoundsException", "java/lang/IllegalStateException"] [.int a0, .int a1] (sv_Fr G b k) (sv_Wk G b (b + 220) (b + 261)) :=
  op_refI rfl (by omega) (by omega) (fun h z hi => sv_Fr_Wk hi) (fun h z hi => ⟨c_polygon_o G hl0 h z b _ _ _ _ _ _ _ _ _ _ _ _ _ hi.1.deck a0 a1 _ _ _ _ _ _ _ _ _ _ hi.1.lay (sv_no0 a0), sv_fs b k, hi.2.1.obj, rfl, fun z1 => m_polygon_o G h z1 _ _ rfl hi.2.1.obj a0 a1 0 rfl (sv_no0 a0)⟩)
theorem f_run (G : sv_G) (hl0 : G.1.stackTraces = false) (b : Nat) (k : Int32) (a0 : Int32) (a1 : Int32) (a2 : Int32) : OpI G mX12_run mX13_run b (b + 220) (b + 261) ["java/lang/IndexOutOfBoundsException", "java/lang/UnsupportedOperationException"] [.int a0, .int a1, .int a2] (sv_Fr G b k) (sv_Wk G b (b + 220) (b + 261)) :=
  op_refI rfl (by omega) (by omega) (fun h z hi => sv_Fr_Wk hi) (fun h z hi => ⟨c_run_o G hl0 h z b _ _ _ _ _ _ _ _ _ _ _ _ _ hi.1.deck a0 a1 a2 (sv_no0 a0), sv_fs b k, hi.2.1.obj, rfl, fun z1 => m_run_o G h z1 _ _ rfl hi.2.1.obj a0 a1 a2 0 rfl (sv_no0 a0)⟩)
theorem f_occurrences (G : sv_G) (hl0 : G.1.stackTraces = false) (b : Nat) (k : Int32) (a0 : Int32) : OpI G mX12_occurrences mX13_occurrences b (b + 220) (b + 261) ["java/lang/IndexOutOfBoundsException", "java/lang/UnsupportedOperationException"] [.int a0] (sv_Fr G b k) (sv_Wk G b (b + 220) (b + 261)) :=
  op_refI rfl (by omega) (by omega) (fun h z hi => sv_Fr_Wk hi) (fun h z hi => ⟨c_occurrences_o G hl0 h z b _ _ _ _ _ _ _ _ _ _ _ _ _ hi.1.deck a0 _ _ _ _ _ _ _ _ _ _ hi.1.lay (sv_no0 a0), sv_fs b k, hi.2.1.obj, rfl, fun z1 => m_occurrences_o G h z1 _ _ rfl hi.2.1.obj a0 0 rfl (sv_no0 a0)⟩)
