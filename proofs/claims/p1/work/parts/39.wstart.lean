/-- the law's walk out of one V from its entry -/
theorem whole_W {p : Program} {e : Env} {s : State} {m : MethodId} {below : List Frame} {meth : Method} {c : Code} (l : Launch) {b L : Nat} {xs : Nat → Int32} (C0 : lw_At p s m meth c b L xs) (hex : c.exceptionTable.toList = []) (hnm : meth.name = "law")
    (hk : ∀ G : sv_G, G.1 = l → G.2.2.2.2.2.1 = L → V G mL_law (PL G) 0 [(0, .ref (G.2.2.2.2.1 100))] [] (fun _ => none) G.2.2.2.1.size 0 0) : W p l e room_1 s m #[Value.ref b] below meth c s.heap [] 0 0 (lw_Z below #[Value.ref b] s) (entryFrame m ([Value.ref b] : List Value).toArray 8) := by
  obtain ⟨hx, hb, hr, hml, hown, hts, hX, hbl, hlocks, hgv⟩ := C0
  obtain ⟨G, rfl, hG, rfl, rfl, rfl, K, Z⟩ := sv_begin l hts hgv hX hbl
  have v := hk G rfl rfl
  rw [lg_entry_eq]
  have hl := lv_entry ([Value.ref (G.2.2.2.2.1 100)]) (n := 8) (Nat.le_of_ble_eq_true rfl)
  intro T hT X
  obtain ⟨t, a1, b1⟩ := v p e s m #[Value.ref (G.2.2.2.2.1 100)] below meth c s.heap [] _ ⟨hx, hb, hml, hown, fun w hw => hts w (tl_wvL_law w hw), hr, hlocks, hnm, hex⟩ K Z va_S.rf ⟨by rw [hG], Nat.le_refl _, fun a x h => by cases h⟩ hl T hT X
  exact ⟨t, a1, b1 ⟨by rw [hG]; exact Nat.le_refl _, rfl⟩⟩
