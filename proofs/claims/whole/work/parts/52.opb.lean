theorem CX.mono {G : sv_G} {M : sv_M} {av : List Value} {h : sv_h} {z : Nat} {Qr Qr' : Option Value → sv_h → Nat → Prop} {Qx Qx' : String → sv_h → Nat → Prop} (H : CX G M av h z Qr Qx) (hr : ∀ v h1 z1, z ≤ z1 → Qr v h1 z1 → Qr' v h1 z1) (hx : ∀ E h1 z1, z ≤ z1 → Qx E h1 z1 → Qx' E h1 z1) : CX G M av h z Qr' Qx' := by
  refine Jvm.Free.MetFree.mono H (fun a s h => h) (fun _ _ _ _ _ h => h) ?_
  intro a s o t hp hq
  have hz : s.heap.size = z := hp.2.1.1
  rcases hq with ⟨⟨⟨v, h1, z1, e1, e2, e3⟩, e4⟩, e5⟩ | ⟨q, e1, E, ce, L, ⟨⟨h1, z1, e2, e3⟩, e4⟩, e5⟩
  · exact Or.inl ⟨⟨⟨v, h1, z1, e1, hr v h1 z1 (by have q1 := e4.1; have q2 := e3.1; omega) e2, e3⟩, e4⟩, e5⟩
  · exact Or.inr ⟨q, e1, E, ce, L, ⟨⟨h1, z1, hx E h1 z1 (by have q1 := e4.1; have q2 := e3.1; omega) e2, e3⟩, e4⟩, e5⟩
theorem CT.mono {G : sv_G} {M : sv_M} {av : List Value} {h : sv_h} {z : Nat} {Qr Qr' : Option Value → sv_h → Nat → Prop} (H : CT G M av h z Qr) (hr : ∀ v h1 z1, z ≤ z1 → Qr v h1 z1 → Qr' v h1 z1) : CT G M av h z Qr' := by
  unfold CT Met at H ⊢
  refine Jvm.Free.MetFree.mono H (fun a s h => h) (fun _ _ _ _ _ h => h) ?_
  intro a s o t hp hq
  have hz : s.heap.size = z := hp.2.1.1
  obtain ⟨⟨⟨v, h1, z1, e1, e2, e3⟩, e4⟩, e5⟩ := hq
  exact ⟨⟨⟨v, h1, z1, e1, hr v h1 z1 (by have q1 := e4.1; have q2 := e3.1; omega) e2, e3⟩, e4⟩, e5⟩
section SVS
variable {G : sv_G} {M : sv_M} {P : sv_P} {pc : Nat} {L : List (Nat × Value)} {S : List Value} {h : sv_h} {z ce sl : Nat}
theorem v_ialdS {a N : Nat} {f : Nat → Int32} {i v : Int32} (hdg : decode M.1 pc = .ok (.iaload, 1)) (ha : h a = some (.inl (G.2.2.1 0, N, .inl f))) (hin : vp_in i N) (hv : f i.toNatClampNeg = v) (kk : V G M P (pc + 1) L (.int v :: S) h z ce sl) : V G M P pc L (.int i :: .ref a :: S) h z ce sl := v_iald hdg ha hin (by rw [hv]; exact kk)
theorem v_laldS {a N : Nat} {f : Nat → Int64} {i : Int32} {v : Int64} (hdg : decode M.1 pc = .ok (.laload, 1)) (ha : h a = some (.inl (G.2.2.1 1, N, .inr (.inl f)))) (hin : vp_in i N) (hv : f i.toNatClampNeg = v) (kk : V G M P (pc + 1) L (.long v :: S) h z ce sl) : V G M P pc L (.int i :: .ref a :: S) h z ce sl := v_lald hdg ha hin (by rw [hv]; exact kk)
theorem v_aaldS {E : String} {a N t q : Nat} {f : Nat → Option Nat} {i : Int32} (hdg : decode M.1 pc = .ok (.aaload, 1)) (ht : ∀ ac : Nat → ClassId, (sv_ty ac)[t]? = some (ac t, .object E)) (ha : h a = some (.inl (G.2.2.1 t, N, .inr (.inr (.inr (.inr f)))))) (hin : vp_in i N) (hv : f i.toNatClampNeg = some q) (kk : V G M P (pc + 1) L (.ref q :: S) h z ce sl) : V G M P pc L (.int i :: .ref a :: S) h z ce sl := v_aald hdg ht ha hin (by rw [hv]; exact kk)
end SVS
/-- this heap alone -/
def sv_pt (h : sv_h) (z : Nat) : sv_h → Nat → Prop := fun h1 z1 => h1 = h ∧ z1 = z
theorem OpD.of {G : sv_G} {MX MM : sv_M} {b m : Nat} {as : List Value} {I I1 : sv_h → Nat → Prop} (H : ∀ h z, I h z → OpD G MX MM b m as (sv_pt h z) I1) : OpD G MX MM b m as I I1 := fun h z hi => H h z hi h z ⟨rfl, rfl⟩
theorem OpI.of {G : sv_G} {MX MM : sv_M} {b m o : Nat} {names : List String} {as : List Value} {I I1 : sv_h → Nat → Prop} (H : ∀ h z, I h z → OpI G MX MM b m o names as (sv_pt h z) I1) : OpI G MX MM b m o names as I I1 := fun h z hi => H h z hi h z ⟨rfl, rfl⟩
theorem OpZ.of {G : sv_G} {MX MM : sv_M} {b m o : Nat} {names : List String} {as : List Value} {I I1 : sv_h → Nat → Prop} (H : ∀ h z, I h z → OpZ G MX MM b m o names as (sv_pt h z) I1) : OpZ G MX MM b m o names as I I1 := fun h z hi => H h z hi h z ⟨rfl, rfl⟩
theorem OpJ.of {G : sv_G} {MX MM : sv_M} {b m o : Nat} {names : List String} {as : List Value} {I I1 : sv_h → Nat → Prop} (H : ∀ h z, I h z → OpJ G MX MM b m o names as (sv_pt h z) I1) : OpJ G MX MM b m o names as I I1 := fun h z hi => H h z hi h z ⟨rfl, rfl⟩
theorem ab_Inv.same {G : sv_G} {b z z1 : Nat} {h h1 : sv_h} {c : Value} (H : ab_Inv G b h z) (hz : z ≤ z1) (e : ∀ a, a ≠ b + 220 → a ≠ b + 261 → h1 a = h a) {fs0 : List Value} (hm : h (b + 220) = some (.inr (11, fs0))) (hm1 : h1 (b + 220) = some (.inr (11, fs0.set 0 c))) (ho : ∃ f, h1 (b + 261) = some (.inl (G.2.2.1 1, 1, .inr (.inl f)))) : ab_Inv G b h1 z1 := by
  obtain ⟨k, nc, np, pl, sz, t, u, pa, ma, tn, tp, nr, r, ru, rd, nl, lr, la, fo, fl, nw, wr, lX, lq, lf, mf, fs, ⟨gok, gLay, gAd, gML⟩, ⟨gTp, gMTp⟩, ⟨gRu, gRd, gRl, gRr, gMR⟩, ⟨gLa, gFo, gFl, gLo, gMLa⟩, ⟨gWv, gMWv⟩, ⟨gDk, glq, gmf, glf⟩, ⟨gm, gfs⟩, ⟨gCk, gSc, go⟩⟩ := H
  obtain ⟨gru, i1, i2, i3, i4, i5, i6, i7, i8, i9, gla, gfo, gfl⟩ := id gDk.2
  have gz := gAd.1
  obtain rfl : fs0 = fs := by
    have q := hm.symm.trans gm
    injection q with q
    injection q with q
    injection q with q1 q2
  exact ⟨k, nc, np, pl, sz, t, u, pa, ma, tn, tp, nr, r, ru, rd, nl, lr, la, fo, fl, nw, wr, lX, lq, lf, mf, _, ⟨gok, gLay.kept gAd (fun a q1 q2 => e a (by omega) (by omega)) (fun a q1 q2 => e a (by omega) (by omega)), gAd.mono hz, gML.kept (fun a q1 q2 => e a (by omega) (by omega))⟩, ⟨gTp.kept (fun a q1 q2 => e a (by omega) (by omega)), gMTp.kept (fun a q1 q2 => e a (by omega) (by omega))⟩, ⟨gRu.kept (by omega) (fun a q1 q2 => e a (by omega) (by omega)), gRd.kept (by omega) (fun a q1 q2 => e a (by omega) (by omega)), gRl.kept (fun a q1 q2 => e a (by omega) (by omega)), gRr.kept (fun a q1 q2 => e a (by omega) (by omega)), gMR.kept (fun a q1 q2 => e a (by omega) (by omega))⟩, ⟨gLa.kept (fun a q1 q2 => e a (by omega) (by omega)), gFo.kept (fun a q1 q2 => e a (by omega) (by omega)), gFl.kept (fun a q1 q2 => e a (by omega) (by omega)), gLo.kept (fun a q1 q2 => e a (by omega) (by omega)), gMLa.kept (fun a q1 q2 => e a (by omega) (by omega))⟩, ⟨gWv.kept (fun a q1 q2 => e a (by omega) (by omega)), gMWv.kept (fun a q1 q2 => e a (by omega) (by omega))⟩, ⟨gDk.kept (fun a q1 q2 => e a (by omega) (by omega)), glq, gmf, glf⟩, ⟨hm1, gfs.code c⟩, ⟨gCk.kept (fun a q1 q2 => e a (by omega) (by omega)), gSc.kept (fun a q1 q2 => e a (by omega) (by omega)), ho⟩⟩
theorem at_refI {G : sv_G} {MX MM : sv_M} {b : Nat} {names : List String} {as : List Value} {h : sv_h} {z : Nat} {E : String} {fs : List Value} (j : Nat) (hI : ab_Inv G b h z) (hE : names[j]? = some E)
    (hc : CX G MX (.ref b :: as) h z (fun _ _ _ => False) (fun E1 h1 z1 => E1 = E ∧ h1 = h)) (hm : h (b + 220) = some (.inr (11, fs))) (hlen : fs.length = 71)
    (hc2 : ∀ z1, CT G MM (.ref (b + 220) :: as) h z1 (fun v h1 z2 => v = some (.int 0) ∧ h1 = va_up h (b + 220) (some (.inr (11, fs.set 0 (.int (nI (j + 1)))))) ∧ z2 = z1)) : OpI G MX MM b (b + 220) (b + 261) names as (sv_pt h z) (ab_Inv G b) := by
  intro h0 z0 hp
  obtain ⟨rfl, rfl⟩ := hp
  refine ⟨_, _, hc.mono (Qr' := fun _ _ _ => False) (Qx' := fun E1 h1 z1 => E1 = E ∧ h1 = h0 ∧ z0 ≤ z1) (fun _ _ _ _ q => q) (fun E1 h1 z1 q1 q2 => ⟨q2.1, q2.2, q1⟩), fun v h1 z1 hq => hq.elim, fun E1 h1 z1 hq => ?_⟩
  obtain ⟨rfl, rfl, hz⟩ := hq
  refine ⟨j, hE, ⟨fs, hm⟩, _, hc2 z1, fun v2 h3 z3 hq2 => ?_⟩
  obtain ⟨rfl, rfl, rfl⟩ := hq2
  exact ⟨⟨0, rfl⟩, ⟨_, sv_us, by rw [List.length_set]; exact hlen, sv_ls (by omega)⟩, hI.same hz (fun a q1 q2 => sv_un q1) hm sv_us ⟨_, (sv_un (by omega)).trans (ab_Inv_In G b _ _ hI).2.2.choose_spec⟩⟩
theorem at_purI {G : sv_G} {MX MM : sv_M} {b : Nat} {names : List String} {as : List Value} {h : sv_h} {z : Nat} {w : Int32} {fs : List Value} (hI : ab_Inv G b h z)
    (hc : CX G MX (.ref b :: as) h z (fun v h1 z1 => v = some (.int w) ∧ h1 = h ∧ z1 = z) (fun _ _ _ => False)) (hm : h (b + 220) = some (.inr (11, fs))) (hlen : fs.length = 71)
    (hc2 : ∀ h2 : sv_h, (∀ a, a ≠ b + 261 → h2 a = h a) → CT G MM (.ref (b + 220) :: as) h2 z (fun v h3 z2 => v = some (.int w) ∧ h3 = va_up h2 (b + 220) (some (.inr (11, fs.set 0 (.int 0)))) ∧ z2 = z)) : OpI G MX MM b (b + 220) (b + 261) names as (sv_pt h z) (ab_Inv G b) := by
  intro h0 z0 hp
  obtain ⟨rfl, rfl⟩ := hp
  refine ⟨_, _, hc, fun v h1 z1 hq => ?_, fun E1 h1 z1 hq => hq.elim⟩
  obtain ⟨rfl, rfl, rfl⟩ := hq
  refine ⟨w, rfl, (ab_Inv_In G b _ _ hI).2.2, by omega, ⟨fs, hm⟩, fun h2 g e1 e2 e3 => ⟨_, hc2 h2 e3, fun v2 h3 z3 hq2 => ?_⟩⟩
  obtain ⟨rfl, rfl, rfl⟩ := hq2
  exact ⟨rfl, ⟨_, sv_us, by rw [List.length_set]; exact hlen, sv_ls (by omega)⟩, (sv_un (by omega)).trans e1, hI.same (Nat.le_refl _) (fun a q1 q2 => (sv_un q1).trans (e3 a q2)) hm sv_us ⟨_, (sv_un (by omega)).trans e1⟩⟩
theorem at_refZ {G : sv_G} {MX MM : sv_M} {b : Nat} {names : List String} {as : List Value} {h : sv_h} {z : Nat} {E : String} {fs : List Value} (j : Nat) (hI : ab_Inv G b h z) (hE : names[j]? = some E)
    (hc : CX G MX (.ref b :: as) h z (fun _ _ _ => False) (fun E1 h1 z1 => E1 = E ∧ h1 = h)) (hm : h (b + 220) = some (.inr (11, fs))) (hlen : fs.length = 71)
    (hc2 : ∀ z1, CT G MM (.ref (b + 220) :: as) h z1 (fun v h1 z2 => v = some (.int 0) ∧ h1 = va_up h (b + 220) (some (.inr (11, fs.set 0 (.int (nI (j + 1)))))) ∧ z2 = z1)) : OpZ G MX MM b (b + 220) (b + 261) names as (sv_pt h z) (ab_Inv G b) := by
  intro h0 z0 hp
  obtain ⟨rfl, rfl⟩ := hp
  refine ⟨_, _, hc.mono (Qr' := fun _ _ _ => False) (Qx' := fun E1 h1 z1 => E1 = E ∧ h1 = h0 ∧ z0 ≤ z1) (fun _ _ _ _ q => q) (fun E1 h1 z1 q1 q2 => ⟨q2.1, q2.2, q1⟩), fun v h1 z1 hq => hq.elim, fun E1 h1 z1 hq => ?_⟩
  obtain ⟨rfl, rfl, hz⟩ := hq
  refine ⟨j, hE, ⟨fs, hm⟩, _, hc2 z1, fun v2 h3 z3 hq2 => ?_⟩
  obtain ⟨rfl, rfl, rfl⟩ := hq2
  exact ⟨⟨0, rfl⟩, ⟨_, sv_us, by rw [List.length_set]; exact hlen, sv_ls (by omega)⟩, hI.same hz (fun a q1 q2 => sv_un q1) hm sv_us ⟨_, (sv_un (by omega)).trans (ab_Inv_In G b _ _ hI).2.2.choose_spec⟩⟩
theorem at_refJ {G : sv_G} {MX MM : sv_M} {b : Nat} {names : List String} {as : List Value} {h : sv_h} {z : Nat} {E : String} {fs : List Value} (j : Nat) (hI : ab_Inv G b h z) (hE : names[j]? = some E)
    (hc : CX G MX (.ref b :: as) h z (fun _ _ _ => False) (fun E1 h1 z1 => E1 = E ∧ h1 = h)) (hm : h (b + 220) = some (.inr (11, fs))) (hlen : fs.length = 71)
    (hc2 : ∀ z1, CT G MM (.ref (b + 220) :: as) h z1 (fun v h1 z2 => v = some (.long 0) ∧ h1 = va_up h (b + 220) (some (.inr (11, fs.set 0 (.int (nI (j + 1)))))) ∧ z2 = z1)) : OpJ G MX MM b (b + 220) (b + 261) names as (sv_pt h z) (ab_Inv G b) := by
  intro h0 z0 hp
  obtain ⟨rfl, rfl⟩ := hp
  refine ⟨_, _, hc.mono (Qr' := fun _ _ _ => False) (Qx' := fun E1 h1 z1 => E1 = E ∧ h1 = h0 ∧ z0 ≤ z1) (fun _ _ _ _ q => q) (fun E1 h1 z1 q1 q2 => ⟨q2.1, q2.2, q1⟩), fun v h1 z1 hq => hq.elim, fun E1 h1 z1 hq => ?_⟩
  obtain ⟨rfl, rfl, hz⟩ := hq
  refine ⟨j, hE, ⟨fs, hm⟩, _, hc2 z1, fun v2 h3 z3 hq2 => ?_⟩
  obtain ⟨rfl, rfl, rfl⟩ := hq2
  exact ⟨⟨0, rfl⟩, ⟨_, sv_us, by rw [List.length_set]; exact hlen, sv_ls (by omega)⟩, hI.same hz (fun a q1 q2 => sv_un q1) hm sv_us ⟨_, (sv_un (by omega)).trans (ab_Inv_In G b _ _ hI).2.2.choose_spec⟩⟩
theorem at_purJ {G : sv_G} {MX MM : sv_M} {b : Nat} {names : List String} {as : List Value} {h : sv_h} {z : Nat} {w : Int64} {fs : List Value} (hI : ab_Inv G b h z)
    (hc : CX G MX (.ref b :: as) h z (fun v h1 z1 => v = some (.long w) ∧ h1 = h ∧ z1 = z) (fun _ _ _ => False)) (hm : h (b + 220) = some (.inr (11, fs))) (hlen : fs.length = 71)
    (hc2 : ∀ h2 : sv_h, (∀ a, a ≠ b + 261 → h2 a = h a) → CT G MM (.ref (b + 220) :: as) h2 z (fun v h3 z2 => v = some (.long w) ∧ h3 = va_up h2 (b + 220) (some (.inr (11, fs.set 0 (.int 0)))) ∧ z2 = z)) : OpJ G MX MM b (b + 220) (b + 261) names as (sv_pt h z) (ab_Inv G b) := by
  intro h0 z0 hp
  obtain ⟨rfl, rfl⟩ := hp
  refine ⟨_, _, hc, fun v h1 z1 hq => ?_, fun E1 h1 z1 hq => hq.elim⟩
  obtain ⟨rfl, rfl, rfl⟩ := hq
  refine ⟨w, rfl, (ab_Inv_In G b _ _ hI).2.2, by omega, ⟨fs, hm⟩, fun h2 g e1 e2 e3 => ⟨_, hc2 h2 e3, fun v2 h3 z3 hq2 => ?_⟩⟩
  obtain ⟨rfl, rfl, rfl⟩ := hq2
  exact ⟨rfl, ⟨_, sv_us, by rw [List.length_set]; exact hlen, sv_ls (by omega)⟩, (sv_un (by omega)).trans e1, hI.same (Nat.le_refl _) (fun a q1 q2 => (sv_un q1).trans (e3 a q2)) hm sv_us ⟨_, (sv_un (by omega)).trans e1⟩⟩
