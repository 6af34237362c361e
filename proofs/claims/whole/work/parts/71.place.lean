section SVZ
variable {G : sv_G} {M : sv_M} {P : sv_P} {pc : Nat} {L : List (Nat × Value)} {S : List Value} {h : sv_h} {z ce sl : Nat}
theorem v_zaldS {a N : Nat} {f : Nat → Int32} {i v : Int32} (hdg : decode M.1 pc = .ok (.baload, 1)) (ha : h a = some (.inl (G.2.2.1 2, N, .inl f))) (hin : vp_in i N) (hv : f i.toNatClampNeg = v) (kk : V G M P (pc + 1) L (.int v :: S) h z ce sl) : V G M P pc L (.int i :: .ref a :: S) h z ce sl := v_zald hdg ha hin (by rw [hv]; exact kk)
theorem v_zast {a N : Nat} {f : Nat → Int32} {i x y : Int32} (hdg : decode M.1 pc = .ok (.bastore, 1)) (ha : h a = some (.inl (G.2.2.1 2, N, .inl f))) (hin : vp_in i N) (hv : vp_nar .boolean x = y) (kk : V G M P (pc + 1) L S (va_up h a (some (.inl (G.2.2.1 2, N, .inl (upd f i.toNatClampNeg y))))) z ce sl) : V G M P pc L (.int x :: .int i :: .ref a :: S) h z ce sl := by
  subst hv
  intro p e s m args below meth c H locs ls C K Z hS hH hl
  refine W.zast C.1 C.2.1 (hH.2.2 a _ ha).2 ((K.1.2 2 _ rfl).1 N (fun j => .int (f j))) (fun q => by cases q) (by show ¬ (i < 0 ∨ (arrV _ _ _).slots.size ≤ _); rw [arrV_size]; exact hin) rfl rfl hdg fun H1 e1 z1 oq => ?_
  refine kk p e s m args below meth c H1 _ ls C K Z (hS.put z1 oq (hH.2.2 a _ ha).1) (hH.set ha ?_ z1 oq) hl
  show H1[a]? = some (vp_cell _ _)
  rw [e1, vp_cell_i, vp_cell_i, arrV_store]
  congr 2
  funext q
  by_cases hq : q = i.toNatClampNeg
  · subst hq
    simp [updV, upd, vp_nar]
    try rfl
  · simp [updV, upd, hq]
end SVZ
abbrev mX3_addPlace : sv_M := (cX3_addPlace, 6, yX3_addPlace, wsX3_addPlace, (some .int), { frames := 2, cells := 1, slots := 4, locals := 40 }, [])
set_option maxHeartbeats 4000000 in
set_option maxRecDepth 100000 in
theorem c_addPlace (G : sv_G) (h : sv_h) (z ly pl : Nat) (c of x y tu : Int32) (fh fo : Nat → Int32) (fm : Nat → Option Nat) (po hd hs mo he nh : Nat) (k cs pn : Int32) (hly : h ly = some (.inr (1, [.int k, .int cs, .ref po, .int pn, .ref hd, .ref hs, .ref mo, .int (nI pl), .ref he, .ref nh]))) (hh1 : ab_I G h hd 32 fh) (hh2 : ab_I G h hs 32 fo) (hh3 : h mo = some (.inl (G.2.2.1 3, 32, .inr (.inr (.inr (.inr fm)))))) (hn : pl < 32) (d1 : ly < z) (d2 : hd < z) (d3 : hs < z) (d4 : mo < z) (e1 : ly ≠ hd) (e2 : ly ≠ hs) (e3 : ly ≠ mo) (e4 : hd ≠ hs) (e5 : hd ≠ mo) (e6 : hs ≠ mo) : CT G mX3_addPlace [.ref ly, .int c, .int of, .int x, .int y, .int tu] h z (fun v h1 z1 => v = some (.int (nI pl + 1 - 1)) ∧ z1 = z + 1 ∧ h1 ly = some (.inr (1, [.int k, .int cs, .ref po, .int pn, .ref hd, .ref hs, .ref mo, .int (nI pl + 1), .ref he, .ref nh])) ∧ ab_I G h1 hd 32 (upd fh pl c) ∧ ab_I G h1 hs 32 (upd fo pl of) ∧ h1 mo = some (.inl (G.2.2.1 3, 32, .inr (.inr (.inr (.inr (va_up fm pl (some z))))))) ∧ h1 z = some (.inr (2, [.int (if tu < 4 then 0 else 1), .int (tu &&& 3), .int x, .int y])) ∧ ∀ a, a < z → a ≠ ly → a ≠ hd → a ≠ hs → a ≠ mo → h1 a = h a) := by
  refine CT.of (by decide +kernel) rfl rfl (Nat.le_of_ble_eq_true rfl) ?_
  refine v_aload_n dX3_addPlace_0 rfl 0 rfl ?_
  refine v_getf 4 (ci := 1) (C := RX3) (T := TX3) (N := 10) rfl iwX3_addPlace_X3 (Nat.le_of_ble_eq_true rfl) (by decide +kernel) dX3_addPlace_1 (by repeat (first | (with_reducible refine sv_us.trans ?_; exact rfl) | with_reducible assumption | with_reducible refine (sv_un (by omega)).trans ?_)) rfl ?_
  refine v_aload_n dX3_addPlace_4 rfl 0 rfl ?_
  refine v_getf 7 (ci := 1) (C := RX3) (T := TX3) (N := 10) rfl iwX3_addPlace_X3 (Nat.le_of_ble_eq_true rfl) (by decide +kernel) dX3_addPlace_5 (by repeat (first | (with_reducible refine sv_us.trans ?_; exact rfl) | with_reducible assumption | with_reducible refine (sv_un (by omega)).trans ?_)) rfl ?_
  refine v_iload_n dX3_addPlace_8 rfl 1 rfl ?_
  refine v_iast dX3_addPlace_9 (by repeat (first | (with_reducible refine sv_us.trans ?_; exact rfl) | with_reducible assumption | with_reducible refine (sv_un (by omega)).trans ?_)) (vp_in_nI hn (by omega)) ?_
  refine v_aload_n dX3_addPlace_10 rfl 0 rfl ?_
  refine v_getf 5 (ci := 1) (C := RX3) (T := TX3) (N := 10) rfl iwX3_addPlace_X3 (Nat.le_of_ble_eq_true rfl) (by decide +kernel) dX3_addPlace_11 (by repeat (first | (with_reducible refine sv_us.trans ?_; exact rfl) | with_reducible assumption | with_reducible refine (sv_un (by omega)).trans ?_)) rfl ?_
  refine v_aload_n dX3_addPlace_14 rfl 0 rfl ?_
  refine v_getf 7 (ci := 1) (C := RX3) (T := TX3) (N := 10) rfl iwX3_addPlace_X3 (Nat.le_of_ble_eq_true rfl) (by decide +kernel) dX3_addPlace_15 (by repeat (first | (with_reducible refine sv_us.trans ?_; exact rfl) | with_reducible assumption | with_reducible refine (sv_un (by omega)).trans ?_)) rfl ?_
  refine v_iload_n dX3_addPlace_18 rfl 2 rfl ?_
  refine v_iast dX3_addPlace_19 (by repeat (first | (with_reducible refine sv_us.trans ?_; exact rfl) | with_reducible assumption | with_reducible refine (sv_un (by omega)).trans ?_)) (vp_in_nI hn (by omega)) ?_
  refine v_aload_n dX3_addPlace_20 rfl 0 rfl ?_
  refine v_getf 6 (ci := 1) (C := RX3) (T := TX3) (N := 10) rfl iwX3_addPlace_X3 (Nat.le_of_ble_eq_true rfl) (by decide +kernel) dX3_addPlace_21 (by repeat (first | (with_reducible refine sv_us.trans ?_; exact rfl) | with_reducible assumption | with_reducible refine (sv_un (by omega)).trans ?_)) rfl ?_
  refine v_aload_n dX3_addPlace_24 rfl 0 rfl ?_
  refine v_getf 7 (ci := 1) (C := RX3) (T := TX3) (N := 10) rfl iwX3_addPlace_X3 (Nat.le_of_ble_eq_true rfl) (by decide +kernel) dX3_addPlace_25 (by repeat (first | (with_reducible refine sv_us.trans ?_; exact rfl) | with_reducible assumption | with_reducible refine (sv_un (by omega)).trans ?_)) rfl ?_
  refine v_new (ci := 2) (C := RX4) (T := TX4) (N := 4) (fs := [.int 0, .int 0, .int 0, .int 0]) rfl iwX3_addPlace_X4 tyX4 tyX4_ok (by decide +kernel) (by decide +kernel) (by decide +kernel) dX3_addPlace_28 (by decide +kernel) (Nat.le_of_ble_eq_true rfl) (Nat.le_of_ble_eq_true rfl) ?_
  refine v_dup dX3_addPlace_31 rfl ?_
  refine v_callIN (M' := mX4_init) (n := 0) (As := []) ggX3_addPlace_X4_init (by decide +kernel) (by decide +kernel) (by decide +kernel) rfl rfl (by decide +kernel) ⟨(Nat.le_of_ble_eq_true rfl), (Nat.le_of_ble_eq_true rfl)⟩ dX3_addPlace_32 rfl ⟨(Nat.le_of_ble_eq_true rfl), (Nat.le_of_ble_eq_true rfl)⟩ (Nat.le_of_ble_eq_true rfl) rfl (c_Move_init G _ _ _) (fun v h1 z1 hq => ?_)
  obtain ⟨rfl, rfl, rfl⟩ := hq
  refine v_aast (t := 3) (r := (RX4, TX4, 4)) (ci := 2) dX3_addPlace_35 (fun _ => rfl) rfl (by repeat (first | (with_reducible refine sv_us.trans ?_; exact rfl) | with_reducible assumption | with_reducible refine (sv_un (by omega)).trans ?_)) (by repeat (first | with_reducible exact sv_us | with_reducible refine (sv_un (by omega)).trans ?_)) (vp_in_nI hn (by omega)) ?_
  refine v_aload_n dX3_addPlace_36 rfl 0 rfl ?_
  refine v_getf 6 (ci := 1) (C := RX3) (T := TX3) (N := 10) rfl iwX3_addPlace_X3 (Nat.le_of_ble_eq_true rfl) (by decide +kernel) dX3_addPlace_37 (by repeat (first | (with_reducible refine sv_us.trans ?_; exact rfl) | with_reducible assumption | with_reducible refine (sv_un (by omega)).trans ?_)) rfl ?_
  refine v_aload_n dX3_addPlace_40 rfl 0 rfl ?_
  refine v_getf 7 (ci := 1) (C := RX3) (T := TX3) (N := 10) rfl iwX3_addPlace_X3 (Nat.le_of_ble_eq_true rfl) (by decide +kernel) dX3_addPlace_41 (by repeat (first | (with_reducible refine sv_us.trans ?_; exact rfl) | with_reducible assumption | with_reducible refine (sv_un (by omega)).trans ?_)) rfl ?_
  refine v_aaldS (t := 3) (q := z) dX3_addPlace_44 (fun _ => rfl) (by repeat (first | (with_reducible refine sv_us.trans ?_; exact rfl) | with_reducible assumption | with_reducible refine (sv_un (by omega)).trans ?_)) (vp_in_nI hn (by omega)) (by rw [nI_clamp (by omega)]; exact sv_us) ?_
  refine v_iload dX3_addPlace_45 5 rfl ?_
  refine v_iload_n dX3_addPlace_47 rfl 3 rfl ?_
  refine v_iload dX3_addPlace_48 4 rfl ?_
  refine v_callV (M' := mX4_set) (n := 3) (As := [_, _, _]) (ci := 2) (r := (RX4, TX4, 4)) gX3_addPlace_X4_set rfl (by decide +kernel) ⟨(Nat.le_of_ble_eq_true rfl), (Nat.le_of_ble_eq_true rfl)⟩ rfl rfl dX3_addPlace_50 rfl ⟨(Nat.le_of_ble_eq_true rfl), (Nat.le_of_ble_eq_true rfl)⟩ (Nat.le_of_ble_eq_true rfl) (by repeat (first | (with_reducible refine sv_us.trans ?_; exact rfl) | with_reducible assumption | with_reducible refine (sv_un (by omega)).trans ?_)) rfl (c_Move_set G _ _ z tu x y 0 0 0 0 (by repeat (first | (with_reducible refine sv_us.trans ?_; exact rfl) | with_reducible refine (sv_un (by omega)).trans ?_))) (fun v h1 z1 hq => ?_)
  obtain ⟨rfl, rfl, rfl⟩ := hq
  refine v_aload_n dX3_addPlace_53 rfl 0 rfl ?_
  refine v_dup dX3_addPlace_54 rfl ?_
  refine v_getf 7 (ci := 1) (C := RX3) (T := TX3) (N := 10) rfl iwX3_addPlace_X3 (Nat.le_of_ble_eq_true rfl) (by decide +kernel) dX3_addPlace_55 (by repeat (first | (with_reducible refine sv_us.trans ?_; exact rfl) | with_reducible assumption | with_reducible refine (sv_un (by omega)).trans ?_)) rfl ?_
  refine v_iconst (v := 1) dX3_addPlace_58 (by decide) ?_
  refine v_iadd dX3_addPlace_59 ?_
  refine v_putf 7 (fs' := [_, _, _, _, _, _, _, _, _, _]) (ci := 1) (C := RX3) (T := TX3) (N := 10) (ty := .int) rfl iwX3_addPlace_X3 tyX3 tyX3_ok nmX3 (Nat.le_of_ble_eq_true rfl) (by decide +kernel) rfl rfl dX3_addPlace_60 rfl rfl (by repeat (first | (with_reducible refine sv_us.trans ?_; exact rfl) | with_reducible assumption | with_reducible refine (sv_un (by omega)).trans ?_)) (Nat.le_of_ble_eq_true rfl) rfl ?_
  refine v_aload_n dX3_addPlace_63 rfl 0 rfl ?_
  refine v_getf 7 (ci := 1) (C := RX3) (T := TX3) (N := 10) rfl iwX3_addPlace_X3 (Nat.le_of_ble_eq_true rfl) (by decide +kernel) dX3_addPlace_64 (by repeat (first | (with_reducible refine sv_us.trans ?_; exact rfl) | with_reducible assumption | with_reducible refine (sv_un (by omega)).trans ?_)) rfl ?_
  refine v_iconst (v := 1) dX3_addPlace_67 (by decide) ?_
  refine v_isub dX3_addPlace_68 ?_
  exact v_iret rfl dX3_addPlace_69 (Nat.le_of_ble_eq_true rfl) (Nat.le_of_ble_eq_true rfl) rfl (by
    have ecl : (nI pl).toNatClampNeg = pl := nI_clamp (by omega)
    rw [ecl]
    exact ⟨rfl, rfl, (by repeat (first | with_reducible assumption | with_reducible exact sv_us | with_reducible refine (sv_un (by omega)).trans ?_)), (by repeat (first | with_reducible assumption | with_reducible exact sv_us | with_reducible refine (sv_un (by omega)).trans ?_)), (by repeat (first | with_reducible assumption | with_reducible exact sv_us | with_reducible refine (sv_un (by omega)).trans ?_)), (by repeat (first | with_reducible assumption | with_reducible exact sv_us | with_reducible refine (sv_un (by omega)).trans ?_)), (by repeat (first | with_reducible assumption | with_reducible exact sv_us | with_reducible refine (sv_un (by omega)).trans ?_)), (fun a q1 q2 q3 q4 q5 => by repeat (first | with_reducible rfl | with_reducible refine (sv_un (by omega)).trans ?_))⟩)

theorem iwX13_markUnder_X13 : ∀ w ∈ wsX130, w ∈ wsX13_markUnder := by decide +kernel
theorem dX13_markUnder_0 : decode cX13_markUnder 0 = .ok (.iconst 0, 1) := by decide +kernel
theorem dX13_markUnder_1 : decode cX13_markUnder 1 = .ok (.istore_n 2, 1) := by decide +kernel
theorem dX13_markUnder_2 : decode cX13_markUnder 2 = .ok (.iload_n 2, 1) := by decide +kernel
theorem dX13_markUnder_3 : decode cX13_markUnder 3 = .ok (.bipush 16, 2) := by decide +kernel
theorem dX13_markUnder_5 : decode cX13_markUnder 5 = .ok (.if_icmp .ge 25, 3) := by decide +kernel
theorem dX13_markUnder_8 : decode cX13_markUnder 8 = .ok (.aload_n 0, 1) := by decide +kernel
theorem dX13_markUnder_9 : decode cX13_markUnder 9 = .ok (.getfield 82, 3) := by decide +kernel
theorem dX13_markUnder_12 : decode cX13_markUnder 12 = .ok (.iload_n 2, 1) := by decide +kernel
theorem dX13_markUnder_13 : decode cX13_markUnder 13 = .ok (.iload_n 2, 1) := by decide +kernel
theorem dX13_markUnder_14 : decode cX13_markUnder 14 = .ok (.iload_n 1, 1) := by decide +kernel
theorem dX13_markUnder_15 : decode cX13_markUnder 15 = .ok (.if_icmp .ne 7, 3) := by decide +kernel
theorem dX13_markUnder_18 : decode cX13_markUnder 18 = .ok (.iconst 1, 1) := by decide +kernel
theorem dX13_markUnder_19 : decode cX13_markUnder 19 = .ok (.goto 4, 3) := by decide +kernel
theorem dX13_markUnder_22 : decode cX13_markUnder 22 = .ok (.iconst 0, 1) := by decide +kernel
theorem dX13_markUnder_23 : decode cX13_markUnder 23 = .ok (.bastore, 1) := by decide +kernel
theorem dX13_markUnder_24 : decode cX13_markUnder 24 = .ok (.iinc 2 1, 3) := by decide +kernel
theorem dX13_markUnder_27 : decode cX13_markUnder 27 = .ok (.goto (-25), 3) := by decide +kernel
theorem dX13_markUnder_30 : decode cX13_markUnder 30 = .ok (.iconst 1, 1) := by decide +kernel
theorem dX13_markUnder_31 : decode cX13_markUnder 31 = .ok (.istore_n 2, 1) := by decide +kernel
theorem dX13_markUnder_32 : decode cX13_markUnder 32 = .ok (.iload_n 2, 1) := by decide +kernel
theorem dX13_markUnder_33 : decode cX13_markUnder 33 = .ok (.ifCond .eq 66, 3) := by decide +kernel
theorem dX13_markUnder_36 : decode cX13_markUnder 36 = .ok (.iconst 0, 1) := by decide +kernel
theorem dX13_markUnder_37 : decode cX13_markUnder 37 = .ok (.istore_n 2, 1) := by decide +kernel
theorem dX13_markUnder_38 : decode cX13_markUnder 38 = .ok (.iconst 0, 1) := by decide +kernel
theorem dX13_markUnder_39 : decode cX13_markUnder 39 = .ok (.istore_n 3, 1) := by decide +kernel
theorem dX13_markUnder_40 : decode cX13_markUnder 40 = .ok (.iload_n 3, 1) := by decide +kernel
theorem dX13_markUnder_41 : decode cX13_markUnder 41 = .ok (.aload_n 0, 1) := by decide +kernel
theorem dX13_markUnder_42 : decode cX13_markUnder 42 = .ok (.getfield 169, 3) := by decide +kernel
theorem dX13_markUnder_45 : decode cX13_markUnder 45 = .ok (.if_icmp .ge 51, 3) := by decide +kernel
theorem dX13_markUnder_48 : decode cX13_markUnder 48 = .ok (.aload_n 0, 1) := by decide +kernel
theorem dX13_markUnder_49 : decode cX13_markUnder 49 = .ok (.getfield 82, 3) := by decide +kernel
theorem dX13_markUnder_52 : decode cX13_markUnder 52 = .ok (.aload_n 0, 1) := by decide +kernel
theorem dX13_markUnder_53 : decode cX13_markUnder 53 = .ok (.getfield 29, 3) := by decide +kernel
theorem dX13_markUnder_56 : decode cX13_markUnder 56 = .ok (.iload_n 3, 1) := by decide +kernel
theorem dX13_markUnder_57 : decode cX13_markUnder 57 = .ok (.iaload, 1) := by decide +kernel
theorem dX13_markUnder_58 : decode cX13_markUnder 58 = .ok (.baload, 1) := by decide +kernel
theorem dX13_markUnder_59 : decode cX13_markUnder 59 = .ok (.ifCond .eq 31, 3) := by decide +kernel
theorem dX13_markUnder_62 : decode cX13_markUnder 62 = .ok (.aload_n 0, 1) := by decide +kernel
theorem dX13_markUnder_63 : decode cX13_markUnder 63 = .ok (.getfield 82, 3) := by decide +kernel
theorem dX13_markUnder_66 : decode cX13_markUnder 66 = .ok (.aload_n 0, 1) := by decide +kernel
theorem dX13_markUnder_67 : decode cX13_markUnder 67 = .ok (.getfield 32, 3) := by decide +kernel
theorem dX13_markUnder_70 : decode cX13_markUnder 70 = .ok (.iload_n 3, 1) := by decide +kernel
theorem dX13_markUnder_71 : decode cX13_markUnder 71 = .ok (.iaload, 1) := by decide +kernel
theorem dX13_markUnder_72 : decode cX13_markUnder 72 = .ok (.baload, 1) := by decide +kernel
theorem dX13_markUnder_73 : decode cX13_markUnder 73 = .ok (.ifCond .ne 17, 3) := by decide +kernel
theorem dX13_markUnder_76 : decode cX13_markUnder 76 = .ok (.aload_n 0, 1) := by decide +kernel
theorem dX13_markUnder_77 : decode cX13_markUnder 77 = .ok (.getfield 82, 3) := by decide +kernel
theorem dX13_markUnder_80 : decode cX13_markUnder 80 = .ok (.aload_n 0, 1) := by decide +kernel
theorem dX13_markUnder_81 : decode cX13_markUnder 81 = .ok (.getfield 32, 3) := by decide +kernel
theorem dX13_markUnder_84 : decode cX13_markUnder 84 = .ok (.iload_n 3, 1) := by decide +kernel
theorem dX13_markUnder_85 : decode cX13_markUnder 85 = .ok (.iaload, 1) := by decide +kernel
theorem dX13_markUnder_86 : decode cX13_markUnder 86 = .ok (.iconst 1, 1) := by decide +kernel
theorem dX13_markUnder_87 : decode cX13_markUnder 87 = .ok (.bastore, 1) := by decide +kernel
theorem dX13_markUnder_88 : decode cX13_markUnder 88 = .ok (.iconst 1, 1) := by decide +kernel
theorem dX13_markUnder_89 : decode cX13_markUnder 89 = .ok (.istore_n 2, 1) := by decide +kernel
theorem dX13_markUnder_90 : decode cX13_markUnder 90 = .ok (.iinc 3 1, 3) := by decide +kernel
theorem dX13_markUnder_93 : decode cX13_markUnder 93 = .ok (.goto (-53), 3) := by decide +kernel
theorem dX13_markUnder_96 : decode cX13_markUnder 96 = .ok (.goto (-64), 3) := by decide +kernel
theorem dX13_markUnder_99 : decode cX13_markUnder 99 = .ok (.return_, 1) := by decide +kernel

abbrev mX13_markUnder : sv_M := (cX13_markUnder, 4, yX13_markUnder, wsX13_markUnder, none, { frames := 0, cells := 0, slots := 0, locals := 0 }, [])
set_option maxHeartbeats 4000000 in
set_option maxRecDepth 100000 in
theorem l_mark0 (G : sv_G) (P : sv_P) (h : sv_h) (z b pl nc : Nat) (fs : List Value) (p3 p4 : Nat → Nat) (fh fo : Nat → Int32) (hlen : fs.length = 71) (hm : h (b + 220) = some (.inr (11, fs))) (f_under : fs[35]? = some (.ref (b + 243))) (f_places : fs[10]? = some (.int (nI pl))) (f_placeIn : fs[11]? = some (.ref (b + 227))) (f_placeOf : fs[12]? = some (.ref (b + 228))) (hh1 : ab_I G h (b + 227) 32 fh) (hh2 : ab_I G h (b + 228) 32 fo) (hpl : pl ≤ 32) (hnc : nc ≤ 16) (hpp : ∀ i, i < pl → fh i = nI (p3 i) ∧ fo i = nI (p4 i) ∧ p3 i < nc ∧ p4 i < nc) (cl : Nat) (hcl : cl < nc) (hk : ∀ (hi : sv_h) (uf : Nat → Int32) (w2 : Int32), ab_Z G hi (b + 243) 16 uf → (∀ d, d < 16 → uf d = if d = cl then 1 else 0) → (∀ w, w ≠ b + 243 → hi w = h w) → V G mX13_markUnder P 30 [(2, .int (w2)), (0, .ref (b + 220)), (1, .int (nI cl))] [] hi z 0 0) : ∀ (c i : Nat) (hi : sv_h) (uf : Nat → Int32), i + c = 16 → ab_Z G hi (b + 243) 16 uf → (∀ d, d < i → uf d = if d = cl then 1 else 0) → (∀ w, w ≠ b + 243 → hi w = h w) → V G mX13_markUnder P 2 [(2, .int (nI i)), (0, .ref (b + 220)), (1, .int (nI cl))] [] hi z 0 0 := by
  intro c
  induction c with
  | zero =>
    intro i hi uf hic hu hud hfr
    refine v_iload_n dX13_markUnder_2 rfl 0 rfl ?_
    refine v_bipush (v := 16) dX13_markUnder_3 (by decide) ?_
    refine v_icmp_ge (tgt := 30) dX13_markUnder_5 (by decide) (fun c_5 => ?_) (fun c_5 => ?_)
    · (obtain rfl : i = 16 := by omega)
      exact hk _ uf _ hu hud hfr
    · exact absurd (show (16 : Int32) ≤ nI i from nI_le (a := 16) (by omega) (by omega)) c_5
  | succ c ih =>
    intro i hi uf hic hu hud hfr
    refine v_iload_n dX13_markUnder_2 rfl 0 rfl ?_
    refine v_bipush (v := 16) dX13_markUnder_3 (by decide) ?_
    refine v_icmp_ge (tgt := 30) dX13_markUnder_5 (by decide) (fun c_5 => ?_) (fun c_5 => ?_)
    · exact absurd c_5 (nI_ge (b := 16) (by omega) (by omega))
    · refine v_aload_n dX13_markUnder_8 rfl 1 rfl ?_
      refine v_getf 35 (ci := 11) (C := RX13) (T := TX13) (N := 71) rfl iwX13_markUnder_X13 (Nat.le_of_ble_eq_true rfl) (by decide +kernel) dX13_markUnder_9 (by first | with_reducible assumption | exact (hfr _ (by omega)).trans hm | exact (hfr _ (by omega)).trans hh1 | exact (hfr _ (by omega)).trans hh2) (by repeat (first | with_reducible assumption | (with_reducible refine (sv_ls (by first | omega | (simp only [List.length_set]; omega))).trans ?_; exact rfl) | with_reducible refine (List.getElem?_set_ne (by decide)).trans ?_)) ?_
      refine v_iload_n dX13_markUnder_12 rfl 0 rfl ?_
      refine v_iload_n dX13_markUnder_13 rfl 0 rfl ?_
      refine v_iload_n dX13_markUnder_14 rfl 2 rfl ?_
      refine v_icmp_ne (tgt := 22) dX13_markUnder_15 (by decide) (fun c_15 => ?_) (fun c_15 => ?_)
      · refine v_iconst (v := 0) dX13_markUnder_22 (by decide) ?_
        refine v_zast (y := 0) dX13_markUnder_23 (by first | with_reducible assumption | exact (hfr _ (by omega)).trans hm | exact (hfr _ (by omega)).trans hh1 | exact (hfr _ (by omega)).trans hh2) (vp_in_nI (by omega) (by omega)) rfl ?_
        refine v_iinc (j := 0) (L' := [(2, _), (0, _), (1, _)]) (v := nI (i + 1)) dX13_markUnder_24 rfl (nI_1 _) (Nat.le_of_ble_eq_true rfl) rfl ?_
        refine v_goto (tgt := 2) dX13_markUnder_27 (by decide) ?_
        refine v_sub (L' := [(2, _), (0, _), (1, _)]) [0, 1, 2] rfl ?_
        rw [nI_clamp (n := i) (by omega)]
        refine ih (i + 1) _ _ (by omega) sv_us (fun d hd => ?_) (fun w q => (sv_un q).trans (hfr w q))
        by_cases e : d = i
        · rw [e]
          simp only [upd, if_true]
          first
          | exact (if_pos ((nI_eq (by omega) (by omega)).mp c_15)).symm
          | exact (if_neg (fun q => c_15 (by rw [q]))).symm
        · simp only [upd, if_neg e]; exact hud d (by omega)
      · refine v_iconst (v := 1) dX13_markUnder_18 (by decide) ?_
        refine v_goto (tgt := 23) dX13_markUnder_19 (by decide) ?_
        refine v_zast (y := 1) dX13_markUnder_23 (by first | with_reducible assumption | exact (hfr _ (by omega)).trans hm | exact (hfr _ (by omega)).trans hh1 | exact (hfr _ (by omega)).trans hh2) (vp_in_nI (by omega) (by omega)) rfl ?_
        refine v_iinc (j := 0) (L' := [(2, _), (0, _), (1, _)]) (v := nI (i + 1)) dX13_markUnder_24 rfl (nI_1 _) (Nat.le_of_ble_eq_true rfl) rfl ?_
        refine v_goto (tgt := 2) dX13_markUnder_27 (by decide) ?_
        refine v_sub (L' := [(2, _), (0, _), (1, _)]) [0, 1, 2] rfl ?_
        rw [nI_clamp (n := i) (by omega)]
        refine ih (i + 1) _ _ (by omega) sv_us (fun d hd => ?_) (fun w q => (sv_un q).trans (hfr w q))
        by_cases e : d = i
        · rw [e]
          simp only [upd, if_true]
          first
          | exact (if_pos ((nI_eq (by omega) (by omega)).mp c_15)).symm
          | exact (if_neg (fun q => c_15 (by rw [q]))).symm
        · simp only [upd, if_neg e]; exact hud d (by omega)

/-- which cells are marked -/
def ub (uf : Nat → Int32) (d : Nat) : Bool := decide (¬ uf d = 0)
theorem ub_t {uf : Nat → Int32} {d : Nat} : ub uf d = true ↔ ¬ uf d = 0 := by unfold ub; exact decide_eq_true_iff
theorem ub_up {uf : Nat → Int32} {d e : Nat} : ub (upd uf d 1) e = true ↔ (e = d ∨ ub uf e = true) := by
  rw [ub_t, ub_t]
  unfold upd
  by_cases q : e = d
  · rw [if_pos q]; exact ⟨fun _ => Or.inl q, fun _ => by decide⟩
  · rw [if_neg q]; exact ⟨fun r => Or.inr r, fun r => r.resolve_left q⟩
set_option maxHeartbeats 4000000 in
set_option maxRecDepth 100000 in
theorem l_mark1 (G : sv_G) (P : sv_P) (h : sv_h) (z b pl nc : Nat) (fs : List Value) (p3 p4 : Nat → Nat) (fh fo : Nat → Int32) (hlen : fs.length = 71) (hm : h (b + 220) = some (.inr (11, fs))) (f_under : fs[35]? = some (.ref (b + 243))) (f_places : fs[10]? = some (.int (nI pl))) (f_placeIn : fs[11]? = some (.ref (b + 227))) (f_placeOf : fs[12]? = some (.ref (b + 228))) (hh1 : ab_I G h (b + 227) 32 fh) (hh2 : ab_I G h (b + 228) 32 fo) (hpl : pl ≤ 32) (hnc : nc ≤ 16) (hpp : ∀ i, i < pl → fh i = nI (p3 i) ∧ fo i = nI (p4 i) ∧ p3 i < nc ∧ p4 i < nc) (cl : Nat) (u0 : Nat → Int32) (hk : ∀ (hi : sv_h) (uf : Nat → Int32) (w w3 : Int32), ab_Z G hi (b + 243) 16 uf → (∀ d, d < 16 → ub u0 d = true → ub uf d = true) → (∀ d, d < 16 → ub uf d = true → d < nc ∧ gr_R pl p3 p4 cl d) → ((w = 0 ∧ uf = u0 ∧ ∀ j, j < pl → ub u0 (p3 j) = true → ub u0 (p4 j) = true) ∨ (w = 1 ∧ cn (ub u0) 16 < cn (ub uf) 16)) → (∀ w, w ≠ b + 243 → hi w = h w) → V G mX13_markUnder P 96 [(3, .int (w3)), (2, .int w), (0, .ref (b + 220)), (1, .int (nI cl))] [] hi z 0 0) : ∀ (c i : Nat) (hi : sv_h) (uf : Nat → Int32) (w : Int32), i + c = pl → ab_Z G hi (b + 243) 16 uf → (∀ d, d < 16 → ub u0 d = true → ub uf d = true) → (∀ d, d < 16 → ub uf d = true → d < nc ∧ gr_R pl p3 p4 cl d) → ((w = 0 ∧ uf = u0 ∧ ∀ j, j < i → ub u0 (p3 j) = true → ub u0 (p4 j) = true) ∨ (w = 1 ∧ cn (ub u0) 16 < cn (ub uf) 16)) → (∀ w, w ≠ b + 243 → hi w = h w) → V G mX13_markUnder P 40 [(3, .int (nI i)), (2, .int w), (0, .ref (b + 220)), (1, .int (nI cl))] [] hi z 0 0 := by
  intro c
  induction c with
  | zero =>
    intro i hi uf w hic hu k1 k2 k3 hfr
    refine v_iload_n dX13_markUnder_40 rfl 0 rfl ?_
    refine v_aload_n dX13_markUnder_41 rfl 2 rfl ?_
    refine v_getf 10 (ci := 11) (C := RX13) (T := TX13) (N := 71) rfl iwX13_markUnder_X13 (Nat.le_of_ble_eq_true rfl) (by decide +kernel) dX13_markUnder_42 (by first | with_reducible assumption | exact (hfr _ (by omega)).trans hm | exact (hfr _ (by omega)).trans hh1 | exact (hfr _ (by omega)).trans hh2) (by repeat (first | with_reducible assumption | (with_reducible refine (sv_ls (by first | omega | (simp only [List.length_set]; omega))).trans ?_; exact rfl) | with_reducible refine (List.getElem?_set_ne (by decide)).trans ?_)) ?_
    refine v_icmp_ge (tgt := 96) dX13_markUnder_45 (by decide) (fun c_45 => ?_) (fun c_45 => ?_)
    · exact hk _ uf _ _ hu k1 k2 (k3.imp (fun q => ⟨q.1, q.2.1, fun j hj => q.2.2 j (by omega)⟩) (fun q => q)) hfr
    · exact absurd (show nI pl ≤ nI i from nI_le (by omega) (by omega)) c_45
  | succ c ih =>
    intro i hi uf w hic hu k1 k2 k3 hfr
    refine v_iload_n dX13_markUnder_40 rfl 0 rfl ?_
    refine v_aload_n dX13_markUnder_41 rfl 2 rfl ?_
    refine v_getf 10 (ci := 11) (C := RX13) (T := TX13) (N := 71) rfl iwX13_markUnder_X13 (Nat.le_of_ble_eq_true rfl) (by decide +kernel) dX13_markUnder_42 (by first | with_reducible assumption | exact (hfr _ (by omega)).trans hm | exact (hfr _ (by omega)).trans hh1 | exact (hfr _ (by omega)).trans hh2) (by repeat (first | with_reducible assumption | (with_reducible refine (sv_ls (by first | omega | (simp only [List.length_set]; omega))).trans ?_; exact rfl) | with_reducible refine (List.getElem?_set_ne (by decide)).trans ?_)) ?_
    refine v_icmp_ge (tgt := 96) dX13_markUnder_45 (by decide) (fun c_45 => ?_) (fun c_45 => ?_)
    · exact absurd c_45 (nI_ge (by omega) (by omega))
    · refine v_aload_n dX13_markUnder_48 rfl 2 rfl ?_
      refine v_getf 35 (ci := 11) (C := RX13) (T := TX13) (N := 71) rfl iwX13_markUnder_X13 (Nat.le_of_ble_eq_true rfl) (by decide +kernel) dX13_markUnder_49 (by first | with_reducible assumption | exact (hfr _ (by omega)).trans hm | exact (hfr _ (by omega)).trans hh1 | exact (hfr _ (by omega)).trans hh2) (by repeat (first | with_reducible assumption | (with_reducible refine (sv_ls (by first | omega | (simp only [List.length_set]; omega))).trans ?_; exact rfl) | with_reducible refine (List.getElem?_set_ne (by decide)).trans ?_)) ?_
      refine v_aload_n dX13_markUnder_52 rfl 2 rfl ?_
      refine v_getf 11 (ci := 11) (C := RX13) (T := TX13) (N := 71) rfl iwX13_markUnder_X13 (Nat.le_of_ble_eq_true rfl) (by decide +kernel) dX13_markUnder_53 (by first | with_reducible assumption | exact (hfr _ (by omega)).trans hm | exact (hfr _ (by omega)).trans hh1 | exact (hfr _ (by omega)).trans hh2) (by repeat (first | with_reducible assumption | (with_reducible refine (sv_ls (by first | omega | (simp only [List.length_set]; omega))).trans ?_; exact rfl) | with_reducible refine (List.getElem?_set_ne (by decide)).trans ?_)) ?_
      refine v_iload_n dX13_markUnder_56 rfl 0 rfl ?_
      refine v_ialdS (v := nI (p3 i)) dX13_markUnder_57 (by first | with_reducible assumption | exact (hfr _ (by omega)).trans hm | exact (hfr _ (by omega)).trans hh1 | exact (hfr _ (by omega)).trans hh2) (vp_in_nI (by omega) (by omega)) (by rw [nI_clamp (by omega)]; exact (hpp i (by omega)).1) ?_
      refine v_zaldS (v := uf (p3 i)) dX13_markUnder_58 (by first | with_reducible assumption | exact (hfr _ (by omega)).trans hm | exact (hfr _ (by omega)).trans hh1 | exact (hfr _ (by omega)).trans hh2) (vp_in_nI (by have := hpp i (by omega); omega) (by omega)) (by rw [nI_clamp (by have := hpp i (by omega); omega)]) ?_
      refine v_if_eq (tgt := 90) dX13_markUnder_59 (by decide) (fun c_59 => ?_) (fun c_59 => ?_)
      · refine v_iinc (j := 0) (L' := [(3, _), (2, _), (0, _), (1, _)]) (v := nI (i + 1)) dX13_markUnder_90 rfl (nI_1 _) (Nat.le_of_ble_eq_true rfl) rfl ?_
        refine v_goto (tgt := 40) dX13_markUnder_93 (by decide) ?_
        refine v_sub (L' := [(3, _), (2, _), (0, _), (1, _)]) [0, 1, 2, 3] rfl ?_
        have hpi := hpp i (by omega)
        have h3 : p3 i < 16 := by omega
        have h4 : p4 i < 16 := by omega
        first
        | (have c9 : uf (p3 i) = 0 := c_59
           exact ih (i + 1) hi uf w (by omega) hu k1 k2 (k3.imp (fun q => ⟨q.1, q.2.1, fun j hj r => by
             by_cases e : j = i
             · rw [e, ← q.2.1] at r; exact absurd c9 (ub_t.mp r)
             · exact q.2.2 j (by omega) r⟩) (fun q => q)) hfr)
        | (have c9 : ¬ uf (p4 i) = 0 := c_73
           exact ih (i + 1) hi uf w (by omega) hu k1 k2 (k3.imp (fun q => ⟨q.1, q.2.1, fun j hj r => by
             by_cases e : j = i
             · rw [e, ← q.2.1]; exact ub_t.mpr c9
             · exact q.2.2 j (by omega) r⟩) (fun q => q)) hfr)
        | (have c9 : ub uf (p3 i) = true := ub_t.mpr c_59
           rw [nI_clamp (n := p4 i) (by omega)]
           refine ih (i + 1) _ _ 1 (by omega) sv_us (fun d hd r => ub_up.mpr (Or.inr (k1 d hd r))) (fun d hd r => ?_) (Or.inr ⟨rfl, ?_⟩) (fun w q => (sv_un q).trans (hfr w q))
           · rcases ub_up.mp r with q | q
             · rw [q]; exact ⟨hpi.2.2.2, (k2 _ h3 c9).2.st (by omega)⟩
             · exact k2 d hd q
           · have q1 : cn (ub uf) 16 < cn (ub (upd uf (p4 i) 1)) 16 := cn_lt 16 (fun d hd r => ub_up.mpr (Or.inr r)) ⟨p4 i, h4, ub_up.mpr (Or.inl rfl), fun r => ub_t.mp r c_73⟩
             have q2 : cn (ub u0) 16 ≤ cn (ub uf) 16 := cn_mono 16 k1
             omega)
      · refine v_aload_n dX13_markUnder_62 rfl 2 rfl ?_
        refine v_getf 35 (ci := 11) (C := RX13) (T := TX13) (N := 71) rfl iwX13_markUnder_X13 (Nat.le_of_ble_eq_true rfl) (by decide +kernel) dX13_markUnder_63 (by first | with_reducible assumption | exact (hfr _ (by omega)).trans hm | exact (hfr _ (by omega)).trans hh1 | exact (hfr _ (by omega)).trans hh2) (by repeat (first | with_reducible assumption | (with_reducible refine (sv_ls (by first | omega | (simp only [List.length_set]; omega))).trans ?_; exact rfl) | with_reducible refine (List.getElem?_set_ne (by decide)).trans ?_)) ?_
        refine v_aload_n dX13_markUnder_66 rfl 2 rfl ?_
        refine v_getf 12 (ci := 11) (C := RX13) (T := TX13) (N := 71) rfl iwX13_markUnder_X13 (Nat.le_of_ble_eq_true rfl) (by decide +kernel) dX13_markUnder_67 (by first | with_reducible assumption | exact (hfr _ (by omega)).trans hm | exact (hfr _ (by omega)).trans hh1 | exact (hfr _ (by omega)).trans hh2) (by repeat (first | with_reducible assumption | (with_reducible refine (sv_ls (by first | omega | (simp only [List.length_set]; omega))).trans ?_; exact rfl) | with_reducible refine (List.getElem?_set_ne (by decide)).trans ?_)) ?_
        refine v_iload_n dX13_markUnder_70 rfl 0 rfl ?_
        refine v_ialdS (v := nI (p4 i)) dX13_markUnder_71 (by first | with_reducible assumption | exact (hfr _ (by omega)).trans hm | exact (hfr _ (by omega)).trans hh1 | exact (hfr _ (by omega)).trans hh2) (vp_in_nI (by omega) (by omega)) (by rw [nI_clamp (by omega)]; exact (hpp i (by omega)).2.1) ?_
        refine v_zaldS (v := uf (p4 i)) dX13_markUnder_72 (by first | with_reducible assumption | exact (hfr _ (by omega)).trans hm | exact (hfr _ (by omega)).trans hh1 | exact (hfr _ (by omega)).trans hh2) (vp_in_nI (by have := hpp i (by omega); omega) (by omega)) (by rw [nI_clamp (by have := hpp i (by omega); omega)]) ?_
        refine v_if_ne (tgt := 90) dX13_markUnder_73 (by decide) (fun c_73 => ?_) (fun c_73 => ?_)
        · refine v_iinc (j := 0) (L' := [(3, _), (2, _), (0, _), (1, _)]) (v := nI (i + 1)) dX13_markUnder_90 rfl (nI_1 _) (Nat.le_of_ble_eq_true rfl) rfl ?_
          refine v_goto (tgt := 40) dX13_markUnder_93 (by decide) ?_
          refine v_sub (L' := [(3, _), (2, _), (0, _), (1, _)]) [0, 1, 2, 3] rfl ?_
          have hpi := hpp i (by omega)
          have h3 : p3 i < 16 := by omega
          have h4 : p4 i < 16 := by omega
          first
          | (have c9 : uf (p3 i) = 0 := c_59
             exact ih (i + 1) hi uf w (by omega) hu k1 k2 (k3.imp (fun q => ⟨q.1, q.2.1, fun j hj r => by
               by_cases e : j = i
               · rw [e, ← q.2.1] at r; exact absurd c9 (ub_t.mp r)
               · exact q.2.2 j (by omega) r⟩) (fun q => q)) hfr)
          | (have c9 : ¬ uf (p4 i) = 0 := c_73
             exact ih (i + 1) hi uf w (by omega) hu k1 k2 (k3.imp (fun q => ⟨q.1, q.2.1, fun j hj r => by
               by_cases e : j = i
               · rw [e, ← q.2.1]; exact ub_t.mpr c9
               · exact q.2.2 j (by omega) r⟩) (fun q => q)) hfr)
          | (have c9 : ub uf (p3 i) = true := ub_t.mpr c_59
             rw [nI_clamp (n := p4 i) (by omega)]
             refine ih (i + 1) _ _ 1 (by omega) sv_us (fun d hd r => ub_up.mpr (Or.inr (k1 d hd r))) (fun d hd r => ?_) (Or.inr ⟨rfl, ?_⟩) (fun w q => (sv_un q).trans (hfr w q))
             · rcases ub_up.mp r with q | q
               · rw [q]; exact ⟨hpi.2.2.2, (k2 _ h3 c9).2.st (by omega)⟩
               · exact k2 d hd q
             · have q1 : cn (ub uf) 16 < cn (ub (upd uf (p4 i) 1)) 16 := cn_lt 16 (fun d hd r => ub_up.mpr (Or.inr r)) ⟨p4 i, h4, ub_up.mpr (Or.inl rfl), fun r => ub_t.mp r c_73⟩
               have q2 : cn (ub u0) 16 ≤ cn (ub uf) 16 := cn_mono 16 k1
               omega)
        · refine v_aload_n dX13_markUnder_76 rfl 2 rfl ?_
          refine v_getf 35 (ci := 11) (C := RX13) (T := TX13) (N := 71) rfl iwX13_markUnder_X13 (Nat.le_of_ble_eq_true rfl) (by decide +kernel) dX13_markUnder_77 (by first | with_reducible assumption | exact (hfr _ (by omega)).trans hm | exact (hfr _ (by omega)).trans hh1 | exact (hfr _ (by omega)).trans hh2) (by repeat (first | with_reducible assumption | (with_reducible refine (sv_ls (by first | omega | (simp only [List.length_set]; omega))).trans ?_; exact rfl) | with_reducible refine (List.getElem?_set_ne (by decide)).trans ?_)) ?_
          refine v_aload_n dX13_markUnder_80 rfl 2 rfl ?_
          refine v_getf 12 (ci := 11) (C := RX13) (T := TX13) (N := 71) rfl iwX13_markUnder_X13 (Nat.le_of_ble_eq_true rfl) (by decide +kernel) dX13_markUnder_81 (by first | with_reducible assumption | exact (hfr _ (by omega)).trans hm | exact (hfr _ (by omega)).trans hh1 | exact (hfr _ (by omega)).trans hh2) (by repeat (first | with_reducible assumption | (with_reducible refine (sv_ls (by first | omega | (simp only [List.length_set]; omega))).trans ?_; exact rfl) | with_reducible refine (List.getElem?_set_ne (by decide)).trans ?_)) ?_
          refine v_iload_n dX13_markUnder_84 rfl 0 rfl ?_
          refine v_ialdS (v := nI (p4 i)) dX13_markUnder_85 (by first | with_reducible assumption | exact (hfr _ (by omega)).trans hm | exact (hfr _ (by omega)).trans hh1 | exact (hfr _ (by omega)).trans hh2) (vp_in_nI (by omega) (by omega)) (by rw [nI_clamp (by omega)]; exact (hpp i (by omega)).2.1) ?_
          refine v_iconst (v := 1) dX13_markUnder_86 (by decide) ?_
          refine v_zast (y := 1) dX13_markUnder_87 (by first | with_reducible assumption | exact (hfr _ (by omega)).trans hm | exact (hfr _ (by omega)).trans hh1 | exact (hfr _ (by omega)).trans hh2) (vp_in_nI (by have := hpp i (by omega); omega) (by omega)) rfl ?_
          refine v_iconst (v := 1) dX13_markUnder_88 (by decide) ?_
          refine v_istore_n (L' := [(2, _), (3, _), (0, _), (1, _)]) dX13_markUnder_89 rfl (Nat.le_of_ble_eq_true rfl) rfl ?_
          refine v_iinc (j := 1) (L' := [(3, _), (2, _), (0, _), (1, _)]) (v := nI (i + 1)) dX13_markUnder_90 rfl (nI_1 _) (Nat.le_of_ble_eq_true rfl) rfl ?_
          refine v_goto (tgt := 40) dX13_markUnder_93 (by decide) ?_
          refine v_sub (L' := [(3, _), (2, _), (0, _), (1, _)]) [0, 1, 2, 3] rfl ?_
          have hpi := hpp i (by omega)
          have h3 : p3 i < 16 := by omega
          have h4 : p4 i < 16 := by omega
          first
          | (have c9 : uf (p3 i) = 0 := c_59
             exact ih (i + 1) hi uf w (by omega) hu k1 k2 (k3.imp (fun q => ⟨q.1, q.2.1, fun j hj r => by
               by_cases e : j = i
               · rw [e, ← q.2.1] at r; exact absurd c9 (ub_t.mp r)
               · exact q.2.2 j (by omega) r⟩) (fun q => q)) hfr)
          | (have c9 : ¬ uf (p4 i) = 0 := c_73
             exact ih (i + 1) hi uf w (by omega) hu k1 k2 (k3.imp (fun q => ⟨q.1, q.2.1, fun j hj r => by
               by_cases e : j = i
               · rw [e, ← q.2.1]; exact ub_t.mpr c9
               · exact q.2.2 j (by omega) r⟩) (fun q => q)) hfr)
          | (have c9 : ub uf (p3 i) = true := ub_t.mpr c_59
             rw [nI_clamp (n := p4 i) (by omega)]
             refine ih (i + 1) _ _ 1 (by omega) sv_us (fun d hd r => ub_up.mpr (Or.inr (k1 d hd r))) (fun d hd r => ?_) (Or.inr ⟨rfl, ?_⟩) (fun w q => (sv_un q).trans (hfr w q))
             · rcases ub_up.mp r with q | q
               · rw [q]; exact ⟨hpi.2.2.2, (k2 _ h3 c9).2.st (by omega)⟩
               · exact k2 d hd q
             · have q1 : cn (ub uf) 16 < cn (ub (upd uf (p4 i) 1)) 16 := cn_lt 16 (fun d hd r => ub_up.mpr (Or.inr r)) ⟨p4 i, h4, ub_up.mpr (Or.inl rfl), fun r => ub_t.mp r c_73⟩
               have q2 : cn (ub u0) 16 ≤ cn (ub uf) 16 := cn_mono 16 k1
               omega)

set_option maxHeartbeats 4000000 in
set_option maxRecDepth 100000 in
theorem l_mark2 (G : sv_G) (h : sv_h) (z b pl nc : Nat) (fs : List Value) (p3 p4 : Nat → Nat) (fh fo : Nat → Int32) (hlen : fs.length = 71) (hm : h (b + 220) = some (.inr (11, fs))) (f_under : fs[35]? = some (.ref (b + 243))) (f_places : fs[10]? = some (.int (nI pl))) (f_placeIn : fs[11]? = some (.ref (b + 227))) (f_placeOf : fs[12]? = some (.ref (b + 228))) (hh1 : ab_I G h (b + 227) 32 fh) (hh2 : ab_I G h (b + 228) 32 fo) (hpl : pl ≤ 32) (hnc : nc ≤ 16) (hpp : ∀ i, i < pl → fh i = nI (p3 i) ∧ fo i = nI (p4 i) ∧ p3 i < nc ∧ p4 i < nc) (cl : Nat) (hcl : cl < nc) : ∀ (c : Nat) (hi : sv_h) (uf : Nat → Int32), 16 ≤ cn (ub uf) 16 + c → ab_Z G hi (b + 243) 16 uf → (∀ d, d < 16 → ub uf d = true → d < nc ∧ gr_R pl p3 p4 cl d) → ub uf cl = true → (∀ w, w ≠ b + 243 → hi w = h w) → V G mX13_markUnder (sv_MQ G mX13_markUnder (fun v h1 z1 => v = none ∧ z1 = z ∧ (∃ uf, ab_Z G h1 (b + 243) 16 uf ∧ ∀ d, d < 16 → (¬ uf d = 0 ↔ gr_R pl p3 p4 cl d)) ∧ ∀ w, w ≠ b + 243 → h1 w = h w)) 32 [(2, .int 1), (0, .ref (b + 220)), (1, .int (nI cl))] [] hi z 0 0 := by
  intro c
  induction c with
  | zero =>
    intro hi uf hc hu k1 k2 hfr
    refine v_iload_n dX13_markUnder_32 rfl 0 rfl ?_
    refine v_if_eq (tgt := 99) dX13_markUnder_33 (by decide) (fun c_33 => ?_) (fun c_33 => ?_)
    · exact absurd c_33 (by decide)
    · refine v_iconst (v := 0) dX13_markUnder_36 (by decide) ?_
      refine v_istore_n (L' := [(2, _), (0, _), (1, _)]) dX13_markUnder_37 rfl (Nat.le_of_ble_eq_true rfl) rfl ?_
      refine v_iconst (v := 0) dX13_markUnder_38 (by decide) ?_
      refine v_istore_n (L' := [(3, _), (2, _), (0, _), (1, _)]) dX13_markUnder_39 rfl (Nat.le_of_ble_eq_true rfl) rfl ?_
      refine v_sub (L' := [(3, _), (2, _), (0, _), (1, _)]) [0, 1, 2, 3] rfl ?_
      refine l_mark1 G _ h z b pl nc fs p3 p4 fh fo hlen hm f_under f_places f_placeIn f_placeOf hh1 hh2 hpl hnc hpp cl uf (fun hi2 uf2 w2 w3 ju j1 j2 j3 jf => ?_) pl 0 hi uf 0 (by omega) hu (fun _ _ q => q) k1 (Or.inl ⟨rfl, rfl, fun j hj => absurd hj (Nat.not_lt_zero j)⟩) hfr
      refine v_goto (tgt := 32) dX13_markUnder_96 (by decide) ?_
      refine v_sub (L' := [(2, _), (0, _), (1, _)]) [1, 2, 3] rfl ?_
      rcases j3 with jj | jj
      · rw [jj.1]
        obtain rfl : uf2 = uf := jj.2.1
        refine v_iload_n dX13_markUnder_32 rfl 0 rfl ?_
        refine v_if_eq (tgt := 99) dX13_markUnder_33 (by decide) (fun c_33 => ?_) (fun c_33 => ?_)
        · exact v_ret rfl dX13_markUnder_99 (Nat.le_of_ble_eq_true rfl) (Nat.le_of_ble_eq_true rfl) ⟨rfl, rfl, ⟨uf2, ju, fun d hd => ⟨fun q => (j2 d hd (ub_t.mpr q)).2, fun q => ub_t.mp ((q (fun e => e < 16 ∧ ub uf2 e = true) ⟨by omega, k2⟩ (fun i hi e => ⟨by have := hpp i hi; omega, jj.2.2 i hi e.2⟩)).2)⟩⟩, jf⟩
        · exact absurd rfl c_33
      · (exact absurd (cn_le (ub uf2) 16) (by omega))
  | succ c ih =>
    intro hi uf hc hu k1 k2 hfr
    refine v_iload_n dX13_markUnder_32 rfl 0 rfl ?_
    refine v_if_eq (tgt := 99) dX13_markUnder_33 (by decide) (fun c_33 => ?_) (fun c_33 => ?_)
    · exact absurd c_33 (by decide)
    · refine v_iconst (v := 0) dX13_markUnder_36 (by decide) ?_
      refine v_istore_n (L' := [(2, _), (0, _), (1, _)]) dX13_markUnder_37 rfl (Nat.le_of_ble_eq_true rfl) rfl ?_
      refine v_iconst (v := 0) dX13_markUnder_38 (by decide) ?_
      refine v_istore_n (L' := [(3, _), (2, _), (0, _), (1, _)]) dX13_markUnder_39 rfl (Nat.le_of_ble_eq_true rfl) rfl ?_
      refine v_sub (L' := [(3, _), (2, _), (0, _), (1, _)]) [0, 1, 2, 3] rfl ?_
      refine l_mark1 G _ h z b pl nc fs p3 p4 fh fo hlen hm f_under f_places f_placeIn f_placeOf hh1 hh2 hpl hnc hpp cl uf (fun hi2 uf2 w2 w3 ju j1 j2 j3 jf => ?_) pl 0 hi uf 0 (by omega) hu (fun _ _ q => q) k1 (Or.inl ⟨rfl, rfl, fun j hj => absurd hj (Nat.not_lt_zero j)⟩) hfr
      refine v_goto (tgt := 32) dX13_markUnder_96 (by decide) ?_
      refine v_sub (L' := [(2, _), (0, _), (1, _)]) [1, 2, 3] rfl ?_
      rcases j3 with jj | jj
      · rw [jj.1]
        obtain rfl : uf2 = uf := jj.2.1
        refine v_iload_n dX13_markUnder_32 rfl 0 rfl ?_
        refine v_if_eq (tgt := 99) dX13_markUnder_33 (by decide) (fun c_33 => ?_) (fun c_33 => ?_)
        · exact v_ret rfl dX13_markUnder_99 (Nat.le_of_ble_eq_true rfl) (Nat.le_of_ble_eq_true rfl) ⟨rfl, rfl, ⟨uf2, ju, fun d hd => ⟨fun q => (j2 d hd (ub_t.mpr q)).2, fun q => ub_t.mp ((q (fun e => e < 16 ∧ ub uf2 e = true) ⟨by omega, k2⟩ (fun i hi e => ⟨by have := hpp i hi; omega, jj.2.2 i hi e.2⟩)).2)⟩⟩, jf⟩
        · exact absurd rfl c_33
      · (rw [jj.1]; exact ih hi2 uf2 (by omega) ju j2 (j1 cl (by omega) k2) jf)

set_option maxHeartbeats 4000000 in
set_option maxRecDepth 100000 in
theorem m_markUnder (G : sv_G) (h : sv_h) (z b pl nc : Nat) (fs : List Value) (p3 p4 : Nat → Nat) (fh fo : Nat → Int32) (hlen : fs.length = 71) (hm : h (b + 220) = some (.inr (11, fs))) (f_under : fs[35]? = some (.ref (b + 243))) (f_places : fs[10]? = some (.int (nI pl))) (f_placeIn : fs[11]? = some (.ref (b + 227))) (f_placeOf : fs[12]? = some (.ref (b + 228))) (hh1 : ab_I G h (b + 227) 32 fh) (hh2 : ab_I G h (b + 228) 32 fo) (hpl : pl ≤ 32) (hnc : nc ≤ 16) (hpp : ∀ i, i < pl → fh i = nI (p3 i) ∧ fo i = nI (p4 i) ∧ p3 i < nc ∧ p4 i < nc) (cl : Nat) (hcl : cl < nc) (u0 : Nat → Int32) (hu0 : ab_Z G h (b + 243) 16 u0) : CT G mX13_markUnder [.ref (b + 220), .int (nI cl)] h z (fun v h1 z1 => v = none ∧ z1 = z ∧ (∃ uf, ab_Z G h1 (b + 243) 16 uf ∧ ∀ d, d < 16 → (¬ uf d = 0 ↔ gr_R pl p3 p4 cl d)) ∧ ∀ w, w ≠ b + 243 → h1 w = h w) := by
  refine CT.of (by decide +kernel) rfl rfl (Nat.le_of_ble_eq_true rfl) ?_
  refine v_iconst (v := 0) dX13_markUnder_0 (by decide) ?_
  refine v_istore_n (L' := [(2, _), (0, _), (1, _)]) dX13_markUnder_1 rfl (Nat.le_of_ble_eq_true rfl) rfl ?_
  refine v_sub (L' := [(2, _), (0, _), (1, _)]) [0, 1, 2] rfl ?_
  refine l_mark0 G _ h z b pl nc fs p3 p4 fh fo hlen hm f_under f_places f_placeIn f_placeOf hh1 hh2 hpl hnc hpp cl hcl (fun hi uf w2 hu hud hfr => ?_) 16 0 h u0 rfl hu0 (fun d hd => absurd hd (Nat.not_lt_zero d)) (fun _ _ => rfl)
  refine v_iconst (v := 1) dX13_markUnder_30 (by decide) ?_
  refine v_istore_n (L' := [(2, _), (0, _), (1, _)]) dX13_markUnder_31 rfl (Nat.le_of_ble_eq_true rfl) rfl ?_
  refine l_mark2 G h z b pl nc fs p3 p4 fh fo hlen hm f_under f_places f_placeIn f_placeOf hh1 hh2 hpl hnc hpp cl hcl 16 hi uf (by omega) hu (fun d hd q => ?_) ?_ hfr
  · rw [ub_t, hud d hd] at q
    by_cases e : d = cl
    · rw [e]; exact ⟨hcl, gr_R.rf⟩
    · rw [if_neg e] at q; exact absurd rfl q
  · rw [ub_t, hud cl (by omega), if_pos rfl]; decide

