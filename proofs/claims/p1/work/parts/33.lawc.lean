set_option maxHeartbeats 4000000 in
set_option maxRecDepth 100000 in
theorem law_violation (G : sv_G) (P : sv_P) (b m o q : Nat) (I I1 : sv_h → Nat → Prop) (hL : G.2.2.2.2.2.1 ≤ 4609) (hq0 : q + 9 ≤ G.2.2.2.2.2.1) (hIn : sv_In G b m o I) (H : OpJ G mX12_violation mX13_violation b m o ["java/lang/IndexOutOfBoundsException"] [.int (G.2.2.2.2.2.2 (nI q + 1).toNatClampNeg), .int (G.2.2.2.2.2.2 (nI q + 2).toNatClampNeg)] I I1) (h : sv_h) (z ce sl : Nat) (hce : ce + 6 ≤ 600002) (hsl : sl + 100 ≤ 7302198) (hend : ∀ (h : sv_h) (z : Nat), I1 h z → V G mL_law P 1428 [(4, .int (nI q)), (3, .ref o), (2, .ref m), (1, .ref b), (0, .ref (G.2.2.2.2.1 100))] [] h z (ce + 6) (sl + 100)) (hi : I h z) : V G mL_law P 829 [(4, .int (nI q)), (3, .ref o), (2, .ref m), (1, .ref b), (0, .ref (G.2.2.2.2.1 100))] [] h z ce sl := by
  obtain ⟨⟨fsb, hb⟩, ⟨fsm, hm⟩, ⟨f0, ho⟩⟩ := hIn h z hi
  refine v_aload_n dL_law_829 rfl 3 rfl ?_
  refine v_aload_n dL_law_830 rfl 4 rfl ?_
  refine v_iload dL_law_831 0 rfl ?_
  refine v_iconst (v := 1) dL_law_833 (by decide) ?_
  refine v_iadd dL_law_834 ?_
  refine v_sld dL_law_835 (sv_sin (a := q) (c := 1) (by omega) (by omega)) ?_
  refine v_aload_n dL_law_836 rfl 4 rfl ?_
  refine v_iload dL_law_837 0 rfl ?_
  refine v_iconst (v := 2) dL_law_839 (by decide) ?_
  refine v_iadd dL_law_840 ?_
  refine v_sld dL_law_841 (sv_sin (a := q) (c := 2) (by omega) (by omega)) ?_
  refine v_aload_n dL_law_842 rfl 1 rfl ?_
  obtain ⟨Qr, Qx, ct, hR, hX⟩ := H h z hi
  refine v_callSW (M' := mL_violation) (n := 4) (As := [_, _, _, _]) gc_119 rfl (by decide +kernel) ⟨(Nat.le_of_ble_eq_true rfl), (Nat.le_of_ble_eq_true rfl)⟩ dL_law_843 rfl ⟨by show ce + 6 ≤ 600002; omega, by show sl + 100 ≤ 7302198; omega⟩ (Nat.le_of_ble_eq_true rfl) rfl (w_violation G h z b o _ _ fsb f0 Qr Qx hb ho ct (fun v h1 z1 hq => by obtain ⟨w, e1, ⟨f, e2⟩, _⟩ := hR v h1 z1 hq; exact ⟨w, f, e1, e2⟩) (fun E h1 z1 hq => by obtain ⟨j, e1, _⟩ := hX E h1 z1 hq; exact (sv_n1 e1).1)) (fun v h1 z1 hq => ?_)
  rcases hq with ⟨rfl, w, h2, g, hqr, ho1, hg0, hfr⟩ | ⟨rfl, hqx⟩
  · obtain ⟨w9, e1, -, hmo, ⟨fsm1, hm1⟩, hK⟩ := hR _ _ _ hqr
    cases e1
    obtain ⟨Q2, ct2, hQ2⟩ := hK h1 g ho1 hg0 hfr
    refine v_istore (L' := [(5, _), (4, _), (3, _), (2, _), (1, _), (0, _)]) dL_law_846 (Nat.le_of_ble_eq_true rfl) rfl ?_
    refine v_aload_n dL_law_848 rfl 3 rfl ?_
    refine v_aload_n dL_law_849 rfl 5 rfl ?_
    refine v_iload dL_law_850 1 rfl ?_
    refine v_iconst (v := 1) dL_law_852 (by decide) ?_
    refine v_iadd dL_law_853 ?_
    refine v_sld dL_law_854 (sv_sin (a := q) (c := 1) (by omega) (by omega)) ?_
    refine v_aload_n dL_law_855 rfl 5 rfl ?_
    refine v_iload dL_law_856 1 rfl ?_
    refine v_iconst (v := 2) dL_law_858 (by decide) ?_
    refine v_iadd dL_law_859 ?_
    refine v_sld dL_law_860 (sv_sin (a := q) (c := 2) (by omega) (by omega)) ?_
    refine v_callV (M' := mX13_violation) (n := 2) (As := [_, _]) (ci := 11) (r := (RX13, TX13, 71)) gc_121 rfl (by decide +kernel) ⟨(Nat.le_of_ble_eq_true rfl), (Nat.le_of_ble_eq_true rfl)⟩ rfl rfl dL_law_861 rfl ⟨by show ce + 6 + 0 ≤ 600002; omega, by show sl + 100 + 0 ≤ 7302198; omega⟩ (Nat.le_of_ble_eq_true rfl) ((hfr _ hmo).trans hm1) rfl ct2 (fun v2 h3 z3 hq2 => ?_)
    obtain ⟨rfl, ⟨fs3, k1, k2, k3⟩, ho3, hi3⟩ := hQ2 _ _ _ hq2
    refine v_lstore (L' := [(6, _), (5, _), (4, _), (3, _), (2, _), (1, _), (0, _)]) dL_law_864 (Nat.le_of_ble_eq_true rfl) rfl ?_
    refine v_aload_n dL_law_866 rfl 4 rfl ?_
    refine v_callV (M' := mX13_thrown) (n := 0) (As := []) (ci := 11) (r := (RX13, TX13, 71)) gc_94 rfl (by decide +kernel) ⟨(Nat.le_of_ble_eq_true rfl), (Nat.le_of_ble_eq_true rfl)⟩ rfl rfl dL_law_867 rfl ⟨by show ce + 6 + 0 + 0 ≤ 600002; omega, by show sl + 100 + 0 + 0 ≤ 7302198; omega⟩ (Nat.le_of_ble_eq_true rfl) k1 rfl (m_thrown G _ _ _ fs3 k2 k1 _ k3) (fun v4 h4 z4 hq4 => ?_)
    obtain ⟨rfl, rfl, rfl⟩ := hq4
    refine v_iload dL_law_870 1 rfl ?_
    refine v_icmp_eq (tgt := 877) dL_law_872 (by decide) (fun c_872 => ?_) (fun c_872 => ?_)
    · refine v_iload dL_law_877 1 rfl ?_
      refine v_if_ne (tgt := 893) dL_law_879 (by decide) (fun c_879 => ?_) (fun c_879 => ?_)
      · exact absurd rfl c_879
      · refine v_aload_n dL_law_882 rfl 3 rfl ?_
        refine v_iconst (v := 0) dL_law_883 (by decide) ?_
        refine v_lald dL_law_884 ho3 (by rw [← nI_0]; exact vp_in_nI (by omega) (by omega)) ?_
        refine v_lload dL_law_885 0 rfl ?_
        refine v_lcmp_eq (tgt := 893) dL_law_887 dL_law_888 (by decide) (fun c_888 => ?_) (fun c_888 => ?_)
        · refine v_goto (tgt := 1428) dL_law_893 (by decide) ?_
          refine v_sub (L' := [(4, _), (3, _), (2, _), (1, _), (0, _)]) [2, 3, 4, 5, 6] rfl ?_
          refine v_widen (ce' := ce + 6) (sl' := sl + 100) (by show ce + 6 + 0 + 0 ≤ ce + 6; omega) (by show sl + 100 + 0 + 0 ≤ sl + 100; omega) ?_
          exact hend _ _ hi3
        · exact absurd (by rw [sb_cl0, hg0]) c_888
    · exact absurd rfl c_872
  · obtain ⟨j, e1, ⟨fsm1, hm1⟩, Q2, ct2, hQ2⟩ := hX _ _ _ hqx
    obtain ⟨-, rfl⟩ := sv_n1 e1
    refine v_istore (L' := [(5, _), (4, _), (3, _), (2, _), (1, _), (0, _)]) dL_law_846 (Nat.le_of_ble_eq_true rfl) rfl ?_
    refine v_aload_n dL_law_848 rfl 3 rfl ?_
    refine v_aload_n dL_law_849 rfl 5 rfl ?_
    refine v_iload dL_law_850 1 rfl ?_
    refine v_iconst (v := 1) dL_law_852 (by decide) ?_
    refine v_iadd dL_law_853 ?_
    refine v_sld dL_law_854 (sv_sin (a := q) (c := 1) (by omega) (by omega)) ?_
    refine v_aload_n dL_law_855 rfl 5 rfl ?_
    refine v_iload dL_law_856 1 rfl ?_
    refine v_iconst (v := 2) dL_law_858 (by decide) ?_
    refine v_iadd dL_law_859 ?_
    refine v_sld dL_law_860 (sv_sin (a := q) (c := 2) (by omega) (by omega)) ?_
    refine v_callV (M' := mX13_violation) (n := 2) (As := [_, _]) (ci := 11) (r := (RX13, TX13, 71)) gc_121 rfl (by decide +kernel) ⟨(Nat.le_of_ble_eq_true rfl), (Nat.le_of_ble_eq_true rfl)⟩ rfl rfl dL_law_861 rfl ⟨by show ce + 6 + 0 ≤ 600002; omega, by show sl + 100 + 0 ≤ 7302198; omega⟩ (Nat.le_of_ble_eq_true rfl) hm1 rfl ct2 (fun v2 h3 z3 hq2 => ?_)
    obtain ⟨⟨w2, rfl⟩, ⟨fs3, k1, k2, k3⟩, hi3⟩ := hQ2 _ _ _ hq2
    refine v_lstore (L' := [(6, _), (5, _), (4, _), (3, _), (2, _), (1, _), (0, _)]) dL_law_864 (Nat.le_of_ble_eq_true rfl) rfl ?_
    refine v_aload_n dL_law_866 rfl 4 rfl ?_
    refine v_callV (M' := mX13_thrown) (n := 0) (As := []) (ci := 11) (r := (RX13, TX13, 71)) gc_94 rfl (by decide +kernel) ⟨(Nat.le_of_ble_eq_true rfl), (Nat.le_of_ble_eq_true rfl)⟩ rfl rfl dL_law_867 rfl ⟨by show ce + 6 + 0 + 0 ≤ 600002; omega, by show sl + 100 + 0 + 0 ≤ 7302198; omega⟩ (Nat.le_of_ble_eq_true rfl) k1 rfl (m_thrown G _ _ _ fs3 k2 k1 _ k3) (fun v4 h4 z4 hq4 => ?_)
    obtain ⟨rfl, rfl, rfl⟩ := hq4
    refine v_iload dL_law_870 1 rfl ?_
    refine v_icmp_eq (tgt := 877) dL_law_872 (by decide) (fun c_872 => ?_) (fun c_872 => ?_)
    · refine v_iload dL_law_877 1 rfl ?_
      refine v_if_ne (tgt := 893) dL_law_879 (by decide) (fun c_879 => ?_) (fun c_879 => ?_)
      · refine v_goto (tgt := 1428) dL_law_893 (by decide) ?_
        refine v_sub (L' := [(4, _), (3, _), (2, _), (1, _), (0, _)]) [2, 3, 4, 5, 6] rfl ?_
        refine v_widen (ce' := ce + 6) (sl' := sl + 100) (by show ce + 6 + 0 + 0 ≤ ce + 6; omega) (by show sl + 100 + 0 + 0 ≤ sl + 100; omega) ?_
        exact hend _ _ hi3
      · exact absurd c_879 (by decide)
    · exact absurd rfl c_872

set_option maxHeartbeats 4000000 in
set_option maxRecDepth 100000 in
theorem law_cellOf (G : sv_G) (P : sv_P) (b m o q : Nat) (I I1 : sv_h → Nat → Prop) (hL : G.2.2.2.2.2.1 ≤ 4609) (hq0 : q + 9 ≤ G.2.2.2.2.2.1) (hIn : sv_In G b m o I) (H : OpI G mX12_cellOf mX13_cellOf b m o ["java/lang/IndexOutOfBoundsException"] [.int (G.2.2.2.2.2.2 (nI q + 1).toNatClampNeg)] I I1) (h : sv_h) (z ce sl : Nat) (hce : ce + 6 ≤ 600002) (hsl : sl + 100 ≤ 7302198) (hend : ∀ (h : sv_h) (z : Nat), I1 h z → V G mL_law P 1428 [(4, .int (nI q)), (3, .ref o), (2, .ref m), (1, .ref b), (0, .ref (G.2.2.2.2.1 100))] [] h z (ce + 6) (sl + 100)) (hi : I h z) : V G mL_law P 896 [(4, .int (nI q)), (3, .ref o), (2, .ref m), (1, .ref b), (0, .ref (G.2.2.2.2.1 100))] [] h z ce sl := by
  obtain ⟨⟨fsb, hb⟩, ⟨fsm, hm⟩, ⟨f0, ho⟩⟩ := hIn h z hi
  refine v_aload_n dL_law_896 rfl 3 rfl ?_
  refine v_aload_n dL_law_897 rfl 4 rfl ?_
  refine v_iload dL_law_898 0 rfl ?_
  refine v_iconst (v := 1) dL_law_900 (by decide) ?_
  refine v_iadd dL_law_901 ?_
  refine v_sld dL_law_902 (sv_sin (a := q) (c := 1) (by omega) (by omega)) ?_
  refine v_aload_n dL_law_903 rfl 1 rfl ?_
  obtain ⟨Qr, Qx, ct, hR, hX⟩ := H h z hi
  refine v_callSW (M' := mL_cellOf) (n := 3) (As := [_, _, _]) gc_122 rfl (by decide +kernel) ⟨(Nat.le_of_ble_eq_true rfl), (Nat.le_of_ble_eq_true rfl)⟩ dL_law_904 rfl ⟨by show ce + 6 ≤ 600002; omega, by show sl + 100 ≤ 7302198; omega⟩ (Nat.le_of_ble_eq_true rfl) rfl (w_cellOf G h z b o _ fsb f0 Qr Qx hb ho ct (fun v h1 z1 hq => by obtain ⟨w, e1, ⟨f, e2⟩, _⟩ := hR v h1 z1 hq; exact ⟨w, f, e1, e2⟩) (fun E h1 z1 hq => by obtain ⟨j, e1, _⟩ := hX E h1 z1 hq; exact (sv_n1 e1).1)) (fun v h1 z1 hq => ?_)
  rcases hq with ⟨rfl, w, h2, g, hqr, ho1, hg0, hfr⟩ | ⟨rfl, hqx⟩
  · obtain ⟨w9, e1, -, hmo, ⟨fsm1, hm1⟩, hK⟩ := hR _ _ _ hqr
    cases e1
    obtain ⟨Q2, ct2, hQ2⟩ := hK h1 g ho1 hg0 hfr
    refine v_istore (L' := [(5, _), (4, _), (3, _), (2, _), (1, _), (0, _)]) dL_law_907 (Nat.le_of_ble_eq_true rfl) rfl ?_
    refine v_aload_n dL_law_909 rfl 3 rfl ?_
    refine v_aload_n dL_law_910 rfl 5 rfl ?_
    refine v_iload dL_law_911 1 rfl ?_
    refine v_iconst (v := 1) dL_law_913 (by decide) ?_
    refine v_iadd dL_law_914 ?_
    refine v_sld dL_law_915 (sv_sin (a := q) (c := 1) (by omega) (by omega)) ?_
    refine v_callV (M' := mX13_cellOf) (n := 1) (As := [_]) (ci := 11) (r := (RX13, TX13, 71)) gc_125 rfl (by decide +kernel) ⟨(Nat.le_of_ble_eq_true rfl), (Nat.le_of_ble_eq_true rfl)⟩ rfl rfl dL_law_916 rfl ⟨by show ce + 6 + 0 ≤ 600002; omega, by show sl + 100 + 0 ≤ 7302198; omega⟩ (Nat.le_of_ble_eq_true rfl) ((hfr _ hmo).trans hm1) rfl ct2 (fun v2 h3 z3 hq2 => ?_)
    obtain ⟨rfl, ⟨fs3, k1, k2, k3⟩, ho3, hi3⟩ := hQ2 _ _ _ hq2
    refine v_istore (L' := [(6, _), (5, _), (4, _), (3, _), (2, _), (1, _), (0, _)]) dL_law_919 (Nat.le_of_ble_eq_true rfl) rfl ?_
    refine v_aload_n dL_law_921 rfl 4 rfl ?_
    refine v_callV (M' := mX13_thrown) (n := 0) (As := []) (ci := 11) (r := (RX13, TX13, 71)) gc_94 rfl (by decide +kernel) ⟨(Nat.le_of_ble_eq_true rfl), (Nat.le_of_ble_eq_true rfl)⟩ rfl rfl dL_law_922 rfl ⟨by show ce + 6 + 0 + 0 ≤ 600002; omega, by show sl + 100 + 0 + 0 ≤ 7302198; omega⟩ (Nat.le_of_ble_eq_true rfl) k1 rfl (m_thrown G _ _ _ fs3 k2 k1 _ k3) (fun v4 h4 z4 hq4 => ?_)
    obtain ⟨rfl, rfl, rfl⟩ := hq4
    refine v_iload dL_law_925 1 rfl ?_
    refine v_icmp_eq (tgt := 932) dL_law_927 (by decide) (fun c_927 => ?_) (fun c_927 => ?_)
    · refine v_iload dL_law_932 1 rfl ?_
      refine v_if_ne (tgt := 949) dL_law_934 (by decide) (fun c_934 => ?_) (fun c_934 => ?_)
      · exact absurd rfl c_934
      · refine v_aload_n dL_law_937 rfl 3 rfl ?_
        refine v_iconst (v := 0) dL_law_938 (by decide) ?_
        refine v_lald dL_law_939 ho3 (by rw [← nI_0]; exact vp_in_nI (by omega) (by omega)) ?_
        refine v_iload dL_law_940 0 rfl ?_
        refine v_i2l dL_law_942 rfl ?_
        refine v_lcmp_eq (tgt := 949) dL_law_943 dL_law_944 (by decide) (fun c_944 => ?_) (fun c_944 => ?_)
        · refine v_goto (tgt := 1428) dL_law_949 (by decide) ?_
          refine v_sub (L' := [(4, _), (3, _), (2, _), (1, _), (0, _)]) [2, 3, 4, 5, 6] rfl ?_
          refine v_widen (ce' := ce + 6) (sl' := sl + 100) (by show ce + 6 + 0 + 0 ≤ ce + 6; omega) (by show sl + 100 + 0 + 0 ≤ sl + 100; omega) ?_
          exact hend _ _ hi3
        · exact absurd (by rw [sb_cl0, hg0]) c_944
    · exact absurd rfl c_927
  · obtain ⟨j, e1, ⟨fsm1, hm1⟩, Q2, ct2, hQ2⟩ := hX _ _ _ hqx
    obtain ⟨-, rfl⟩ := sv_n1 e1
    refine v_istore (L' := [(5, _), (4, _), (3, _), (2, _), (1, _), (0, _)]) dL_law_907 (Nat.le_of_ble_eq_true rfl) rfl ?_
    refine v_aload_n dL_law_909 rfl 3 rfl ?_
    refine v_aload_n dL_law_910 rfl 5 rfl ?_
    refine v_iload dL_law_911 1 rfl ?_
    refine v_iconst (v := 1) dL_law_913 (by decide) ?_
    refine v_iadd dL_law_914 ?_
    refine v_sld dL_law_915 (sv_sin (a := q) (c := 1) (by omega) (by omega)) ?_
    refine v_callV (M' := mX13_cellOf) (n := 1) (As := [_]) (ci := 11) (r := (RX13, TX13, 71)) gc_125 rfl (by decide +kernel) ⟨(Nat.le_of_ble_eq_true rfl), (Nat.le_of_ble_eq_true rfl)⟩ rfl rfl dL_law_916 rfl ⟨by show ce + 6 + 0 ≤ 600002; omega, by show sl + 100 + 0 ≤ 7302198; omega⟩ (Nat.le_of_ble_eq_true rfl) hm1 rfl ct2 (fun v2 h3 z3 hq2 => ?_)
    obtain ⟨⟨w2, rfl⟩, ⟨fs3, k1, k2, k3⟩, hi3⟩ := hQ2 _ _ _ hq2
    refine v_istore (L' := [(6, _), (5, _), (4, _), (3, _), (2, _), (1, _), (0, _)]) dL_law_919 (Nat.le_of_ble_eq_true rfl) rfl ?_
    refine v_aload_n dL_law_921 rfl 4 rfl ?_
    refine v_callV (M' := mX13_thrown) (n := 0) (As := []) (ci := 11) (r := (RX13, TX13, 71)) gc_94 rfl (by decide +kernel) ⟨(Nat.le_of_ble_eq_true rfl), (Nat.le_of_ble_eq_true rfl)⟩ rfl rfl dL_law_922 rfl ⟨by show ce + 6 + 0 + 0 ≤ 600002; omega, by show sl + 100 + 0 + 0 ≤ 7302198; omega⟩ (Nat.le_of_ble_eq_true rfl) k1 rfl (m_thrown G _ _ _ fs3 k2 k1 _ k3) (fun v4 h4 z4 hq4 => ?_)
    obtain ⟨rfl, rfl, rfl⟩ := hq4
    refine v_iload dL_law_925 1 rfl ?_
    refine v_icmp_eq (tgt := 932) dL_law_927 (by decide) (fun c_927 => ?_) (fun c_927 => ?_)
    · refine v_iload dL_law_932 1 rfl ?_
      refine v_if_ne (tgt := 949) dL_law_934 (by decide) (fun c_934 => ?_) (fun c_934 => ?_)
      · refine v_goto (tgt := 1428) dL_law_949 (by decide) ?_
        refine v_sub (L' := [(4, _), (3, _), (2, _), (1, _), (0, _)]) [2, 3, 4, 5, 6] rfl ?_
        refine v_widen (ce' := ce + 6) (sl' := sl + 100) (by show ce + 6 + 0 + 0 ≤ ce + 6; omega) (by show sl + 100 + 0 + 0 ≤ sl + 100; omega) ?_
        exact hend _ _ hi3
      · exact absurd c_934 (by decide)
    · exact absurd rfl c_927

set_option maxHeartbeats 4000000 in
set_option maxRecDepth 100000 in
theorem law_waive (G : sv_G) (P : sv_P) (b m o q : Nat) (I I1 : sv_h → Nat → Prop) (hL : G.2.2.2.2.2.1 ≤ 4609) (hq0 : q + 9 ≤ G.2.2.2.2.2.1) (hIn : sv_In G b m o I) (H : OpZ G mX12_waive mX13_waive b m o ["java/lang/IndexOutOfBoundsException", "java/lang/IllegalStateException"] [.int (G.2.2.2.2.2.2 (nI q + 1).toNatClampNeg)] I I1) (h : sv_h) (z ce sl : Nat) (hce : ce + 6 ≤ 600002) (hsl : sl + 100 ≤ 7302198) (hend : ∀ (h : sv_h) (z : Nat), I1 h z → V G mL_law P 1428 [(4, .int (nI q)), (3, .ref o), (2, .ref m), (1, .ref b), (0, .ref (G.2.2.2.2.1 100))] [] h z (ce + 6) (sl + 100)) (hi : I h z) : V G mL_law P 952 [(4, .int (nI q)), (3, .ref o), (2, .ref m), (1, .ref b), (0, .ref (G.2.2.2.2.1 100))] [] h z ce sl := by
  obtain ⟨⟨fsb, hb⟩, ⟨fsm, hm⟩, ⟨f0, ho⟩⟩ := hIn h z hi
  refine v_aload_n dL_law_952 rfl 3 rfl ?_
  refine v_aload_n dL_law_953 rfl 4 rfl ?_
  refine v_iload dL_law_954 0 rfl ?_
  refine v_iconst (v := 1) dL_law_956 (by decide) ?_
  refine v_iadd dL_law_957 ?_
  refine v_sld dL_law_958 (sv_sin (a := q) (c := 1) (by omega) (by omega)) ?_
  refine v_aload_n dL_law_959 rfl 1 rfl ?_
  obtain ⟨Qr, Qx, ct, hR, hX⟩ := H h z hi
  refine v_callSW (M' := mL_waive) (n := 3) (As := [_, _, _]) gc_126 rfl (by decide +kernel) ⟨(Nat.le_of_ble_eq_true rfl), (Nat.le_of_ble_eq_true rfl)⟩ dL_law_960 rfl ⟨by show ce + 6 ≤ 600002; omega, by show sl + 100 ≤ 7302198; omega⟩ (Nat.le_of_ble_eq_true rfl) rfl (w_waive G h z b o _ fsb f0 Qr Qx hb ho ct (fun v h1 z1 hq => by obtain ⟨w, e1, ⟨f, e2⟩, _⟩ := hR v h1 z1 hq; exact ⟨w, f, e1, e2⟩) (fun E h1 z1 hq => by obtain ⟨j, e1, _⟩ := hX E h1 z1 hq; exact ((sv_n2 e1).elim (fun q => Or.inl q.1) (fun q => Or.inr q.1)))) (fun v h1 z1 hq => ?_)
  rcases hq with ⟨rfl, w, h2, g, hqr, ho1, hg0, hfr⟩ | ⟨rfl, hqx⟩ | ⟨rfl, hqx⟩
  · obtain ⟨w9, e1, -, hmo, ⟨fsm1, hm1⟩, hK⟩ := hR _ _ _ hqr
    cases e1
    obtain ⟨Q2, ct2, hQ2⟩ := hK h1 g ho1 hg0 hfr
    refine v_istore (L' := [(5, _), (4, _), (3, _), (2, _), (1, _), (0, _)]) dL_law_963 (Nat.le_of_ble_eq_true rfl) rfl ?_
    refine v_aload_n dL_law_965 rfl 3 rfl ?_
    refine v_aload_n dL_law_966 rfl 5 rfl ?_
    refine v_iload dL_law_967 1 rfl ?_
    refine v_iconst (v := 1) dL_law_969 (by decide) ?_
    refine v_iadd dL_law_970 ?_
    refine v_sld dL_law_971 (sv_sin (a := q) (c := 1) (by omega) (by omega)) ?_
    refine v_callV (M' := mX13_waive) (n := 1) (As := [_]) (ci := 11) (r := (RX13, TX13, 71)) gc_128 rfl (by decide +kernel) ⟨(Nat.le_of_ble_eq_true rfl), (Nat.le_of_ble_eq_true rfl)⟩ rfl rfl dL_law_972 rfl ⟨by show ce + 6 + 0 ≤ 600002; omega, by show sl + 100 + 0 ≤ 7302198; omega⟩ (Nat.le_of_ble_eq_true rfl) ((hfr _ hmo).trans hm1) rfl ct2 (fun v2 h3 z3 hq2 => ?_)
    obtain ⟨rfl, ⟨fs3, k1, k2, k3⟩, ho3, hi3⟩ := hQ2 _ _ _ hq2
    refine v_istore (L' := [(6, _), (5, _), (4, _), (3, _), (2, _), (1, _), (0, _)]) dL_law_975 (Nat.le_of_ble_eq_true rfl) rfl ?_
    refine v_aload_n dL_law_977 rfl 4 rfl ?_
    refine v_callV (M' := mX13_thrown) (n := 0) (As := []) (ci := 11) (r := (RX13, TX13, 71)) gc_94 rfl (by decide +kernel) ⟨(Nat.le_of_ble_eq_true rfl), (Nat.le_of_ble_eq_true rfl)⟩ rfl rfl dL_law_978 rfl ⟨by show ce + 6 + 0 + 0 ≤ 600002; omega, by show sl + 100 + 0 + 0 ≤ 7302198; omega⟩ (Nat.le_of_ble_eq_true rfl) k1 rfl (m_thrown G _ _ _ fs3 k2 k1 _ k3) (fun v4 h4 z4 hq4 => ?_)
    obtain ⟨rfl, rfl, rfl⟩ := hq4
    refine v_iload dL_law_981 1 rfl ?_
    refine v_icmp_eq (tgt := 988) dL_law_983 (by decide) (fun c_983 => ?_) (fun c_983 => ?_)
    · refine v_iload dL_law_988 1 rfl ?_
      refine v_if_ne (tgt := 1012) dL_law_990 (by decide) (fun c_990 => ?_) (fun c_990 => ?_)
      · exact absurd rfl c_990
      · refine v_aload_n dL_law_993 rfl 3 rfl ?_
        refine v_iconst (v := 0) dL_law_994 (by decide) ?_
        refine v_lald dL_law_995 ho3 (by rw [← nI_0]; exact vp_in_nI (by omega) (by omega)) ?_
        refine v_iload dL_law_996 0 rfl ?_
        refine v_if_eq (tgt := 1005) dL_law_998 (by decide) (fun c_998 => ?_) (fun c_998 => ?_)
        · refine v_lconst (v := 0) dL_law_1005 (by decide) ?_
          refine v_lcmp_eq (tgt := 1012) dL_law_1006 dL_law_1007 (by decide) (fun c_1007 => ?_) (fun c_1007 => ?_)
          · refine v_goto (tgt := 1428) dL_law_1012 (by decide) ?_
            refine v_sub (L' := [(4, _), (3, _), (2, _), (1, _), (0, _)]) [2, 3, 4, 5, 6] rfl ?_
            refine v_widen (ce' := ce + 6) (sl' := sl + 100) (by show ce + 6 + 0 + 0 ≤ ce + 6; omega) (by show sl + 100 + 0 + 0 ≤ sl + 100; omega) ?_
            exact hend _ _ hi3
          · exact absurd (by rw [sb_cl0, hg0]; simp [*]) c_1007
        · refine v_lconst (v := 1) dL_law_1001 (by decide) ?_
          refine v_goto (tgt := 1006) dL_law_1002 (by decide) ?_
          refine v_lcmp_eq (tgt := 1012) dL_law_1006 dL_law_1007 (by decide) (fun c_1007 => ?_) (fun c_1007 => ?_)
          · refine v_goto (tgt := 1428) dL_law_1012 (by decide) ?_
            refine v_sub (L' := [(4, _), (3, _), (2, _), (1, _), (0, _)]) [2, 3, 4, 5, 6] rfl ?_
            refine v_widen (ce' := ce + 6) (sl' := sl + 100) (by show ce + 6 + 0 + 0 ≤ ce + 6; omega) (by show sl + 100 + 0 + 0 ≤ sl + 100; omega) ?_
            exact hend _ _ hi3
          · exact absurd (by rw [sb_cl0, hg0]; simp [*]) c_1007
    · exact absurd rfl c_983
  · obtain ⟨j, e1, ⟨fsm1, hm1⟩, Q2, ct2, hQ2⟩ := hX _ _ _ hqx
    obtain rfl : j = 0 := by
      rcases sv_n2 e1 with ⟨e2, e3⟩ | ⟨e2, e3⟩
      · exact e3
      · exact absurd e2 (by decide)
    refine v_istore (L' := [(5, _), (4, _), (3, _), (2, _), (1, _), (0, _)]) dL_law_963 (Nat.le_of_ble_eq_true rfl) rfl ?_
    refine v_aload_n dL_law_965 rfl 3 rfl ?_
    refine v_aload_n dL_law_966 rfl 5 rfl ?_
    refine v_iload dL_law_967 1 rfl ?_
    refine v_iconst (v := 1) dL_law_969 (by decide) ?_
    refine v_iadd dL_law_970 ?_
    refine v_sld dL_law_971 (sv_sin (a := q) (c := 1) (by omega) (by omega)) ?_
    refine v_callV (M' := mX13_waive) (n := 1) (As := [_]) (ci := 11) (r := (RX13, TX13, 71)) gc_128 rfl (by decide +kernel) ⟨(Nat.le_of_ble_eq_true rfl), (Nat.le_of_ble_eq_true rfl)⟩ rfl rfl dL_law_972 rfl ⟨by show ce + 6 + 0 ≤ 600002; omega, by show sl + 100 + 0 ≤ 7302198; omega⟩ (Nat.le_of_ble_eq_true rfl) hm1 rfl ct2 (fun v2 h3 z3 hq2 => ?_)
    obtain ⟨⟨w2, rfl⟩, ⟨fs3, k1, k2, k3⟩, hi3⟩ := hQ2 _ _ _ hq2
    refine v_istore (L' := [(6, _), (5, _), (4, _), (3, _), (2, _), (1, _), (0, _)]) dL_law_975 (Nat.le_of_ble_eq_true rfl) rfl ?_
    refine v_aload_n dL_law_977 rfl 4 rfl ?_
    refine v_callV (M' := mX13_thrown) (n := 0) (As := []) (ci := 11) (r := (RX13, TX13, 71)) gc_94 rfl (by decide +kernel) ⟨(Nat.le_of_ble_eq_true rfl), (Nat.le_of_ble_eq_true rfl)⟩ rfl rfl dL_law_978 rfl ⟨by show ce + 6 + 0 + 0 ≤ 600002; omega, by show sl + 100 + 0 + 0 ≤ 7302198; omega⟩ (Nat.le_of_ble_eq_true rfl) k1 rfl (m_thrown G _ _ _ fs3 k2 k1 _ k3) (fun v4 h4 z4 hq4 => ?_)
    obtain ⟨rfl, rfl, rfl⟩ := hq4
    refine v_iload dL_law_981 1 rfl ?_
    refine v_icmp_eq (tgt := 988) dL_law_983 (by decide) (fun c_983 => ?_) (fun c_983 => ?_)
    · refine v_iload dL_law_988 1 rfl ?_
      refine v_if_ne (tgt := 1012) dL_law_990 (by decide) (fun c_990 => ?_) (fun c_990 => ?_)
      · refine v_goto (tgt := 1428) dL_law_1012 (by decide) ?_
        refine v_sub (L' := [(4, _), (3, _), (2, _), (1, _), (0, _)]) [2, 3, 4, 5, 6] rfl ?_
        refine v_widen (ce' := ce + 6) (sl' := sl + 100) (by show ce + 6 + 0 + 0 ≤ ce + 6; omega) (by show sl + 100 + 0 + 0 ≤ sl + 100; omega) ?_
        exact hend _ _ hi3
      · exact absurd c_990 (by decide)
    · exact absurd rfl c_983
  · obtain ⟨j, e1, ⟨fsm1, hm1⟩, Q2, ct2, hQ2⟩ := hX _ _ _ hqx
    obtain rfl : j = 1 := by
      rcases sv_n2 e1 with ⟨e2, e3⟩ | ⟨e2, e3⟩
      · exact absurd e2 (by decide)
      · exact e3
    refine v_istore (L' := [(5, _), (4, _), (3, _), (2, _), (1, _), (0, _)]) dL_law_963 (Nat.le_of_ble_eq_true rfl) rfl ?_
    refine v_aload_n dL_law_965 rfl 3 rfl ?_
    refine v_aload_n dL_law_966 rfl 5 rfl ?_
    refine v_iload dL_law_967 1 rfl ?_
    refine v_iconst (v := 1) dL_law_969 (by decide) ?_
    refine v_iadd dL_law_970 ?_
    refine v_sld dL_law_971 (sv_sin (a := q) (c := 1) (by omega) (by omega)) ?_
    refine v_callV (M' := mX13_waive) (n := 1) (As := [_]) (ci := 11) (r := (RX13, TX13, 71)) gc_128 rfl (by decide +kernel) ⟨(Nat.le_of_ble_eq_true rfl), (Nat.le_of_ble_eq_true rfl)⟩ rfl rfl dL_law_972 rfl ⟨by show ce + 6 + 0 ≤ 600002; omega, by show sl + 100 + 0 ≤ 7302198; omega⟩ (Nat.le_of_ble_eq_true rfl) hm1 rfl ct2 (fun v2 h3 z3 hq2 => ?_)
    obtain ⟨⟨w2, rfl⟩, ⟨fs3, k1, k2, k3⟩, hi3⟩ := hQ2 _ _ _ hq2
    refine v_istore (L' := [(6, _), (5, _), (4, _), (3, _), (2, _), (1, _), (0, _)]) dL_law_975 (Nat.le_of_ble_eq_true rfl) rfl ?_
    refine v_aload_n dL_law_977 rfl 4 rfl ?_
    refine v_callV (M' := mX13_thrown) (n := 0) (As := []) (ci := 11) (r := (RX13, TX13, 71)) gc_94 rfl (by decide +kernel) ⟨(Nat.le_of_ble_eq_true rfl), (Nat.le_of_ble_eq_true rfl)⟩ rfl rfl dL_law_978 rfl ⟨by show ce + 6 + 0 + 0 ≤ 600002; omega, by show sl + 100 + 0 + 0 ≤ 7302198; omega⟩ (Nat.le_of_ble_eq_true rfl) k1 rfl (m_thrown G _ _ _ fs3 k2 k1 _ k3) (fun v4 h4 z4 hq4 => ?_)
    obtain ⟨rfl, rfl, rfl⟩ := hq4
    refine v_iload dL_law_981 1 rfl ?_
    refine v_icmp_eq (tgt := 988) dL_law_983 (by decide) (fun c_983 => ?_) (fun c_983 => ?_)
    · refine v_iload dL_law_988 1 rfl ?_
      refine v_if_ne (tgt := 1012) dL_law_990 (by decide) (fun c_990 => ?_) (fun c_990 => ?_)
      · refine v_goto (tgt := 1428) dL_law_1012 (by decide) ?_
        refine v_sub (L' := [(4, _), (3, _), (2, _), (1, _), (0, _)]) [2, 3, 4, 5, 6] rfl ?_
        refine v_widen (ce' := ce + 6) (sl' := sl + 100) (by show ce + 6 + 0 + 0 ≤ ce + 6; omega) (by show sl + 100 + 0 + 0 ≤ sl + 100; omega) ?_
        exact hend _ _ hi3
      · exact absurd c_990 (by decide)
    · exact absurd rfl c_983

set_option maxHeartbeats 4000000 in
set_option maxRecDepth 100000 in
theorem law_changed (G : sv_G) (P : sv_P) (b m o q : Nat) (I I1 : sv_h → Nat → Prop) (hL : G.2.2.2.2.2.1 ≤ 4609) (hq0 : q + 9 ≤ G.2.2.2.2.2.1) (hIn : sv_In G b m o I) (H : OpI G mX12_changed mX13_changed b m o ["java/lang/IllegalStateException", "java/lang/IllegalArgumentException"] [.long (((G.2.2.2.2.2.2 (nI q + 1).toNatClampNeg).toInt64 <<< ((32 : Int32).toInt64 &&& 63)) ||| ((G.2.2.2.2.2.2 (nI q + 2).toNatClampNeg).toInt64 &&& 4294967295)), .long (((G.2.2.2.2.2.2 (nI q + 3).toNatClampNeg).toInt64 <<< ((32 : Int32).toInt64 &&& 63)) ||| ((G.2.2.2.2.2.2 (nI q + 4).toNatClampNeg).toInt64 &&& 4294967295)), .long (((G.2.2.2.2.2.2 (nI q + 5).toNatClampNeg).toInt64 <<< ((32 : Int32).toInt64 &&& 63)) ||| ((G.2.2.2.2.2.2 (nI q + 6).toNatClampNeg).toInt64 &&& 4294967295)), .long (((G.2.2.2.2.2.2 (nI q + 7).toNatClampNeg).toInt64 <<< ((32 : Int32).toInt64 &&& 63)) ||| ((G.2.2.2.2.2.2 (nI q + 8).toNatClampNeg).toInt64 &&& 4294967295))] I I1) (h : sv_h) (z ce sl : Nat) (hce : ce + 6 ≤ 600002) (hsl : sl + 100 ≤ 7302198) (hend : ∀ (h : sv_h) (z : Nat), I1 h z → V G mL_law P 1428 [(4, .int (nI q)), (3, .ref o), (2, .ref m), (1, .ref b), (0, .ref (G.2.2.2.2.1 100))] [] h z (ce + 6) (sl + 100)) (hi : I h z) : V G mL_law P 1015 [(4, .int (nI q)), (3, .ref o), (2, .ref m), (1, .ref b), (0, .ref (G.2.2.2.2.1 100))] [] h z ce sl := by
  obtain ⟨⟨fsb, hb⟩, ⟨fsm, hm⟩, ⟨f0, ho⟩⟩ := hIn h z hi
  refine v_aload_n dL_law_1015 rfl 3 rfl ?_
  refine v_aload_n dL_law_1016 rfl 4 rfl ?_
  refine v_iload dL_law_1017 0 rfl ?_
  refine v_iconst (v := 1) dL_law_1019 (by decide) ?_
  refine v_iadd dL_law_1020 ?_
  refine v_sld dL_law_1021 (sv_sin (a := q) (c := 1) (by omega) (by omega)) ?_
  refine v_i2l dL_law_1022 rfl ?_
  refine v_bipush (v := 32) dL_law_1023 (by decide) ?_
  refine v_lshl dL_law_1025 rfl ?_
  refine v_aload_n dL_law_1026 rfl 4 rfl ?_
  refine v_iload dL_law_1027 0 rfl ?_
  refine v_iconst (v := 2) dL_law_1029 (by decide) ?_
  refine v_iadd dL_law_1030 ?_
  refine v_sld dL_law_1031 (sv_sin (a := q) (c := 2) (by omega) (by omega)) ?_
  refine v_i2l dL_law_1032 rfl ?_
  refine v_ldc2 (v := (4294967295)) (by decide +kernel) dL_law_1033 ?_
  refine v_land dL_law_1036 ?_
  refine v_lor dL_law_1037 ?_
  refine v_aload_n dL_law_1038 rfl 4 rfl ?_
  refine v_iload dL_law_1039 0 rfl ?_
  refine v_iconst (v := 3) dL_law_1041 (by decide) ?_
  refine v_iadd dL_law_1042 ?_
  refine v_sld dL_law_1043 (sv_sin (a := q) (c := 3) (by omega) (by omega)) ?_
  refine v_i2l dL_law_1044 rfl ?_
  refine v_bipush (v := 32) dL_law_1045 (by decide) ?_
  refine v_lshl dL_law_1047 rfl ?_
  refine v_aload_n dL_law_1048 rfl 4 rfl ?_
  refine v_iload dL_law_1049 0 rfl ?_
  refine v_iconst (v := 4) dL_law_1051 (by decide) ?_
  refine v_iadd dL_law_1052 ?_
  refine v_sld dL_law_1053 (sv_sin (a := q) (c := 4) (by omega) (by omega)) ?_
  refine v_i2l dL_law_1054 rfl ?_
  refine v_ldc2 (v := (4294967295)) (by decide +kernel) dL_law_1055 ?_
  refine v_land dL_law_1058 ?_
  refine v_lor dL_law_1059 ?_
  refine v_aload_n dL_law_1060 rfl 4 rfl ?_
  refine v_iload dL_law_1061 0 rfl ?_
  refine v_iconst (v := 5) dL_law_1063 (by decide) ?_
  refine v_iadd dL_law_1064 ?_
  refine v_sld dL_law_1065 (sv_sin (a := q) (c := 5) (by omega) (by omega)) ?_
  refine v_i2l dL_law_1066 rfl ?_
  refine v_bipush (v := 32) dL_law_1067 (by decide) ?_
  refine v_lshl dL_law_1069 rfl ?_
  refine v_aload_n dL_law_1070 rfl 4 rfl ?_
  refine v_iload dL_law_1071 0 rfl ?_
  refine v_bipush (v := 6) dL_law_1073 (by decide) ?_
  refine v_iadd dL_law_1075 ?_
  refine v_sld dL_law_1076 (sv_sin (a := q) (c := 6) (by omega) (by omega)) ?_
  refine v_i2l dL_law_1077 rfl ?_
  refine v_ldc2 (v := (4294967295)) (by decide +kernel) dL_law_1078 ?_
  refine v_land dL_law_1081 ?_
  refine v_lor dL_law_1082 ?_
  refine v_aload_n dL_law_1083 rfl 4 rfl ?_
  refine v_iload dL_law_1084 0 rfl ?_
  refine v_bipush (v := 7) dL_law_1086 (by decide) ?_
  refine v_iadd dL_law_1088 ?_
  refine v_sld dL_law_1089 (sv_sin (a := q) (c := 7) (by omega) (by omega)) ?_
  refine v_i2l dL_law_1090 rfl ?_
  refine v_bipush (v := 32) dL_law_1091 (by decide) ?_
  refine v_lshl dL_law_1093 rfl ?_
  refine v_aload_n dL_law_1094 rfl 4 rfl ?_
  refine v_iload dL_law_1095 0 rfl ?_
  refine v_bipush (v := 8) dL_law_1097 (by decide) ?_
  refine v_iadd dL_law_1099 ?_
  refine v_sld dL_law_1100 (sv_sin (a := q) (c := 8) (by omega) (by omega)) ?_
  refine v_i2l dL_law_1101 rfl ?_
  refine v_ldc2 (v := (4294967295)) (by decide +kernel) dL_law_1102 ?_
  refine v_land dL_law_1105 ?_
  refine v_lor dL_law_1106 ?_
  refine v_aload_n dL_law_1107 rfl 1 rfl ?_
  obtain ⟨Qr, Qx, ct, hR, hX⟩ := H h z hi
  refine v_callSW (M' := mL_changed) (n := 6) (As := [_, _, _, _, _, _]) gc_129 rfl (by decide +kernel) ⟨(Nat.le_of_ble_eq_true rfl), (Nat.le_of_ble_eq_true rfl)⟩ dL_law_1108 rfl ⟨by show ce + 6 ≤ 600002; omega, by show sl + 100 ≤ 7302198; omega⟩ (Nat.le_of_ble_eq_true rfl) rfl (w_changed G h z b o _ _ _ _ fsb f0 Qr Qx hb ho ct (fun v h1 z1 hq => by obtain ⟨w, e1, ⟨f, e2⟩, _⟩ := hR v h1 z1 hq; exact ⟨w, f, e1, e2⟩) (fun E h1 z1 hq => by obtain ⟨j, e1, _⟩ := hX E h1 z1 hq; exact ((sv_n2 e1).elim (fun q => Or.inl q.1) (fun q => Or.inr q.1)))) (fun v h1 z1 hq => ?_)
  rcases hq with ⟨rfl, w, h2, g, hqr, ho1, hg0, hfr⟩ | ⟨rfl, hqx⟩ | ⟨rfl, hqx⟩
  · obtain ⟨w9, e1, -, hmo, ⟨fsm1, hm1⟩, hK⟩ := hR _ _ _ hqr
    cases e1
    obtain ⟨Q2, ct2, hQ2⟩ := hK h1 g ho1 hg0 hfr
    refine v_istore (L' := [(5, _), (4, _), (3, _), (2, _), (1, _), (0, _)]) dL_law_1111 (Nat.le_of_ble_eq_true rfl) rfl ?_
    refine v_aload_n dL_law_1113 rfl 3 rfl ?_
    refine v_aload_n dL_law_1114 rfl 5 rfl ?_
    refine v_iload dL_law_1115 1 rfl ?_
    refine v_iconst (v := 1) dL_law_1117 (by decide) ?_
    refine v_iadd dL_law_1118 ?_
    refine v_sld dL_law_1119 (sv_sin (a := q) (c := 1) (by omega) (by omega)) ?_
    refine v_i2l dL_law_1120 rfl ?_
    refine v_bipush (v := 32) dL_law_1121 (by decide) ?_
    refine v_lshl dL_law_1123 rfl ?_
    refine v_aload_n dL_law_1124 rfl 5 rfl ?_
    refine v_iload dL_law_1125 1 rfl ?_
    refine v_iconst (v := 2) dL_law_1127 (by decide) ?_
    refine v_iadd dL_law_1128 ?_
    refine v_sld dL_law_1129 (sv_sin (a := q) (c := 2) (by omega) (by omega)) ?_
    refine v_i2l dL_law_1130 rfl ?_
    refine v_ldc2 (v := (4294967295)) (by decide +kernel) dL_law_1131 ?_
    refine v_land dL_law_1134 ?_
    refine v_lor dL_law_1135 ?_
    refine v_aload_n dL_law_1136 rfl 5 rfl ?_
    refine v_iload dL_law_1137 1 rfl ?_
    refine v_iconst (v := 3) dL_law_1139 (by decide) ?_
    refine v_iadd dL_law_1140 ?_
    refine v_sld dL_law_1141 (sv_sin (a := q) (c := 3) (by omega) (by omega)) ?_
    refine v_i2l dL_law_1142 rfl ?_
    refine v_bipush (v := 32) dL_law_1143 (by decide) ?_
    refine v_lshl dL_law_1145 rfl ?_
    refine v_aload_n dL_law_1146 rfl 5 rfl ?_
    refine v_iload dL_law_1147 1 rfl ?_
    refine v_iconst (v := 4) dL_law_1149 (by decide) ?_
    refine v_iadd dL_law_1150 ?_
    refine v_sld dL_law_1151 (sv_sin (a := q) (c := 4) (by omega) (by omega)) ?_
    refine v_i2l dL_law_1152 rfl ?_
    refine v_ldc2 (v := (4294967295)) (by decide +kernel) dL_law_1153 ?_
    refine v_land dL_law_1156 ?_
    refine v_lor dL_law_1157 ?_
    refine v_aload_n dL_law_1158 rfl 5 rfl ?_
    refine v_iload dL_law_1159 1 rfl ?_
    refine v_iconst (v := 5) dL_law_1161 (by decide) ?_
    refine v_iadd dL_law_1162 ?_
    refine v_sld dL_law_1163 (sv_sin (a := q) (c := 5) (by omega) (by omega)) ?_
    refine v_i2l dL_law_1164 rfl ?_
    refine v_bipush (v := 32) dL_law_1165 (by decide) ?_
    refine v_lshl dL_law_1167 rfl ?_
    refine v_aload_n dL_law_1168 rfl 5 rfl ?_
    refine v_iload dL_law_1169 1 rfl ?_
    refine v_bipush (v := 6) dL_law_1171 (by decide) ?_
    refine v_iadd dL_law_1173 ?_
    refine v_sld dL_law_1174 (sv_sin (a := q) (c := 6) (by omega) (by omega)) ?_
    refine v_i2l dL_law_1175 rfl ?_
    refine v_ldc2 (v := (4294967295)) (by decide +kernel) dL_law_1176 ?_
    refine v_land dL_law_1179 ?_
    refine v_lor dL_law_1180 ?_
    refine v_aload_n dL_law_1181 rfl 5 rfl ?_
    refine v_iload dL_law_1182 1 rfl ?_
    refine v_bipush (v := 7) dL_law_1184 (by decide) ?_
    refine v_iadd dL_law_1186 ?_
    refine v_sld dL_law_1187 (sv_sin (a := q) (c := 7) (by omega) (by omega)) ?_
    refine v_i2l dL_law_1188 rfl ?_
    refine v_bipush (v := 32) dL_law_1189 (by decide) ?_
    refine v_lshl dL_law_1191 rfl ?_
    refine v_aload_n dL_law_1192 rfl 5 rfl ?_
    refine v_iload dL_law_1193 1 rfl ?_
    refine v_bipush (v := 8) dL_law_1195 (by decide) ?_
    refine v_iadd dL_law_1197 ?_
    refine v_sld dL_law_1198 (sv_sin (a := q) (c := 8) (by omega) (by omega)) ?_
    refine v_i2l dL_law_1199 rfl ?_
    refine v_ldc2 (v := (4294967295)) (by decide +kernel) dL_law_1200 ?_
    refine v_land dL_law_1203 ?_
    refine v_lor dL_law_1204 ?_
    refine v_callV (M' := mX13_changed) (n := 4) (As := [_, _, _, _]) (ci := 11) (r := (RX13, TX13, 71)) gc_132 rfl (by decide +kernel) ⟨(Nat.le_of_ble_eq_true rfl), (Nat.le_of_ble_eq_true rfl)⟩ rfl rfl dL_law_1205 rfl ⟨by show ce + 6 + 0 ≤ 600002; omega, by show sl + 100 + 0 ≤ 7302198; omega⟩ (Nat.le_of_ble_eq_true rfl) ((hfr _ hmo).trans hm1) rfl ct2 (fun v2 h3 z3 hq2 => ?_)
    obtain ⟨rfl, ⟨fs3, k1, k2, k3⟩, ho3, hi3⟩ := hQ2 _ _ _ hq2
    refine v_istore (L' := [(6, _), (5, _), (4, _), (3, _), (2, _), (1, _), (0, _)]) dL_law_1208 (Nat.le_of_ble_eq_true rfl) rfl ?_
    refine v_aload_n dL_law_1210 rfl 4 rfl ?_
    refine v_callV (M' := mX13_thrown) (n := 0) (As := []) (ci := 11) (r := (RX13, TX13, 71)) gc_94 rfl (by decide +kernel) ⟨(Nat.le_of_ble_eq_true rfl), (Nat.le_of_ble_eq_true rfl)⟩ rfl rfl dL_law_1211 rfl ⟨by show ce + 6 + 0 + 0 ≤ 600002; omega, by show sl + 100 + 0 + 0 ≤ 7302198; omega⟩ (Nat.le_of_ble_eq_true rfl) k1 rfl (m_thrown G _ _ _ fs3 k2 k1 _ k3) (fun v4 h4 z4 hq4 => ?_)
    obtain ⟨rfl, rfl, rfl⟩ := hq4
    refine v_iload dL_law_1214 1 rfl ?_
    refine v_icmp_eq (tgt := 1221) dL_law_1216 (by decide) (fun c_1216 => ?_) (fun c_1216 => ?_)
    · refine v_iload dL_law_1221 1 rfl ?_
      refine v_if_ne (tgt := 1238) dL_law_1223 (by decide) (fun c_1223 => ?_) (fun c_1223 => ?_)
      · exact absurd rfl c_1223
      · refine v_aload_n dL_law_1226 rfl 3 rfl ?_
        refine v_iconst (v := 0) dL_law_1227 (by decide) ?_
        refine v_lald dL_law_1228 ho3 (by rw [← nI_0]; exact vp_in_nI (by omega) (by omega)) ?_
        refine v_iload dL_law_1229 0 rfl ?_
        refine v_i2l dL_law_1231 rfl ?_
        refine v_lcmp_eq (tgt := 1238) dL_law_1232 dL_law_1233 (by decide) (fun c_1233 => ?_) (fun c_1233 => ?_)
        · refine v_goto (tgt := 1428) dL_law_1238 (by decide) ?_
          refine v_sub (L' := [(4, _), (3, _), (2, _), (1, _), (0, _)]) [2, 3, 4, 5, 6] rfl ?_
          refine v_widen (ce' := ce + 6) (sl' := sl + 100) (by show ce + 6 + 0 + 0 ≤ ce + 6; omega) (by show sl + 100 + 0 + 0 ≤ sl + 100; omega) ?_
          exact hend _ _ hi3
        · exact absurd (by rw [sb_cl0, hg0]) c_1233
    · exact absurd rfl c_1216
  · obtain ⟨j, e1, ⟨fsm1, hm1⟩, Q2, ct2, hQ2⟩ := hX _ _ _ hqx
    obtain rfl : j = 0 := by
      rcases sv_n2 e1 with ⟨e2, e3⟩ | ⟨e2, e3⟩
      · exact e3
      · exact absurd e2 (by decide)
    refine v_istore (L' := [(5, _), (4, _), (3, _), (2, _), (1, _), (0, _)]) dL_law_1111 (Nat.le_of_ble_eq_true rfl) rfl ?_
    refine v_aload_n dL_law_1113 rfl 3 rfl ?_
    refine v_aload_n dL_law_1114 rfl 5 rfl ?_
    refine v_iload dL_law_1115 1 rfl ?_
    refine v_iconst (v := 1) dL_law_1117 (by decide) ?_
    refine v_iadd dL_law_1118 ?_
    refine v_sld dL_law_1119 (sv_sin (a := q) (c := 1) (by omega) (by omega)) ?_
    refine v_i2l dL_law_1120 rfl ?_
    refine v_bipush (v := 32) dL_law_1121 (by decide) ?_
    refine v_lshl dL_law_1123 rfl ?_
    refine v_aload_n dL_law_1124 rfl 5 rfl ?_
    refine v_iload dL_law_1125 1 rfl ?_
    refine v_iconst (v := 2) dL_law_1127 (by decide) ?_
    refine v_iadd dL_law_1128 ?_
    refine v_sld dL_law_1129 (sv_sin (a := q) (c := 2) (by omega) (by omega)) ?_
    refine v_i2l dL_law_1130 rfl ?_
    refine v_ldc2 (v := (4294967295)) (by decide +kernel) dL_law_1131 ?_
    refine v_land dL_law_1134 ?_
    refine v_lor dL_law_1135 ?_
    refine v_aload_n dL_law_1136 rfl 5 rfl ?_
    refine v_iload dL_law_1137 1 rfl ?_
    refine v_iconst (v := 3) dL_law_1139 (by decide) ?_
    refine v_iadd dL_law_1140 ?_
    refine v_sld dL_law_1141 (sv_sin (a := q) (c := 3) (by omega) (by omega)) ?_
    refine v_i2l dL_law_1142 rfl ?_
    refine v_bipush (v := 32) dL_law_1143 (by decide) ?_
    refine v_lshl dL_law_1145 rfl ?_
    refine v_aload_n dL_law_1146 rfl 5 rfl ?_
    refine v_iload dL_law_1147 1 rfl ?_
    refine v_iconst (v := 4) dL_law_1149 (by decide) ?_
    refine v_iadd dL_law_1150 ?_
    refine v_sld dL_law_1151 (sv_sin (a := q) (c := 4) (by omega) (by omega)) ?_
    refine v_i2l dL_law_1152 rfl ?_
    refine v_ldc2 (v := (4294967295)) (by decide +kernel) dL_law_1153 ?_
    refine v_land dL_law_1156 ?_
    refine v_lor dL_law_1157 ?_
    refine v_aload_n dL_law_1158 rfl 5 rfl ?_
    refine v_iload dL_law_1159 1 rfl ?_
    refine v_iconst (v := 5) dL_law_1161 (by decide) ?_
    refine v_iadd dL_law_1162 ?_
    refine v_sld dL_law_1163 (sv_sin (a := q) (c := 5) (by omega) (by omega)) ?_
    refine v_i2l dL_law_1164 rfl ?_
    refine v_bipush (v := 32) dL_law_1165 (by decide) ?_
    refine v_lshl dL_law_1167 rfl ?_
    refine v_aload_n dL_law_1168 rfl 5 rfl ?_
    refine v_iload dL_law_1169 1 rfl ?_
    refine v_bipush (v := 6) dL_law_1171 (by decide) ?_
    refine v_iadd dL_law_1173 ?_
    refine v_sld dL_law_1174 (sv_sin (a := q) (c := 6) (by omega) (by omega)) ?_
    refine v_i2l dL_law_1175 rfl ?_
    refine v_ldc2 (v := (4294967295)) (by decide +kernel) dL_law_1176 ?_
    refine v_land dL_law_1179 ?_
    refine v_lor dL_law_1180 ?_
    refine v_aload_n dL_law_1181 rfl 5 rfl ?_
    refine v_iload dL_law_1182 1 rfl ?_
    refine v_bipush (v := 7) dL_law_1184 (by decide) ?_
    refine v_iadd dL_law_1186 ?_
    refine v_sld dL_law_1187 (sv_sin (a := q) (c := 7) (by omega) (by omega)) ?_
    refine v_i2l dL_law_1188 rfl ?_
    refine v_bipush (v := 32) dL_law_1189 (by decide) ?_
    refine v_lshl dL_law_1191 rfl ?_
    refine v_aload_n dL_law_1192 rfl 5 rfl ?_
    refine v_iload dL_law_1193 1 rfl ?_
    refine v_bipush (v := 8) dL_law_1195 (by decide) ?_
    refine v_iadd dL_law_1197 ?_
    refine v_sld dL_law_1198 (sv_sin (a := q) (c := 8) (by omega) (by omega)) ?_
    refine v_i2l dL_law_1199 rfl ?_
    refine v_ldc2 (v := (4294967295)) (by decide +kernel) dL_law_1200 ?_
    refine v_land dL_law_1203 ?_
    refine v_lor dL_law_1204 ?_
    refine v_callV (M' := mX13_changed) (n := 4) (As := [_, _, _, _]) (ci := 11) (r := (RX13, TX13, 71)) gc_132 rfl (by decide +kernel) ⟨(Nat.le_of_ble_eq_true rfl), (Nat.le_of_ble_eq_true rfl)⟩ rfl rfl dL_law_1205 rfl ⟨by show ce + 6 + 0 ≤ 600002; omega, by show sl + 100 + 0 ≤ 7302198; omega⟩ (Nat.le_of_ble_eq_true rfl) hm1 rfl ct2 (fun v2 h3 z3 hq2 => ?_)
    obtain ⟨⟨w2, rfl⟩, ⟨fs3, k1, k2, k3⟩, hi3⟩ := hQ2 _ _ _ hq2
    refine v_istore (L' := [(6, _), (5, _), (4, _), (3, _), (2, _), (1, _), (0, _)]) dL_law_1208 (Nat.le_of_ble_eq_true rfl) rfl ?_
    refine v_aload_n dL_law_1210 rfl 4 rfl ?_
    refine v_callV (M' := mX13_thrown) (n := 0) (As := []) (ci := 11) (r := (RX13, TX13, 71)) gc_94 rfl (by decide +kernel) ⟨(Nat.le_of_ble_eq_true rfl), (Nat.le_of_ble_eq_true rfl)⟩ rfl rfl dL_law_1211 rfl ⟨by show ce + 6 + 0 + 0 ≤ 600002; omega, by show sl + 100 + 0 + 0 ≤ 7302198; omega⟩ (Nat.le_of_ble_eq_true rfl) k1 rfl (m_thrown G _ _ _ fs3 k2 k1 _ k3) (fun v4 h4 z4 hq4 => ?_)
    obtain ⟨rfl, rfl, rfl⟩ := hq4
    refine v_iload dL_law_1214 1 rfl ?_
    refine v_icmp_eq (tgt := 1221) dL_law_1216 (by decide) (fun c_1216 => ?_) (fun c_1216 => ?_)
    · refine v_iload dL_law_1221 1 rfl ?_
      refine v_if_ne (tgt := 1238) dL_law_1223 (by decide) (fun c_1223 => ?_) (fun c_1223 => ?_)
      · refine v_goto (tgt := 1428) dL_law_1238 (by decide) ?_
        refine v_sub (L' := [(4, _), (3, _), (2, _), (1, _), (0, _)]) [2, 3, 4, 5, 6] rfl ?_
        refine v_widen (ce' := ce + 6) (sl' := sl + 100) (by show ce + 6 + 0 + 0 ≤ ce + 6; omega) (by show sl + 100 + 0 + 0 ≤ sl + 100; omega) ?_
        exact hend _ _ hi3
      · exact absurd c_1223 (by decide)
    · exact absurd rfl c_1216
  · obtain ⟨j, e1, ⟨fsm1, hm1⟩, Q2, ct2, hQ2⟩ := hX _ _ _ hqx
    obtain rfl : j = 1 := by
      rcases sv_n2 e1 with ⟨e2, e3⟩ | ⟨e2, e3⟩
      · exact absurd e2 (by decide)
      · exact e3
    refine v_istore (L' := [(5, _), (4, _), (3, _), (2, _), (1, _), (0, _)]) dL_law_1111 (Nat.le_of_ble_eq_true rfl) rfl ?_
    refine v_aload_n dL_law_1113 rfl 3 rfl ?_
    refine v_aload_n dL_law_1114 rfl 5 rfl ?_
    refine v_iload dL_law_1115 1 rfl ?_
    refine v_iconst (v := 1) dL_law_1117 (by decide) ?_
    refine v_iadd dL_law_1118 ?_
    refine v_sld dL_law_1119 (sv_sin (a := q) (c := 1) (by omega) (by omega)) ?_
    refine v_i2l dL_law_1120 rfl ?_
    refine v_bipush (v := 32) dL_law_1121 (by decide) ?_
    refine v_lshl dL_law_1123 rfl ?_
    refine v_aload_n dL_law_1124 rfl 5 rfl ?_
    refine v_iload dL_law_1125 1 rfl ?_
    refine v_iconst (v := 2) dL_law_1127 (by decide) ?_
    refine v_iadd dL_law_1128 ?_
    refine v_sld dL_law_1129 (sv_sin (a := q) (c := 2) (by omega) (by omega)) ?_
    refine v_i2l dL_law_1130 rfl ?_
    refine v_ldc2 (v := (4294967295)) (by decide +kernel) dL_law_1131 ?_
    refine v_land dL_law_1134 ?_
    refine v_lor dL_law_1135 ?_
    refine v_aload_n dL_law_1136 rfl 5 rfl ?_
    refine v_iload dL_law_1137 1 rfl ?_
    refine v_iconst (v := 3) dL_law_1139 (by decide) ?_
    refine v_iadd dL_law_1140 ?_
    refine v_sld dL_law_1141 (sv_sin (a := q) (c := 3) (by omega) (by omega)) ?_
    refine v_i2l dL_law_1142 rfl ?_
    refine v_bipush (v := 32) dL_law_1143 (by decide) ?_
    refine v_lshl dL_law_1145 rfl ?_
    refine v_aload_n dL_law_1146 rfl 5 rfl ?_
    refine v_iload dL_law_1147 1 rfl ?_
    refine v_iconst (v := 4) dL_law_1149 (by decide) ?_
    refine v_iadd dL_law_1150 ?_
    refine v_sld dL_law_1151 (sv_sin (a := q) (c := 4) (by omega) (by omega)) ?_
    refine v_i2l dL_law_1152 rfl ?_
    refine v_ldc2 (v := (4294967295)) (by decide +kernel) dL_law_1153 ?_
    refine v_land dL_law_1156 ?_
    refine v_lor dL_law_1157 ?_
    refine v_aload_n dL_law_1158 rfl 5 rfl ?_
    refine v_iload dL_law_1159 1 rfl ?_
    refine v_iconst (v := 5) dL_law_1161 (by decide) ?_
    refine v_iadd dL_law_1162 ?_
    refine v_sld dL_law_1163 (sv_sin (a := q) (c := 5) (by omega) (by omega)) ?_
    refine v_i2l dL_law_1164 rfl ?_
    refine v_bipush (v := 32) dL_law_1165 (by decide) ?_
    refine v_lshl dL_law_1167 rfl ?_
    refine v_aload_n dL_law_1168 rfl 5 rfl ?_
    refine v_iload dL_law_1169 1 rfl ?_
    refine v_bipush (v := 6) dL_law_1171 (by decide) ?_
    refine v_iadd dL_law_1173 ?_
    refine v_sld dL_law_1174 (sv_sin (a := q) (c := 6) (by omega) (by omega)) ?_
    refine v_i2l dL_law_1175 rfl ?_
    refine v_ldc2 (v := (4294967295)) (by decide +kernel) dL_law_1176 ?_
    refine v_land dL_law_1179 ?_
    refine v_lor dL_law_1180 ?_
    refine v_aload_n dL_law_1181 rfl 5 rfl ?_
    refine v_iload dL_law_1182 1 rfl ?_
    refine v_bipush (v := 7) dL_law_1184 (by decide) ?_
    refine v_iadd dL_law_1186 ?_
    refine v_sld dL_law_1187 (sv_sin (a := q) (c := 7) (by omega) (by omega)) ?_
    refine v_i2l dL_law_1188 rfl ?_
    refine v_bipush (v := 32) dL_law_1189 (by decide) ?_
    refine v_lshl dL_law_1191 rfl ?_
    refine v_aload_n dL_law_1192 rfl 5 rfl ?_
    refine v_iload dL_law_1193 1 rfl ?_
    refine v_bipush (v := 8) dL_law_1195 (by decide) ?_
    refine v_iadd dL_law_1197 ?_
    refine v_sld dL_law_1198 (sv_sin (a := q) (c := 8) (by omega) (by omega)) ?_
    refine v_i2l dL_law_1199 rfl ?_
    refine v_ldc2 (v := (4294967295)) (by decide +kernel) dL_law_1200 ?_
    refine v_land dL_law_1203 ?_
    refine v_lor dL_law_1204 ?_
    refine v_callV (M' := mX13_changed) (n := 4) (As := [_, _, _, _]) (ci := 11) (r := (RX13, TX13, 71)) gc_132 rfl (by decide +kernel) ⟨(Nat.le_of_ble_eq_true rfl), (Nat.le_of_ble_eq_true rfl)⟩ rfl rfl dL_law_1205 rfl ⟨by show ce + 6 + 0 ≤ 600002; omega, by show sl + 100 + 0 ≤ 7302198; omega⟩ (Nat.le_of_ble_eq_true rfl) hm1 rfl ct2 (fun v2 h3 z3 hq2 => ?_)
    obtain ⟨⟨w2, rfl⟩, ⟨fs3, k1, k2, k3⟩, hi3⟩ := hQ2 _ _ _ hq2
    refine v_istore (L' := [(6, _), (5, _), (4, _), (3, _), (2, _), (1, _), (0, _)]) dL_law_1208 (Nat.le_of_ble_eq_true rfl) rfl ?_
    refine v_aload_n dL_law_1210 rfl 4 rfl ?_
    refine v_callV (M' := mX13_thrown) (n := 0) (As := []) (ci := 11) (r := (RX13, TX13, 71)) gc_94 rfl (by decide +kernel) ⟨(Nat.le_of_ble_eq_true rfl), (Nat.le_of_ble_eq_true rfl)⟩ rfl rfl dL_law_1211 rfl ⟨by show ce + 6 + 0 + 0 ≤ 600002; omega, by show sl + 100 + 0 + 0 ≤ 7302198; omega⟩ (Nat.le_of_ble_eq_true rfl) k1 rfl (m_thrown G _ _ _ fs3 k2 k1 _ k3) (fun v4 h4 z4 hq4 => ?_)
    obtain ⟨rfl, rfl, rfl⟩ := hq4
    refine v_iload dL_law_1214 1 rfl ?_
    refine v_icmp_eq (tgt := 1221) dL_law_1216 (by decide) (fun c_1216 => ?_) (fun c_1216 => ?_)
    · refine v_iload dL_law_1221 1 rfl ?_
      refine v_if_ne (tgt := 1238) dL_law_1223 (by decide) (fun c_1223 => ?_) (fun c_1223 => ?_)
      · refine v_goto (tgt := 1428) dL_law_1238 (by decide) ?_
        refine v_sub (L' := [(4, _), (3, _), (2, _), (1, _), (0, _)]) [2, 3, 4, 5, 6] rfl ?_
        refine v_widen (ce' := ce + 6) (sl' := sl + 100) (by show ce + 6 + 0 + 0 ≤ ce + 6; omega) (by show sl + 100 + 0 + 0 ≤ sl + 100; omega) ?_
        exact hend _ _ hi3
      · exact absurd c_1223 (by decide)
    · exact absurd rfl c_1216

set_option maxHeartbeats 4000000 in
set_option maxRecDepth 100000 in
theorem law_same (G : sv_G) (P : sv_P) (b m o q : Nat) (I I1 : sv_h → Nat → Prop) (hL : G.2.2.2.2.2.1 ≤ 4609) (hq0 : q + 9 ≤ G.2.2.2.2.2.1) (hIn : sv_In G b m o I) (H : OpZ G mX12_same mX13_same b m o ["java/lang/IndexOutOfBoundsException", "java/lang/UnsupportedOperationException"] [.int (G.2.2.2.2.2.2 (nI q + 1).toNatClampNeg), .int (G.2.2.2.2.2.2 (nI q + 2).toNatClampNeg)] I I1) (h : sv_h) (z ce sl : Nat) (hce : ce + 6 ≤ 600002) (hsl : sl + 100 ≤ 7302198) (hend : ∀ (h : sv_h) (z : Nat), I1 h z → V G mL_law P 1428 [(4, .int (nI q)), (3, .ref o), (2, .ref m), (1, .ref b), (0, .ref (G.2.2.2.2.1 100))] [] h z (ce + 6) (sl + 100)) (hi : I h z) : V G mL_law P 1241 [(4, .int (nI q)), (3, .ref o), (2, .ref m), (1, .ref b), (0, .ref (G.2.2.2.2.1 100))] [] h z ce sl := by
  obtain ⟨⟨fsb, hb⟩, ⟨fsm, hm⟩, ⟨f0, ho⟩⟩ := hIn h z hi
  refine v_aload_n dL_law_1241 rfl 3 rfl ?_
  refine v_aload_n dL_law_1242 rfl 4 rfl ?_
  refine v_iload dL_law_1243 0 rfl ?_
  refine v_iconst (v := 1) dL_law_1245 (by decide) ?_
  refine v_iadd dL_law_1246 ?_
  refine v_sld dL_law_1247 (sv_sin (a := q) (c := 1) (by omega) (by omega)) ?_
  refine v_aload_n dL_law_1248 rfl 4 rfl ?_
  refine v_iload dL_law_1249 0 rfl ?_
  refine v_iconst (v := 2) dL_law_1251 (by decide) ?_
  refine v_iadd dL_law_1252 ?_
  refine v_sld dL_law_1253 (sv_sin (a := q) (c := 2) (by omega) (by omega)) ?_
  refine v_aload_n dL_law_1254 rfl 1 rfl ?_
  obtain ⟨Qr, Qx, ct, hR, hX⟩ := H h z hi
  refine v_callSW (M' := mL_same) (n := 4) (As := [_, _, _, _]) gc_133 rfl (by decide +kernel) ⟨(Nat.le_of_ble_eq_true rfl), (Nat.le_of_ble_eq_true rfl)⟩ dL_law_1255 rfl ⟨by show ce + 6 ≤ 600002; omega, by show sl + 100 ≤ 7302198; omega⟩ (Nat.le_of_ble_eq_true rfl) rfl (w_same G h z b o _ _ fsb f0 Qr Qx hb ho ct (fun v h1 z1 hq => by obtain ⟨w, e1, ⟨f, e2⟩, _⟩ := hR v h1 z1 hq; exact ⟨w, f, e1, e2⟩) (fun E h1 z1 hq => by obtain ⟨j, e1, _⟩ := hX E h1 z1 hq; exact ((sv_n2 e1).elim (fun q => Or.inl q.1) (fun q => Or.inr q.1)))) (fun v h1 z1 hq => ?_)
  rcases hq with ⟨rfl, w, h2, g, hqr, ho1, hg0, hfr⟩ | ⟨rfl, hqx⟩ | ⟨rfl, hqx⟩
  · obtain ⟨w9, e1, -, hmo, ⟨fsm1, hm1⟩, hK⟩ := hR _ _ _ hqr
    cases e1
    obtain ⟨Q2, ct2, hQ2⟩ := hK h1 g ho1 hg0 hfr
    refine v_istore (L' := [(5, _), (4, _), (3, _), (2, _), (1, _), (0, _)]) dL_law_1258 (Nat.le_of_ble_eq_true rfl) rfl ?_
    refine v_aload_n dL_law_1260 rfl 3 rfl ?_
    refine v_aload_n dL_law_1261 rfl 5 rfl ?_
    refine v_iload dL_law_1262 1 rfl ?_
    refine v_iconst (v := 1) dL_law_1264 (by decide) ?_
    refine v_iadd dL_law_1265 ?_
    refine v_sld dL_law_1266 (sv_sin (a := q) (c := 1) (by omega) (by omega)) ?_
    refine v_aload_n dL_law_1267 rfl 5 rfl ?_
    refine v_iload dL_law_1268 1 rfl ?_
    refine v_iconst (v := 2) dL_law_1270 (by decide) ?_
    refine v_iadd dL_law_1271 ?_
    refine v_sld dL_law_1272 (sv_sin (a := q) (c := 2) (by omega) (by omega)) ?_
    refine v_callV (M' := mX13_same) (n := 2) (As := [_, _]) (ci := 11) (r := (RX13, TX13, 71)) gc_135 rfl (by decide +kernel) ⟨(Nat.le_of_ble_eq_true rfl), (Nat.le_of_ble_eq_true rfl)⟩ rfl rfl dL_law_1273 rfl ⟨by show ce + 6 + 0 ≤ 600002; omega, by show sl + 100 + 0 ≤ 7302198; omega⟩ (Nat.le_of_ble_eq_true rfl) ((hfr _ hmo).trans hm1) rfl ct2 (fun v2 h3 z3 hq2 => ?_)
    obtain ⟨rfl, ⟨fs3, k1, k2, k3⟩, ho3, hi3⟩ := hQ2 _ _ _ hq2
    refine v_istore (L' := [(6, _), (5, _), (4, _), (3, _), (2, _), (1, _), (0, _)]) dL_law_1276 (Nat.le_of_ble_eq_true rfl) rfl ?_
    refine v_aload_n dL_law_1278 rfl 4 rfl ?_
    refine v_callV (M' := mX13_thrown) (n := 0) (As := []) (ci := 11) (r := (RX13, TX13, 71)) gc_94 rfl (by decide +kernel) ⟨(Nat.le_of_ble_eq_true rfl), (Nat.le_of_ble_eq_true rfl)⟩ rfl rfl dL_law_1279 rfl ⟨by show ce + 6 + 0 + 0 ≤ 600002; omega, by show sl + 100 + 0 + 0 ≤ 7302198; omega⟩ (Nat.le_of_ble_eq_true rfl) k1 rfl (m_thrown G _ _ _ fs3 k2 k1 _ k3) (fun v4 h4 z4 hq4 => ?_)
    obtain ⟨rfl, rfl, rfl⟩ := hq4
    refine v_iload dL_law_1282 1 rfl ?_
    refine v_icmp_eq (tgt := 1289) dL_law_1284 (by decide) (fun c_1284 => ?_) (fun c_1284 => ?_)
    · refine v_iload dL_law_1289 1 rfl ?_
      refine v_if_ne (tgt := 1313) dL_law_1291 (by decide) (fun c_1291 => ?_) (fun c_1291 => ?_)
      · exact absurd rfl c_1291
      · refine v_aload_n dL_law_1294 rfl 3 rfl ?_
        refine v_iconst (v := 0) dL_law_1295 (by decide) ?_
        refine v_lald dL_law_1296 ho3 (by rw [← nI_0]; exact vp_in_nI (by omega) (by omega)) ?_
        refine v_iload dL_law_1297 0 rfl ?_
        refine v_if_eq (tgt := 1306) dL_law_1299 (by decide) (fun c_1299 => ?_) (fun c_1299 => ?_)
        · refine v_lconst (v := 0) dL_law_1306 (by decide) ?_
          refine v_lcmp_eq (tgt := 1313) dL_law_1307 dL_law_1308 (by decide) (fun c_1308 => ?_) (fun c_1308 => ?_)
          · refine v_goto (tgt := 1428) dL_law_1313 (by decide) ?_
            refine v_sub (L' := [(4, _), (3, _), (2, _), (1, _), (0, _)]) [2, 3, 4, 5, 6] rfl ?_
            refine v_widen (ce' := ce + 6) (sl' := sl + 100) (by show ce + 6 + 0 + 0 ≤ ce + 6; omega) (by show sl + 100 + 0 + 0 ≤ sl + 100; omega) ?_
            exact hend _ _ hi3
          · exact absurd (by rw [sb_cl0, hg0]; simp [*]) c_1308
        · refine v_lconst (v := 1) dL_law_1302 (by decide) ?_
          refine v_goto (tgt := 1307) dL_law_1303 (by decide) ?_
          refine v_lcmp_eq (tgt := 1313) dL_law_1307 dL_law_1308 (by decide) (fun c_1308 => ?_) (fun c_1308 => ?_)
          · refine v_goto (tgt := 1428) dL_law_1313 (by decide) ?_
            refine v_sub (L' := [(4, _), (3, _), (2, _), (1, _), (0, _)]) [2, 3, 4, 5, 6] rfl ?_
            refine v_widen (ce' := ce + 6) (sl' := sl + 100) (by show ce + 6 + 0 + 0 ≤ ce + 6; omega) (by show sl + 100 + 0 + 0 ≤ sl + 100; omega) ?_
            exact hend _ _ hi3
          · exact absurd (by rw [sb_cl0, hg0]; simp [*]) c_1308
    · exact absurd rfl c_1284
  · obtain ⟨j, e1, ⟨fsm1, hm1⟩, Q2, ct2, hQ2⟩ := hX _ _ _ hqx
    obtain rfl : j = 0 := by
      rcases sv_n2 e1 with ⟨e2, e3⟩ | ⟨e2, e3⟩
      · exact e3
      · exact absurd e2 (by decide)
    refine v_istore (L' := [(5, _), (4, _), (3, _), (2, _), (1, _), (0, _)]) dL_law_1258 (Nat.le_of_ble_eq_true rfl) rfl ?_
    refine v_aload_n dL_law_1260 rfl 3 rfl ?_
    refine v_aload_n dL_law_1261 rfl 5 rfl ?_
    refine v_iload dL_law_1262 1 rfl ?_
    refine v_iconst (v := 1) dL_law_1264 (by decide) ?_
    refine v_iadd dL_law_1265 ?_
    refine v_sld dL_law_1266 (sv_sin (a := q) (c := 1) (by omega) (by omega)) ?_
    refine v_aload_n dL_law_1267 rfl 5 rfl ?_
    refine v_iload dL_law_1268 1 rfl ?_
    refine v_iconst (v := 2) dL_law_1270 (by decide) ?_
    refine v_iadd dL_law_1271 ?_
    refine v_sld dL_law_1272 (sv_sin (a := q) (c := 2) (by omega) (by omega)) ?_
    refine v_callV (M' := mX13_same) (n := 2) (As := [_, _]) (ci := 11) (r := (RX13, TX13, 71)) gc_135 rfl (by decide +kernel) ⟨(Nat.le_of_ble_eq_true rfl), (Nat.le_of_ble_eq_true rfl)⟩ rfl rfl dL_law_1273 rfl ⟨by show ce + 6 + 0 ≤ 600002; omega, by show sl + 100 + 0 ≤ 7302198; omega⟩ (Nat.le_of_ble_eq_true rfl) hm1 rfl ct2 (fun v2 h3 z3 hq2 => ?_)
    obtain ⟨⟨w2, rfl⟩, ⟨fs3, k1, k2, k3⟩, hi3⟩ := hQ2 _ _ _ hq2
    refine v_istore (L' := [(6, _), (5, _), (4, _), (3, _), (2, _), (1, _), (0, _)]) dL_law_1276 (Nat.le_of_ble_eq_true rfl) rfl ?_
    refine v_aload_n dL_law_1278 rfl 4 rfl ?_
    refine v_callV (M' := mX13_thrown) (n := 0) (As := []) (ci := 11) (r := (RX13, TX13, 71)) gc_94 rfl (by decide +kernel) ⟨(Nat.le_of_ble_eq_true rfl), (Nat.le_of_ble_eq_true rfl)⟩ rfl rfl dL_law_1279 rfl ⟨by show ce + 6 + 0 + 0 ≤ 600002; omega, by show sl + 100 + 0 + 0 ≤ 7302198; omega⟩ (Nat.le_of_ble_eq_true rfl) k1 rfl (m_thrown G _ _ _ fs3 k2 k1 _ k3) (fun v4 h4 z4 hq4 => ?_)
    obtain ⟨rfl, rfl, rfl⟩ := hq4
    refine v_iload dL_law_1282 1 rfl ?_
    refine v_icmp_eq (tgt := 1289) dL_law_1284 (by decide) (fun c_1284 => ?_) (fun c_1284 => ?_)
    · refine v_iload dL_law_1289 1 rfl ?_
      refine v_if_ne (tgt := 1313) dL_law_1291 (by decide) (fun c_1291 => ?_) (fun c_1291 => ?_)
      · refine v_goto (tgt := 1428) dL_law_1313 (by decide) ?_
        refine v_sub (L' := [(4, _), (3, _), (2, _), (1, _), (0, _)]) [2, 3, 4, 5, 6] rfl ?_
        refine v_widen (ce' := ce + 6) (sl' := sl + 100) (by show ce + 6 + 0 + 0 ≤ ce + 6; omega) (by show sl + 100 + 0 + 0 ≤ sl + 100; omega) ?_
        exact hend _ _ hi3
      · exact absurd c_1291 (by decide)
    · exact absurd rfl c_1284
  · obtain ⟨j, e1, ⟨fsm1, hm1⟩, Q2, ct2, hQ2⟩ := hX _ _ _ hqx
    obtain rfl : j = 1 := by
      rcases sv_n2 e1 with ⟨e2, e3⟩ | ⟨e2, e3⟩
      · exact absurd e2 (by decide)
      · exact e3
    refine v_istore (L' := [(5, _), (4, _), (3, _), (2, _), (1, _), (0, _)]) dL_law_1258 (Nat.le_of_ble_eq_true rfl) rfl ?_
    refine v_aload_n dL_law_1260 rfl 3 rfl ?_
    refine v_aload_n dL_law_1261 rfl 5 rfl ?_
    refine v_iload dL_law_1262 1 rfl ?_
    refine v_iconst (v := 1) dL_law_1264 (by decide) ?_
    refine v_iadd dL_law_1265 ?_
    refine v_sld dL_law_1266 (sv_sin (a := q) (c := 1) (by omega) (by omega)) ?_
    refine v_aload_n dL_law_1267 rfl 5 rfl ?_
    refine v_iload dL_law_1268 1 rfl ?_
    refine v_iconst (v := 2) dL_law_1270 (by decide) ?_
    refine v_iadd dL_law_1271 ?_
    refine v_sld dL_law_1272 (sv_sin (a := q) (c := 2) (by omega) (by omega)) ?_
    refine v_callV (M' := mX13_same) (n := 2) (As := [_, _]) (ci := 11) (r := (RX13, TX13, 71)) gc_135 rfl (by decide +kernel) ⟨(Nat.le_of_ble_eq_true rfl), (Nat.le_of_ble_eq_true rfl)⟩ rfl rfl dL_law_1273 rfl ⟨by show ce + 6 + 0 ≤ 600002; omega, by show sl + 100 + 0 ≤ 7302198; omega⟩ (Nat.le_of_ble_eq_true rfl) hm1 rfl ct2 (fun v2 h3 z3 hq2 => ?_)
    obtain ⟨⟨w2, rfl⟩, ⟨fs3, k1, k2, k3⟩, hi3⟩ := hQ2 _ _ _ hq2
    refine v_istore (L' := [(6, _), (5, _), (4, _), (3, _), (2, _), (1, _), (0, _)]) dL_law_1276 (Nat.le_of_ble_eq_true rfl) rfl ?_
    refine v_aload_n dL_law_1278 rfl 4 rfl ?_
    refine v_callV (M' := mX13_thrown) (n := 0) (As := []) (ci := 11) (r := (RX13, TX13, 71)) gc_94 rfl (by decide +kernel) ⟨(Nat.le_of_ble_eq_true rfl), (Nat.le_of_ble_eq_true rfl)⟩ rfl rfl dL_law_1279 rfl ⟨by show ce + 6 + 0 + 0 ≤ 600002; omega, by show sl + 100 + 0 + 0 ≤ 7302198; omega⟩ (Nat.le_of_ble_eq_true rfl) k1 rfl (m_thrown G _ _ _ fs3 k2 k1 _ k3) (fun v4 h4 z4 hq4 => ?_)
    obtain ⟨rfl, rfl, rfl⟩ := hq4
    refine v_iload dL_law_1282 1 rfl ?_
    refine v_icmp_eq (tgt := 1289) dL_law_1284 (by decide) (fun c_1284 => ?_) (fun c_1284 => ?_)
    · refine v_iload dL_law_1289 1 rfl ?_
      refine v_if_ne (tgt := 1313) dL_law_1291 (by decide) (fun c_1291 => ?_) (fun c_1291 => ?_)
      · refine v_goto (tgt := 1428) dL_law_1313 (by decide) ?_
        refine v_sub (L' := [(4, _), (3, _), (2, _), (1, _), (0, _)]) [2, 3, 4, 5, 6] rfl ?_
        refine v_widen (ce' := ce + 6) (sl' := sl + 100) (by show ce + 6 + 0 + 0 ≤ ce + 6; omega) (by show sl + 100 + 0 + 0 ≤ sl + 100; omega) ?_
        exact hend _ _ hi3
      · exact absurd c_1291 (by decide)
    · exact absurd rfl c_1284

set_option maxHeartbeats 4000000 in
set_option maxRecDepth 100000 in
theorem law_count (G : sv_G) (P : sv_P) (b m o q : Nat) (I I1 : sv_h → Nat → Prop) (hL : G.2.2.2.2.2.1 ≤ 4609) (hq0 : q + 9 ≤ G.2.2.2.2.2.1) (hIn : sv_In G b m o I) (H : OpI G mX12_count mX13_count b m o ["java/lang/IndexOutOfBoundsException"] [.int (G.2.2.2.2.2.2 (nI q + 1).toNatClampNeg)] I I1) (h : sv_h) (z ce sl : Nat) (hce : ce + 6 ≤ 600002) (hsl : sl + 100 ≤ 7302198) (hend : ∀ (h : sv_h) (z : Nat), I1 h z → V G mL_law P 1428 [(4, .int (nI q)), (3, .ref o), (2, .ref m), (1, .ref b), (0, .ref (G.2.2.2.2.1 100))] [] h z (ce + 6) (sl + 100)) (hi : I h z) : V G mL_law P 1316 [(4, .int (nI q)), (3, .ref o), (2, .ref m), (1, .ref b), (0, .ref (G.2.2.2.2.1 100))] [] h z ce sl := by
  obtain ⟨⟨fsb, hb⟩, ⟨fsm, hm⟩, ⟨f0, ho⟩⟩ := hIn h z hi
  refine v_aload_n dL_law_1316 rfl 3 rfl ?_
  refine v_aload_n dL_law_1317 rfl 4 rfl ?_
  refine v_iload dL_law_1318 0 rfl ?_
  refine v_iconst (v := 1) dL_law_1320 (by decide) ?_
  refine v_iadd dL_law_1321 ?_
  refine v_sld dL_law_1322 (sv_sin (a := q) (c := 1) (by omega) (by omega)) ?_
  refine v_aload_n dL_law_1323 rfl 1 rfl ?_
  obtain ⟨Qr, Qx, ct, hR, hX⟩ := H h z hi
  refine v_callSW (M' := mL_count) (n := 3) (As := [_, _, _]) gc_136 rfl (by decide +kernel) ⟨(Nat.le_of_ble_eq_true rfl), (Nat.le_of_ble_eq_true rfl)⟩ dL_law_1324 rfl ⟨by show ce + 6 ≤ 600002; omega, by show sl + 100 ≤ 7302198; omega⟩ (Nat.le_of_ble_eq_true rfl) rfl (w_count G h z b o _ fsb f0 Qr Qx hb ho ct (fun v h1 z1 hq => by obtain ⟨w, e1, ⟨f, e2⟩, _⟩ := hR v h1 z1 hq; exact ⟨w, f, e1, e2⟩) (fun E h1 z1 hq => by obtain ⟨j, e1, _⟩ := hX E h1 z1 hq; exact (sv_n1 e1).1)) (fun v h1 z1 hq => ?_)
  rcases hq with ⟨rfl, w, h2, g, hqr, ho1, hg0, hfr⟩ | ⟨rfl, hqx⟩
  · obtain ⟨w9, e1, -, hmo, ⟨fsm1, hm1⟩, hK⟩ := hR _ _ _ hqr
    cases e1
    obtain ⟨Q2, ct2, hQ2⟩ := hK h1 g ho1 hg0 hfr
    refine v_istore (L' := [(5, _), (4, _), (3, _), (2, _), (1, _), (0, _)]) dL_law_1327 (Nat.le_of_ble_eq_true rfl) rfl ?_
    refine v_aload_n dL_law_1329 rfl 3 rfl ?_
    refine v_aload_n dL_law_1330 rfl 5 rfl ?_
    refine v_iload dL_law_1331 1 rfl ?_
    refine v_iconst (v := 1) dL_law_1333 (by decide) ?_
    refine v_iadd dL_law_1334 ?_
    refine v_sld dL_law_1335 (sv_sin (a := q) (c := 1) (by omega) (by omega)) ?_
    refine v_callV (M' := mX13_count) (n := 1) (As := [_]) (ci := 11) (r := (RX13, TX13, 71)) gc_138 rfl (by decide +kernel) ⟨(Nat.le_of_ble_eq_true rfl), (Nat.le_of_ble_eq_true rfl)⟩ rfl rfl dL_law_1336 rfl ⟨by show ce + 6 + 0 ≤ 600002; omega, by show sl + 100 + 0 ≤ 7302198; omega⟩ (Nat.le_of_ble_eq_true rfl) ((hfr _ hmo).trans hm1) rfl ct2 (fun v2 h3 z3 hq2 => ?_)
    obtain ⟨rfl, ⟨fs3, k1, k2, k3⟩, ho3, hi3⟩ := hQ2 _ _ _ hq2
    refine v_istore (L' := [(6, _), (5, _), (4, _), (3, _), (2, _), (1, _), (0, _)]) dL_law_1339 (Nat.le_of_ble_eq_true rfl) rfl ?_
    refine v_aload_n dL_law_1341 rfl 4 rfl ?_
    refine v_callV (M' := mX13_thrown) (n := 0) (As := []) (ci := 11) (r := (RX13, TX13, 71)) gc_94 rfl (by decide +kernel) ⟨(Nat.le_of_ble_eq_true rfl), (Nat.le_of_ble_eq_true rfl)⟩ rfl rfl dL_law_1342 rfl ⟨by show ce + 6 + 0 + 0 ≤ 600002; omega, by show sl + 100 + 0 + 0 ≤ 7302198; omega⟩ (Nat.le_of_ble_eq_true rfl) k1 rfl (m_thrown G _ _ _ fs3 k2 k1 _ k3) (fun v4 h4 z4 hq4 => ?_)
    obtain ⟨rfl, rfl, rfl⟩ := hq4
    refine v_iload dL_law_1345 1 rfl ?_
    refine v_icmp_eq (tgt := 1352) dL_law_1347 (by decide) (fun c_1347 => ?_) (fun c_1347 => ?_)
    · refine v_iload dL_law_1352 1 rfl ?_
      refine v_if_ne (tgt := 1369) dL_law_1354 (by decide) (fun c_1354 => ?_) (fun c_1354 => ?_)
      · exact absurd rfl c_1354
      · refine v_aload_n dL_law_1357 rfl 3 rfl ?_
        refine v_iconst (v := 0) dL_law_1358 (by decide) ?_
        refine v_lald dL_law_1359 ho3 (by rw [← nI_0]; exact vp_in_nI (by omega) (by omega)) ?_
        refine v_iload dL_law_1360 0 rfl ?_
        refine v_i2l dL_law_1362 rfl ?_
        refine v_lcmp_eq (tgt := 1369) dL_law_1363 dL_law_1364 (by decide) (fun c_1364 => ?_) (fun c_1364 => ?_)
        · refine v_goto (tgt := 1428) dL_law_1369 (by decide) ?_
          refine v_sub (L' := [(4, _), (3, _), (2, _), (1, _), (0, _)]) [2, 3, 4, 5, 6] rfl ?_
          refine v_widen (ce' := ce + 6) (sl' := sl + 100) (by show ce + 6 + 0 + 0 ≤ ce + 6; omega) (by show sl + 100 + 0 + 0 ≤ sl + 100; omega) ?_
          exact hend _ _ hi3
        · exact absurd (by rw [sb_cl0, hg0]) c_1364
    · exact absurd rfl c_1347
  · obtain ⟨j, e1, ⟨fsm1, hm1⟩, Q2, ct2, hQ2⟩ := hX _ _ _ hqx
    obtain ⟨-, rfl⟩ := sv_n1 e1
    refine v_istore (L' := [(5, _), (4, _), (3, _), (2, _), (1, _), (0, _)]) dL_law_1327 (Nat.le_of_ble_eq_true rfl) rfl ?_
    refine v_aload_n dL_law_1329 rfl 3 rfl ?_
    refine v_aload_n dL_law_1330 rfl 5 rfl ?_
    refine v_iload dL_law_1331 1 rfl ?_
    refine v_iconst (v := 1) dL_law_1333 (by decide) ?_
    refine v_iadd dL_law_1334 ?_
    refine v_sld dL_law_1335 (sv_sin (a := q) (c := 1) (by omega) (by omega)) ?_
    refine v_callV (M' := mX13_count) (n := 1) (As := [_]) (ci := 11) (r := (RX13, TX13, 71)) gc_138 rfl (by decide +kernel) ⟨(Nat.le_of_ble_eq_true rfl), (Nat.le_of_ble_eq_true rfl)⟩ rfl rfl dL_law_1336 rfl ⟨by show ce + 6 + 0 ≤ 600002; omega, by show sl + 100 + 0 ≤ 7302198; omega⟩ (Nat.le_of_ble_eq_true rfl) hm1 rfl ct2 (fun v2 h3 z3 hq2 => ?_)
    obtain ⟨⟨w2, rfl⟩, ⟨fs3, k1, k2, k3⟩, hi3⟩ := hQ2 _ _ _ hq2
    refine v_istore (L' := [(6, _), (5, _), (4, _), (3, _), (2, _), (1, _), (0, _)]) dL_law_1339 (Nat.le_of_ble_eq_true rfl) rfl ?_
    refine v_aload_n dL_law_1341 rfl 4 rfl ?_
    refine v_callV (M' := mX13_thrown) (n := 0) (As := []) (ci := 11) (r := (RX13, TX13, 71)) gc_94 rfl (by decide +kernel) ⟨(Nat.le_of_ble_eq_true rfl), (Nat.le_of_ble_eq_true rfl)⟩ rfl rfl dL_law_1342 rfl ⟨by show ce + 6 + 0 + 0 ≤ 600002; omega, by show sl + 100 + 0 + 0 ≤ 7302198; omega⟩ (Nat.le_of_ble_eq_true rfl) k1 rfl (m_thrown G _ _ _ fs3 k2 k1 _ k3) (fun v4 h4 z4 hq4 => ?_)
    obtain ⟨rfl, rfl, rfl⟩ := hq4
    refine v_iload dL_law_1345 1 rfl ?_
    refine v_icmp_eq (tgt := 1352) dL_law_1347 (by decide) (fun c_1347 => ?_) (fun c_1347 => ?_)
    · refine v_iload dL_law_1352 1 rfl ?_
      refine v_if_ne (tgt := 1369) dL_law_1354 (by decide) (fun c_1354 => ?_) (fun c_1354 => ?_)
      · refine v_goto (tgt := 1428) dL_law_1369 (by decide) ?_
        refine v_sub (L' := [(4, _), (3, _), (2, _), (1, _), (0, _)]) [2, 3, 4, 5, 6] rfl ?_
        refine v_widen (ce' := ce + 6) (sl' := sl + 100) (by show ce + 6 + 0 + 0 ≤ ce + 6; omega) (by show sl + 100 + 0 + 0 ≤ sl + 100; omega) ?_
        exact hend _ _ hi3
      · exact absurd c_1354 (by decide)
    · exact absurd rfl c_1347

set_option maxHeartbeats 4000000 in
set_option maxRecDepth 100000 in
theorem law_occurrences (G : sv_G) (P : sv_P) (b m o q : Nat) (I I1 : sv_h → Nat → Prop) (hL : G.2.2.2.2.2.1 ≤ 4609) (hq0 : q + 9 ≤ G.2.2.2.2.2.1) (hIn : sv_In G b m o I) (H : OpI G mX12_occurrences mX13_occurrences b m o ["java/lang/IndexOutOfBoundsException", "java/lang/UnsupportedOperationException"] [.int (G.2.2.2.2.2.2 (nI q + 1).toNatClampNeg)] I I1) (h : sv_h) (z ce sl : Nat) (hce : ce + 6 ≤ 600002) (hsl : sl + 100 ≤ 7302198) (hend : ∀ (h : sv_h) (z : Nat), I1 h z → V G mL_law P 1428 [(4, .int (nI q)), (3, .ref o), (2, .ref m), (1, .ref b), (0, .ref (G.2.2.2.2.1 100))] [] h z (ce + 6) (sl + 100)) (hi : I h z) : V G mL_law P 1372 [(4, .int (nI q)), (3, .ref o), (2, .ref m), (1, .ref b), (0, .ref (G.2.2.2.2.1 100))] [] h z ce sl := by
  obtain ⟨⟨fsb, hb⟩, ⟨fsm, hm⟩, ⟨f0, ho⟩⟩ := hIn h z hi
  refine v_aload_n dL_law_1372 rfl 3 rfl ?_
  refine v_aload_n dL_law_1373 rfl 4 rfl ?_
  refine v_iload dL_law_1374 0 rfl ?_
  refine v_iconst (v := 1) dL_law_1376 (by decide) ?_
  refine v_iadd dL_law_1377 ?_
  refine v_sld dL_law_1378 (sv_sin (a := q) (c := 1) (by omega) (by omega)) ?_
  refine v_aload_n dL_law_1379 rfl 1 rfl ?_
  obtain ⟨Qr, Qx, ct, hR, hX⟩ := H h z hi
  refine v_callSW (M' := mL_occurrences) (n := 3) (As := [_, _, _]) gc_139 rfl (by decide +kernel) ⟨(Nat.le_of_ble_eq_true rfl), (Nat.le_of_ble_eq_true rfl)⟩ dL_law_1380 rfl ⟨by show ce + 6 ≤ 600002; omega, by show sl + 100 ≤ 7302198; omega⟩ (Nat.le_of_ble_eq_true rfl) rfl (w_occurrences G h z b o _ fsb f0 Qr Qx hb ho ct (fun v h1 z1 hq => by obtain ⟨w, e1, ⟨f, e2⟩, _⟩ := hR v h1 z1 hq; exact ⟨w, f, e1, e2⟩) (fun E h1 z1 hq => by obtain ⟨j, e1, _⟩ := hX E h1 z1 hq; exact ((sv_n2 e1).elim (fun q => Or.inl q.1) (fun q => Or.inr q.1)))) (fun v h1 z1 hq => ?_)
  rcases hq with ⟨rfl, w, h2, g, hqr, ho1, hg0, hfr⟩ | ⟨rfl, hqx⟩ | ⟨rfl, hqx⟩
  · obtain ⟨w9, e1, -, hmo, ⟨fsm1, hm1⟩, hK⟩ := hR _ _ _ hqr
    cases e1
    obtain ⟨Q2, ct2, hQ2⟩ := hK h1 g ho1 hg0 hfr
    refine v_istore (L' := [(5, _), (4, _), (3, _), (2, _), (1, _), (0, _)]) dL_law_1383 (Nat.le_of_ble_eq_true rfl) rfl ?_
    refine v_aload_n dL_law_1385 rfl 3 rfl ?_
    refine v_aload_n dL_law_1386 rfl 5 rfl ?_
    refine v_iload dL_law_1387 1 rfl ?_
    refine v_iconst (v := 1) dL_law_1389 (by decide) ?_
    refine v_iadd dL_law_1390 ?_
    refine v_sld dL_law_1391 (sv_sin (a := q) (c := 1) (by omega) (by omega)) ?_
    refine v_callV (M' := mX13_occurrences) (n := 1) (As := [_]) (ci := 11) (r := (RX13, TX13, 71)) gc_141 rfl (by decide +kernel) ⟨(Nat.le_of_ble_eq_true rfl), (Nat.le_of_ble_eq_true rfl)⟩ rfl rfl dL_law_1392 rfl ⟨by show ce + 6 + 0 ≤ 600002; omega, by show sl + 100 + 0 ≤ 7302198; omega⟩ (Nat.le_of_ble_eq_true rfl) ((hfr _ hmo).trans hm1) rfl ct2 (fun v2 h3 z3 hq2 => ?_)
    obtain ⟨rfl, ⟨fs3, k1, k2, k3⟩, ho3, hi3⟩ := hQ2 _ _ _ hq2
    refine v_istore (L' := [(6, _), (5, _), (4, _), (3, _), (2, _), (1, _), (0, _)]) dL_law_1395 (Nat.le_of_ble_eq_true rfl) rfl ?_
    refine v_aload_n dL_law_1397 rfl 4 rfl ?_
    refine v_callV (M' := mX13_thrown) (n := 0) (As := []) (ci := 11) (r := (RX13, TX13, 71)) gc_94 rfl (by decide +kernel) ⟨(Nat.le_of_ble_eq_true rfl), (Nat.le_of_ble_eq_true rfl)⟩ rfl rfl dL_law_1398 rfl ⟨by show ce + 6 + 0 + 0 ≤ 600002; omega, by show sl + 100 + 0 + 0 ≤ 7302198; omega⟩ (Nat.le_of_ble_eq_true rfl) k1 rfl (m_thrown G _ _ _ fs3 k2 k1 _ k3) (fun v4 h4 z4 hq4 => ?_)
    obtain ⟨rfl, rfl, rfl⟩ := hq4
    refine v_iload dL_law_1401 1 rfl ?_
    refine v_icmp_eq (tgt := 1408) dL_law_1403 (by decide) (fun c_1403 => ?_) (fun c_1403 => ?_)
    · refine v_iload dL_law_1408 1 rfl ?_
      refine v_if_ne (tgt := 1425) dL_law_1410 (by decide) (fun c_1410 => ?_) (fun c_1410 => ?_)
      · exact absurd rfl c_1410
      · refine v_aload_n dL_law_1413 rfl 3 rfl ?_
        refine v_iconst (v := 0) dL_law_1414 (by decide) ?_
        refine v_lald dL_law_1415 ho3 (by rw [← nI_0]; exact vp_in_nI (by omega) (by omega)) ?_
        refine v_iload dL_law_1416 0 rfl ?_
        refine v_i2l dL_law_1418 rfl ?_
        refine v_lcmp_eq (tgt := 1425) dL_law_1419 dL_law_1420 (by decide) (fun c_1420 => ?_) (fun c_1420 => ?_)
        · refine v_goto (tgt := 1428) dL_law_1425 (by decide) ?_
          refine v_sub (L' := [(4, _), (3, _), (2, _), (1, _), (0, _)]) [2, 3, 4, 5, 6] rfl ?_
          refine v_widen (ce' := ce + 6) (sl' := sl + 100) (by show ce + 6 + 0 + 0 ≤ ce + 6; omega) (by show sl + 100 + 0 + 0 ≤ sl + 100; omega) ?_
          exact hend _ _ hi3
        · exact absurd (by rw [sb_cl0, hg0]) c_1420
    · exact absurd rfl c_1403
  · obtain ⟨j, e1, ⟨fsm1, hm1⟩, Q2, ct2, hQ2⟩ := hX _ _ _ hqx
    obtain rfl : j = 0 := by
      rcases sv_n2 e1 with ⟨e2, e3⟩ | ⟨e2, e3⟩
      · exact e3
      · exact absurd e2 (by decide)
    refine v_istore (L' := [(5, _), (4, _), (3, _), (2, _), (1, _), (0, _)]) dL_law_1383 (Nat.le_of_ble_eq_true rfl) rfl ?_
    refine v_aload_n dL_law_1385 rfl 3 rfl ?_
    refine v_aload_n dL_law_1386 rfl 5 rfl ?_
    refine v_iload dL_law_1387 1 rfl ?_
    refine v_iconst (v := 1) dL_law_1389 (by decide) ?_
    refine v_iadd dL_law_1390 ?_
    refine v_sld dL_law_1391 (sv_sin (a := q) (c := 1) (by omega) (by omega)) ?_
    refine v_callV (M' := mX13_occurrences) (n := 1) (As := [_]) (ci := 11) (r := (RX13, TX13, 71)) gc_141 rfl (by decide +kernel) ⟨(Nat.le_of_ble_eq_true rfl), (Nat.le_of_ble_eq_true rfl)⟩ rfl rfl dL_law_1392 rfl ⟨by show ce + 6 + 0 ≤ 600002; omega, by show sl + 100 + 0 ≤ 7302198; omega⟩ (Nat.le_of_ble_eq_true rfl) hm1 rfl ct2 (fun v2 h3 z3 hq2 => ?_)
    obtain ⟨⟨w2, rfl⟩, ⟨fs3, k1, k2, k3⟩, hi3⟩ := hQ2 _ _ _ hq2
    refine v_istore (L' := [(6, _), (5, _), (4, _), (3, _), (2, _), (1, _), (0, _)]) dL_law_1395 (Nat.le_of_ble_eq_true rfl) rfl ?_
    refine v_aload_n dL_law_1397 rfl 4 rfl ?_
    refine v_callV (M' := mX13_thrown) (n := 0) (As := []) (ci := 11) (r := (RX13, TX13, 71)) gc_94 rfl (by decide +kernel) ⟨(Nat.le_of_ble_eq_true rfl), (Nat.le_of_ble_eq_true rfl)⟩ rfl rfl dL_law_1398 rfl ⟨by show ce + 6 + 0 + 0 ≤ 600002; omega, by show sl + 100 + 0 + 0 ≤ 7302198; omega⟩ (Nat.le_of_ble_eq_true rfl) k1 rfl (m_thrown G _ _ _ fs3 k2 k1 _ k3) (fun v4 h4 z4 hq4 => ?_)
    obtain ⟨rfl, rfl, rfl⟩ := hq4
    refine v_iload dL_law_1401 1 rfl ?_
    refine v_icmp_eq (tgt := 1408) dL_law_1403 (by decide) (fun c_1403 => ?_) (fun c_1403 => ?_)
    · refine v_iload dL_law_1408 1 rfl ?_
      refine v_if_ne (tgt := 1425) dL_law_1410 (by decide) (fun c_1410 => ?_) (fun c_1410 => ?_)
      · refine v_goto (tgt := 1428) dL_law_1425 (by decide) ?_
        refine v_sub (L' := [(4, _), (3, _), (2, _), (1, _), (0, _)]) [2, 3, 4, 5, 6] rfl ?_
        refine v_widen (ce' := ce + 6) (sl' := sl + 100) (by show ce + 6 + 0 + 0 ≤ ce + 6; omega) (by show sl + 100 + 0 + 0 ≤ sl + 100; omega) ?_
        exact hend _ _ hi3
      · exact absurd c_1410 (by decide)
    · exact absurd rfl c_1403
  · obtain ⟨j, e1, ⟨fsm1, hm1⟩, Q2, ct2, hQ2⟩ := hX _ _ _ hqx
    obtain rfl : j = 1 := by
      rcases sv_n2 e1 with ⟨e2, e3⟩ | ⟨e2, e3⟩
      · exact absurd e2 (by decide)
      · exact e3
    refine v_istore (L' := [(5, _), (4, _), (3, _), (2, _), (1, _), (0, _)]) dL_law_1383 (Nat.le_of_ble_eq_true rfl) rfl ?_
    refine v_aload_n dL_law_1385 rfl 3 rfl ?_
    refine v_aload_n dL_law_1386 rfl 5 rfl ?_
    refine v_iload dL_law_1387 1 rfl ?_
    refine v_iconst (v := 1) dL_law_1389 (by decide) ?_
    refine v_iadd dL_law_1390 ?_
    refine v_sld dL_law_1391 (sv_sin (a := q) (c := 1) (by omega) (by omega)) ?_
    refine v_callV (M' := mX13_occurrences) (n := 1) (As := [_]) (ci := 11) (r := (RX13, TX13, 71)) gc_141 rfl (by decide +kernel) ⟨(Nat.le_of_ble_eq_true rfl), (Nat.le_of_ble_eq_true rfl)⟩ rfl rfl dL_law_1392 rfl ⟨by show ce + 6 + 0 ≤ 600002; omega, by show sl + 100 + 0 ≤ 7302198; omega⟩ (Nat.le_of_ble_eq_true rfl) hm1 rfl ct2 (fun v2 h3 z3 hq2 => ?_)
    obtain ⟨⟨w2, rfl⟩, ⟨fs3, k1, k2, k3⟩, hi3⟩ := hQ2 _ _ _ hq2
    refine v_istore (L' := [(6, _), (5, _), (4, _), (3, _), (2, _), (1, _), (0, _)]) dL_law_1395 (Nat.le_of_ble_eq_true rfl) rfl ?_
    refine v_aload_n dL_law_1397 rfl 4 rfl ?_
    refine v_callV (M' := mX13_thrown) (n := 0) (As := []) (ci := 11) (r := (RX13, TX13, 71)) gc_94 rfl (by decide +kernel) ⟨(Nat.le_of_ble_eq_true rfl), (Nat.le_of_ble_eq_true rfl)⟩ rfl rfl dL_law_1398 rfl ⟨by show ce + 6 + 0 + 0 ≤ 600002; omega, by show sl + 100 + 0 + 0 ≤ 7302198; omega⟩ (Nat.le_of_ble_eq_true rfl) k1 rfl (m_thrown G _ _ _ fs3 k2 k1 _ k3) (fun v4 h4 z4 hq4 => ?_)
    obtain ⟨rfl, rfl, rfl⟩ := hq4
    refine v_iload dL_law_1401 1 rfl ?_
    refine v_icmp_eq (tgt := 1408) dL_law_1403 (by decide) (fun c_1403 => ?_) (fun c_1403 => ?_)
    · refine v_iload dL_law_1408 1 rfl ?_
      refine v_if_ne (tgt := 1425) dL_law_1410 (by decide) (fun c_1410 => ?_) (fun c_1410 => ?_)
      · refine v_goto (tgt := 1428) dL_law_1425 (by decide) ?_
        refine v_sub (L' := [(4, _), (3, _), (2, _), (1, _), (0, _)]) [2, 3, 4, 5, 6] rfl ?_
        refine v_widen (ce' := ce + 6) (sl' := sl + 100) (by show ce + 6 + 0 + 0 ≤ ce + 6; omega) (by show sl + 100 + 0 + 0 ≤ sl + 100; omega) ?_
        exact hend _ _ hi3
      · exact absurd c_1410 (by decide)
    · exact absurd rfl c_1403

