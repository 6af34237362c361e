theorem iwX8_listSides_X5 : ∀ w ∈ wsX50, w ∈ wsX8_listSides := by decide +kernel
theorem iwX8_listSides_X8 : ∀ w ∈ wsX80, w ∈ wsX8_listSides := by decide +kernel
set_option maxRecDepth 20000 in
theorem ggX8_listSides_X8_polygonOf : GoodIn wsX8_listSides wsX8_polygonOf := goodIn_r _ [21, 22, 23, 24, 38, 39, 40, 41, 42, 43, 44, 45, 46, 47, 48, 49, 50, 51, 62, 63, 64, 65, 66, 67, 68, 69, 70, 71] (by decide +kernel) (by decide +kernel)
set_option maxRecDepth 20000 in
theorem gX8_listSides_X8_polygonOf : GoodIn wsX8_listSides (wsV RX8 143 RX8 yX8_polygonOf wsX8_polygonOf) := goodIn_app (goodIn_of _ (by decide +kernel)) ggX8_listSides_X8_polygonOf
set_option maxRecDepth 20000 in
theorem ggX8_listSides_X4_faceOf : GoodIn wsX8_listSides wsX4_faceOf := goodIn_r _ [29, 30, 31, 72, 73, 74, 75] (by decide +kernel) (by decide +kernel)
set_option maxRecDepth 20000 in
theorem gX8_listSides_X4_faceOf : GoodIn wsX8_listSides (wsV RX8 172 RX4 yX4_faceOf wsX4_faceOf) := goodIn_app (goodIn_of _ (by decide +kernel)) ggX8_listSides_X4_faceOf
set_option maxRecDepth 20000 in
theorem ggX8_listSides_X5_after : GoodIn wsX8_listSides wsX5_after := goodIn_r _ [36, 37, 52, 53, 54, 55, 56, 57, 58, 59, 60, 61] (by decide +kernel) (by decide +kernel)
set_option maxRecDepth 20000 in
theorem gX8_listSides_X5_after : GoodIn wsX8_listSides (wsV RX8 176 RX5 yX5_after wsX5_after) := goodIn_app (goodIn_of _ (by decide +kernel)) ggX8_listSides_X5_after
theorem dX8_listSides_0 : decode cX8_listSides 0 = .ok (.aload_n 0, 1) := by decide +kernel
theorem dX8_listSides_1 : decode cX8_listSides 1 = .ok (.iload_n 1, 1) := by decide +kernel
theorem dX8_listSides_2 : decode cX8_listSides 2 = .ok (.invokevirtual 143, 3) := by decide +kernel
theorem dX8_listSides_5 : decode cX8_listSides 5 = .ok (.astore_n 2, 1) := by decide +kernel
theorem dX8_listSides_6 : decode cX8_listSides 6 = .ok (.aload_n 0, 1) := by decide +kernel
theorem dX8_listSides_7 : decode cX8_listSides 7 = .ok (.getfield 39, 3) := by decide +kernel
theorem dX8_listSides_10 : decode cX8_listSides 10 = .ok (.iload_n 1, 1) := by decide +kernel
theorem dX8_listSides_11 : decode cX8_listSides 11 = .ok (.iconst 4, 1) := by decide +kernel
theorem dX8_listSides_12 : decode cX8_listSides 12 = .ok (.imul, 1) := by decide +kernel
theorem dX8_listSides_13 : decode cX8_listSides 13 = .ok (.iaload, 1) := by decide +kernel
theorem dX8_listSides_14 : decode cX8_listSides 14 = .ok (.istore_n 3, 1) := by decide +kernel
theorem dX8_listSides_15 : decode cX8_listSides 15 = .ok (.iconst 0, 1) := by decide +kernel
theorem dX8_listSides_16 : decode cX8_listSides 16 = .ok (.istore 4, 2) := by decide +kernel
theorem dX8_listSides_18 : decode cX8_listSides 18 = .ok (.iload 4, 2) := by decide +kernel
theorem dX8_listSides_20 : decode cX8_listSides 20 = .ok (.iconst 4, 1) := by decide +kernel
theorem dX8_listSides_21 : decode cX8_listSides 21 = .ok (.if_icmp .ge 170, 3) := by decide +kernel
theorem dX8_listSides_24 : decode cX8_listSides 24 = .ok (.iload 4, 2) := by decide +kernel
theorem dX8_listSides_26 : decode cX8_listSides 26 = .ok (.ifCond .eq 9, 3) := by decide +kernel
theorem dX8_listSides_29 : decode cX8_listSides 29 = .ok (.iload 4, 2) := by decide +kernel
theorem dX8_listSides_31 : decode cX8_listSides 31 = .ok (.iconst 2, 1) := by decide +kernel
theorem dX8_listSides_32 : decode cX8_listSides 32 = .ok (.if_icmp .ne 10, 3) := by decide +kernel
theorem dX8_listSides_35 : decode cX8_listSides 35 = .ok (.aload_n 0, 1) := by decide +kernel
theorem dX8_listSides_36 : decode cX8_listSides 36 = .ok (.getfield 33, 3) := by decide +kernel
theorem dX8_listSides_39 : decode cX8_listSides 39 = .ok (.goto 7, 3) := by decide +kernel
theorem dX8_listSides_42 : decode cX8_listSides 42 = .ok (.aload_n 0, 1) := by decide +kernel
theorem dX8_listSides_43 : decode cX8_listSides 43 = .ok (.getfield 36, 3) := by decide +kernel
theorem dX8_listSides_46 : decode cX8_listSides 46 = .ok (.astore 5, 2) := by decide +kernel
theorem dX8_listSides_48 : decode cX8_listSides 48 = .ok (.iload 4, 2) := by decide +kernel
theorem dX8_listSides_50 : decode cX8_listSides 50 = .ok (.ifCond .eq 9, 3) := by decide +kernel
theorem dX8_listSides_53 : decode cX8_listSides 53 = .ok (.iload 4, 2) := by decide +kernel
theorem dX8_listSides_55 : decode cX8_listSides 55 = .ok (.iconst 2, 1) := by decide +kernel
theorem dX8_listSides_56 : decode cX8_listSides 56 = .ok (.if_icmp .ne 10, 3) := by decide +kernel
theorem dX8_listSides_59 : decode cX8_listSides 59 = .ok (.aload_n 0, 1) := by decide +kernel
theorem dX8_listSides_60 : decode cX8_listSides 60 = .ok (.getfield 36, 3) := by decide +kernel
theorem dX8_listSides_63 : decode cX8_listSides 63 = .ok (.goto 7, 3) := by decide +kernel
theorem dX8_listSides_66 : decode cX8_listSides 66 = .ok (.aload_n 0, 1) := by decide +kernel
theorem dX8_listSides_67 : decode cX8_listSides 67 = .ok (.getfield 33, 3) := by decide +kernel
theorem dX8_listSides_70 : decode cX8_listSides 70 = .ok (.astore 6, 2) := by decide +kernel
theorem dX8_listSides_72 : decode cX8_listSides 72 = .ok (.iconst 0, 1) := by decide +kernel
theorem dX8_listSides_73 : decode cX8_listSides 73 = .ok (.istore 7, 2) := by decide +kernel
theorem dX8_listSides_75 : decode cX8_listSides 75 = .ok (.iload 7, 2) := by decide +kernel
theorem dX8_listSides_77 : decode cX8_listSides 77 = .ok (.aload_n 2, 1) := by decide +kernel
theorem dX8_listSides_78 : decode cX8_listSides 78 = .ok (.getfield 147, 3) := by decide +kernel
theorem dX8_listSides_81 : decode cX8_listSides 81 = .ok (.if_icmp .ge 90, 3) := by decide +kernel
theorem dX8_listSides_84 : decode cX8_listSides 84 = .ok (.aload_n 0, 1) := by decide +kernel
theorem dX8_listSides_85 : decode cX8_listSides 85 = .ok (.getfield 24, 3) := by decide +kernel
theorem dX8_listSides_88 : decode cX8_listSides 88 = .ok (.iload_n 1, 1) := by decide +kernel
theorem dX8_listSides_89 : decode cX8_listSides 89 = .ok (.aaload, 1) := by decide +kernel
theorem dX8_listSides_90 : decode cX8_listSides 90 = .ok (.aload_n 2, 1) := by decide +kernel
theorem dX8_listSides_91 : decode cX8_listSides 91 = .ok (.getfield 169, 3) := by decide +kernel
theorem dX8_listSides_94 : decode cX8_listSides 94 = .ok (.iload 7, 2) := by decide +kernel
theorem dX8_listSides_96 : decode cX8_listSides 96 = .ok (.iaload, 1) := by decide +kernel
theorem dX8_listSides_97 : decode cX8_listSides 97 = .ok (.invokevirtual 172, 3) := by decide +kernel
theorem dX8_listSides_100 : decode cX8_listSides 100 = .ok (.iload 4, 2) := by decide +kernel
theorem dX8_listSides_102 : decode cX8_listSides 102 = .ok (.if_icmp .ne 63, 3) := by decide +kernel
theorem dX8_listSides_105 : decode cX8_listSides 105 = .ok (.aload_n 2, 1) := by decide +kernel
theorem dX8_listSides_106 : decode cX8_listSides 106 = .ok (.iload 7, 2) := by decide +kernel
theorem dX8_listSides_108 : decode cX8_listSides 108 = .ok (.invokevirtual 176, 3) := by decide +kernel
theorem dX8_listSides_111 : decode cX8_listSides 111 = .ok (.istore 8, 2) := by decide +kernel
theorem dX8_listSides_113 : decode cX8_listSides 113 = .ok (.aload_n 0, 1) := by decide +kernel
theorem dX8_listSides_114 : decode cX8_listSides 114 = .ok (.getfield 42, 3) := by decide +kernel
theorem dX8_listSides_117 : decode cX8_listSides 117 = .ok (.iload_n 3, 1) := by decide +kernel
theorem dX8_listSides_118 : decode cX8_listSides 118 = .ok (.aload 5, 2) := by decide +kernel
theorem dX8_listSides_120 : decode cX8_listSides 120 = .ok (.iload 7, 2) := by decide +kernel
theorem dX8_listSides_122 : decode cX8_listSides 122 = .ok (.iaload, 1) := by decide +kernel
theorem dX8_listSides_123 : decode cX8_listSides 123 = .ok (.iastore, 1) := by decide +kernel
theorem dX8_listSides_124 : decode cX8_listSides 124 = .ok (.aload_n 0, 1) := by decide +kernel
theorem dX8_listSides_125 : decode cX8_listSides 125 = .ok (.getfield 45, 3) := by decide +kernel
theorem dX8_listSides_128 : decode cX8_listSides 128 = .ok (.iload_n 3, 1) := by decide +kernel
theorem dX8_listSides_129 : decode cX8_listSides 129 = .ok (.aload 6, 2) := by decide +kernel
theorem dX8_listSides_131 : decode cX8_listSides 131 = .ok (.iload 7, 2) := by decide +kernel
theorem dX8_listSides_133 : decode cX8_listSides 133 = .ok (.iaload, 1) := by decide +kernel
theorem dX8_listSides_134 : decode cX8_listSides 134 = .ok (.aload 6, 2) := by decide +kernel
theorem dX8_listSides_136 : decode cX8_listSides 136 = .ok (.iload 8, 2) := by decide +kernel
theorem dX8_listSides_138 : decode cX8_listSides 138 = .ok (.iaload, 1) := by decide +kernel
theorem dX8_listSides_139 : decode cX8_listSides 139 = .ok (.invokestatic 161, 3) := by decide +kernel
theorem dX8_listSides_142 : decode cX8_listSides 142 = .ok (.iastore, 1) := by decide +kernel
theorem dX8_listSides_143 : decode cX8_listSides 143 = .ok (.aload_n 0, 1) := by decide +kernel
theorem dX8_listSides_144 : decode cX8_listSides 144 = .ok (.getfield 48, 3) := by decide +kernel
theorem dX8_listSides_147 : decode cX8_listSides 147 = .ok (.iload_n 3, 1) := by decide +kernel
theorem dX8_listSides_148 : decode cX8_listSides 148 = .ok (.aload 6, 2) := by decide +kernel
theorem dX8_listSides_150 : decode cX8_listSides 150 = .ok (.iload 7, 2) := by decide +kernel
theorem dX8_listSides_152 : decode cX8_listSides 152 = .ok (.iaload, 1) := by decide +kernel
theorem dX8_listSides_153 : decode cX8_listSides 153 = .ok (.aload 6, 2) := by decide +kernel
theorem dX8_listSides_155 : decode cX8_listSides 155 = .ok (.iload 8, 2) := by decide +kernel
theorem dX8_listSides_157 : decode cX8_listSides 157 = .ok (.iaload, 1) := by decide +kernel
theorem dX8_listSides_158 : decode cX8_listSides 158 = .ok (.invokestatic 166, 3) := by decide +kernel
theorem dX8_listSides_161 : decode cX8_listSides 161 = .ok (.iastore, 1) := by decide +kernel
theorem dX8_listSides_162 : decode cX8_listSides 162 = .ok (.iinc 3 1, 3) := by decide +kernel
theorem dX8_listSides_165 : decode cX8_listSides 165 = .ok (.iinc 7 1, 3) := by decide +kernel
theorem dX8_listSides_168 : decode cX8_listSides 168 = .ok (.goto (-93), 3) := by decide +kernel
theorem dX8_listSides_171 : decode cX8_listSides 171 = .ok (.aload_n 0, 1) := by decide +kernel
theorem dX8_listSides_172 : decode cX8_listSides 172 = .ok (.getfield 39, 3) := by decide +kernel
theorem dX8_listSides_175 : decode cX8_listSides 175 = .ok (.iload_n 1, 1) := by decide +kernel
theorem dX8_listSides_176 : decode cX8_listSides 176 = .ok (.iconst 4, 1) := by decide +kernel
theorem dX8_listSides_177 : decode cX8_listSides 177 = .ok (.imul, 1) := by decide +kernel
theorem dX8_listSides_178 : decode cX8_listSides 178 = .ok (.iload 4, 2) := by decide +kernel
theorem dX8_listSides_180 : decode cX8_listSides 180 = .ok (.iadd, 1) := by decide +kernel
theorem dX8_listSides_181 : decode cX8_listSides 181 = .ok (.iconst 1, 1) := by decide +kernel
theorem dX8_listSides_182 : decode cX8_listSides 182 = .ok (.iadd, 1) := by decide +kernel
theorem dX8_listSides_183 : decode cX8_listSides 183 = .ok (.iload_n 3, 1) := by decide +kernel
theorem dX8_listSides_184 : decode cX8_listSides 184 = .ok (.iastore, 1) := by decide +kernel
theorem dX8_listSides_185 : decode cX8_listSides 185 = .ok (.iinc 4 1, 3) := by decide +kernel
theorem dX8_listSides_188 : decode cX8_listSides 188 = .ok (.goto (-170), 3) := by decide +kernel
theorem dX8_listSides_191 : decode cX8_listSides 191 = .ok (.return_, 1) := by decide +kernel

abbrev mX8_listSides : sv_M := (cX8_listSides, 9, yX8_listSides, wsX8_listSides, none, { frames := 2, cells := 0, slots := 0, locals := 60 }, [])
/-- items: the first m that P takes -/
def slP (P : Nat → Bool) (it : Nat → Int × Int × Int) (m : Nat) : List (Int × Int × Int) := ((List.range m).filter P).map it
theorem slP_p {P : Nat → Bool} {it : Nat → Int × Int × Int} {m : Nat} (h : P m = true) : slP P it (m + 1) = slP P it m ++ [it m] := by
  unfold slP
  rw [List.range_succ, List.filter_append, List.filter_cons_of_pos h, List.map_append]; rfl
theorem slP_n {P : Nat → Bool} {it : Nat → Int × Int × Int} {m : Nat} (h : ¬ P m = true) : slP P it (m + 1) = slP P it m := by
  unfold slP
  rw [List.range_succ, List.filter_append, List.filter_cons_of_neg h, List.map_append]
  exact List.append_nil _
theorem slP_le {P : Nat → Bool} {it : Nat → Int × Int × Int} {i j : Nat} (h : i ≤ j) : (slP P it i).length ≤ (slP P it j).length := by
  obtain ⟨k, rfl⟩ := Nat.exists_eq_add_of_le h
  induction k with
  | zero => exact Nat.le_refl _
  | succ k ih =>
    have := ih (Nat.le_add_right i k)
    rw [show i + (k + 1) = (i + k) + 1 by omega]
    by_cases e : P (i + k) = true
    · rw [slP_p e, List.length_append]; omega
    · rw [slP_n e]; exact this
/-- the items l stand from I on -/
def it_ (w3 : Bool) (fa fr ft : Nat → Int32) (I : Nat) (l : List (Int × Int × Int)) : Prop := ∀ x, x < l.length → fa (I + x) = iN (l.getD x (0, 0, 0)).1 ∧ fr (I + x) = iN (l.getD x (0, 0, 0)).2.1 ∧ (w3 = true → ft (I + x) = iN (l.getD x (0, 0, 0)).2.2)
theorem it_.add {w3 : Bool} {fa fr ft : Nat → Int32} {I : Nat} {l : List (Int × Int × Int)} (H : it_ w3 fa fr ft I l) (q : Int × Int × Int) : it_ w3 (upd fa (I + l.length) (iN q.1)) (upd fr (I + l.length) (iN q.2.1)) (upd ft (I + l.length) (iN q.2.2)) I (l ++ [q]) := by
  intro x hx
  rw [List.length_append] at hx
  have hx' : x < l.length + 1 := hx
  by_cases e : x = l.length
  · rw [e, gd_n]; exact ⟨if_pos rfl, if_pos rfl, fun _ => if_pos rfl⟩
  · rw [gd_l _ _ _ (show x < l.length by omega)]
    obtain ⟨a1, a2, a3⟩ := H x (by omega)
    exact ⟨(if_neg (by omega)).trans a1, (if_neg (by omega)).trans a2, fun w => (if_neg (by omega)).trans (a3 w)⟩
/-- a side that faces f: where, its lesser end, its greater end -/
def sideT (f : Nat) (C : Nat → Int × Int) (n i : Nat) : Int × Int × Int := if f = 0 ∨ f = 2 then ((C i).1, min (C i).2 (C (gm_aft n i)).2, max (C i).2 (C (gm_aft n i)).2) else ((C i).2, min (C i).1 (C (gm_aft n i)).1, max (C i).1 (C (gm_aft n i)).1)
/-- the sides of an occurrence that face f -/
def sideL (mp : Nat → mvT) (sz : Nat → Nat) (X Y : Nat → Nat → Int) (fc : Nat → Nat → Nat) (q : List Nat × Nat) (f : Nat) : List (Int × Int × Int) := slP (fun i => decide (mvF (mvW mp q.1) (fc q.2 i) = f)) (sideT f (cor mp X Y q) (sz q.2)) (sz q.2)
/-- how many items in front -/
def tt (T : List Nat × Nat → Nat → List (Int × Int × Int)) (q : List Nat × Nat) : Nat → Nat | 0 => 0 | f + 1 => tt T q f + (T q f).length
def bs (T : List Nat × Nat → Nat → List (Int × Int × Int)) (S : List (List Nat × Nat)) : Nat → Nat | 0 => 0 | i + 1 => bs T S i + tt T (S.getD i ([], 0)) 4
def st_ (T : List Nat × Nat → Nat → List (Int × Int × Int)) (S : List (List Nat × Nat)) (i f : Nat) : Nat := bs T S i + tt T (S.getD i ([], 0)) f
theorem tt_le {T : List Nat × Nat → Nat → List (Int × Int × Int)} {q : List Nat × Nat} {f g : Nat} (h : f ≤ g) : tt T q f ≤ tt T q g := by
  obtain ⟨k, rfl⟩ := Nat.exists_eq_add_of_le h
  induction k with
  | zero => exact Nat.le_refl _
  | succ k ih =>
    have := ih (Nat.le_add_right f k)
    show _ ≤ tt T q (f + k) + (T q (f + k)).length
    omega
theorem gm_aft_lt2 {n i : Nat} (h : i < n) : gm_aft n i < n := by unfold gm_aft; split <;> omega
set_option maxHeartbeats 4000000 in
set_option maxRecDepth 100000 in
theorem l_side (G : sv_G) (Qr : Option Value → sv_h → Nat → Prop) (h1 : sv_h) (z b : Nat) (k : Int32) (nc np pl : Nat) (R : Nat → Bool) (hm pa sz : Nat → Nat) (ly vo ar : Nat → Int32) (X Y : Nat → Nat → Int) (fc : Nat → Nat → Nat) (oc : Nat → Nat → Option Nat) (mp : Nat → mvT) (S : List (List Nat × Nat)) (Z : sg_ G b k nc np pl R hm pa sz ly vo ar X Y fc oc mp h1 S) (hb : sv_h) (hfr : ∀ a, ¬ (b + 40 ≤ a ∧ a < b + 48) → hb a = h1 a) (i : Nat) (hi : i < S.length) (f : Nat) (hf : f < 4) (ac al : Nat) (hacl : (ac = b + 42 ∨ ac = b + 43) ∧ (al = b + 42 ∨ al = b + 43)) (acv alv : Nat → Int) (fac fal : Nat → Int32) (ha : ab_I G hb ac 16 fac) (hl : ab_I G hb al 16 fal) (hav : ∀ k9, k9 < (sz (S.getD i ([], 0)).2) → fac k9 = iN (acv k9)) (hlv : ∀ k9, k9 < (sz (S.getD i ([], 0)).2) → fal k9 = iN (alv k9) ∧ -200000 ≤ alv k9 ∧ alv k9 ≤ 200000) (I0 : Nat) (hI : I0 + (slP (fun i9 => decide (mvF (mvW mp (S.getD i ([], 0)).1) (fc (S.getD i ([], 0)).2 i9) = f)) (fun i9 => (acv i9, min (alv i9) (alv (gm_aft (sz (S.getD i ([], 0)).2) i9)), max (alv i9) (alv (gm_aft (sz (S.getD i ([], 0)).2) i9)))) (sz (S.getD i ([], 0)).2)).length ≤ 1600) (fa0 fr0 ft0 : Nat → Int32) (hk : ∀ (h : sv_h) (fa fr9 ft : Nat → Int32), ab_I G h (b + 45) 1600 fa → ab_I G h (b + 46) 1600 fr9 → ab_I G h (b + 47) 1600 ft → it_ true fa fr9 ft I0 (slP (fun i9 => decide (mvF (mvW mp (S.getD i ([], 0)).1) (fc (S.getD i ([], 0)).2 i9) = f)) (fun i9 => (acv i9, min (alv i9) (alv (gm_aft (sz (S.getD i ([], 0)).2) i9)), max (alv i9) (alv (gm_aft (sz (S.getD i ([], 0)).2) i9)))) (sz (S.getD i ([], 0)).2)) → (∀ a, a < I0 → fa a = fa0 a ∧ fr9 a = fr0 a ∧ ft a = ft0 a) → (∀ a, a ≠ b + 45 → a ≠ b + 46 → a ≠ b + 47 → h a = hb a) → V G mX8_listSides (sv_MQ G mX8_listSides Qr) 171 [(4, .int (nI f)), (3, .int (nI (I0 + (slP (fun i9 => decide (mvF (mvW mp (S.getD i ([], 0)).1) (fc (S.getD i ([], 0)).2 i9) = f)) (fun i9 => (acv i9, min (alv i9) (alv (gm_aft (sz (S.getD i ([], 0)).2) i9)), max (alv i9) (alv (gm_aft (sz (S.getD i ([], 0)).2) i9)))) (sz (S.getD i ([], 0)).2)).length))), (2, .ref (pa (S.getD i ([], 0)).2)), (1, .int (nI i)), (0, .ref (b + 35))] [] h z 0 0) : ∀ (c m : Nat) (h : sv_h) (fa fr9 ft : Nat → Int32), m + c = (sz (S.getD i ([], 0)).2) → ab_I G h (b + 45) 1600 fa → ab_I G h (b + 46) 1600 fr9 → ab_I G h (b + 47) 1600 ft → it_ true fa fr9 ft I0 (slP (fun i9 => decide (mvF (mvW mp (S.getD i ([], 0)).1) (fc (S.getD i ([], 0)).2 i9) = f)) (fun i9 => (acv i9, min (alv i9) (alv (gm_aft (sz (S.getD i ([], 0)).2) i9)), max (alv i9) (alv (gm_aft (sz (S.getD i ([], 0)).2) i9)))) m) → (∀ a, a < I0 → fa a = fa0 a ∧ fr9 a = fr0 a ∧ ft a = ft0 a) → (∀ a, a ≠ b + 45 → a ≠ b + 46 → a ≠ b + 47 → h a = hb a) → V G mX8_listSides (sv_MQ G mX8_listSides Qr) 75 [(7, .int (nI m)), (6, .ref al), (5, .ref ac), (4, .int (nI f)), (3, .int (nI (I0 + (slP (fun i9 => decide (mvF (mvW mp (S.getD i ([], 0)).1) (fc (S.getD i ([], 0)).2 i9) = f)) (fun i9 => (acv i9, min (alv i9) (alv (gm_aft (sz (S.getD i ([], 0)).2) i9)), max (alv i9) (alv (gm_aft (sz (S.getD i ([], 0)).2) i9)))) m).length))), (2, .ref (pa (S.getD i ([], 0)).2)), (1, .int (nI i)), (0, .ref (b + 35))] [] h z 0 0 := by
  intro c
  induction c with
  | zero =>
    intro m h fa fr9 ft hmc ha1 ha2 ha3 H hol hfb
    have fr : ∀ a, ¬ (b + 40 ≤ a ∧ a < b + 48) → h a = h1 a := fun a p => (hfb a (by omega) (by omega) (by omega)).trans (hfr a p)
    obtain ⟨z0, z1, ⟨fs, z2, z3⟩, ⟨fb_, z4, z5⟩, ⟨fl, z6, z7⟩, z8, z9, ⟨fq, zA, zB⟩, zC, zD, zE, zF⟩ := id Z
    have w1 := (fr (b + 35) (by omega)).trans z1
    have w2 : ab_I G h (b + 37) 100 fs := (fr (b + 37) (by omega)).trans z2
    have w4 : ab_I G h (b + 38) 100 fb_ := (fr (b + 38) (by omega)).trans z4
    have w6 : ab_Q G h (b + 39) 3 100 fl := (fr (b + 39) (by omega)).trans z6
    have w9 := (fr (b + 1) (by omega)).trans z9
    have wA : ab_Q G h (b + 2) 4 64 fq := (fr (b + 2) (by omega)).trans zA
    obtain ⟨v1, v2, v3⟩ := zE i hi
    obtain ⟨v4, v5⟩ := zC _ v1
    obtain ⟨fx, fy, ff, fo, v6, v7, v8, v9, vA, vB, vC⟩ := zD _ v1 v2
    have u1 := (fr (b + 64 + i) (by omega)).trans (z8 i hi)
    have u2 := (fr (pa (S.getD i ([], 0)).2) (by omega)).trans v4
    have u3 : ab_I G h (pa (S.getD i ([], 0)).2 + 1) 16 fx := (fr _ (by omega)).trans v6
    have u4 : ab_I G h (pa (S.getD i ([], 0)).2 + 2) 16 fy := (fr _ (by omega)).trans v7
    have u5 : ab_I G h (pa (S.getD i ([], 0)).2 + 3) 16 ff := (fr _ (by omega)).trans v8
    have u6 : ab_I G h (pa (S.getD i ([], 0)).2 + 4) 16 fo := (fr _ (by omega)).trans v9
    have wac : ab_I G h ac 16 fac := (hfb ac (by omega) (by omega) (by omega)).trans ha
    have wal : ab_I G h al 16 fal := (hfb al (by omega) (by omega) (by omega)).trans hl
    refine v_iload dX8_listSides_75 0 rfl ?_
    refine v_aload_n dX8_listSides_77 rfl 5 rfl ?_
    refine v_getf 4 (ci := 3) (C := RX5) (T := TX5) (N := 10) rfl iwX8_listSides_X5 (Nat.le_of_ble_eq_true rfl) (by decide +kernel) dX8_listSides_78 (by repeat (first | with_reducible assumption | (with_reducible refine sv_us.trans ?_; exact rfl) | with_reducible refine (sv_un (by omega)).trans ?_)) (by exact rfl) ?_
    refine v_icmp_ge (tgt := 171) dX8_listSides_81 (by decide) (fun c_81 => ?_) (fun c_81 => ?_)
    · refine v_sub (L' := [(4, _), (3, _), (2, _), (1, _), (0, _)]) [3, 4, 5, 6, 7] rfl ?_
      have e9 : m = (sz (S.getD i ([], 0)).2) := by omega
      rw [e9] at H ⊢
      exact hk h fa fr9 ft ha1 ha2 ha3 H hol hfb
    · exact absurd (nI_le (show (sz (S.getD i ([], 0)).2) ≤ m by omega) (by omega)) c_81
  | succ c ih =>
    intro m h fa fr9 ft hmc ha1 ha2 ha3 H hol hfb
    have fr : ∀ a, ¬ (b + 40 ≤ a ∧ a < b + 48) → h a = h1 a := fun a p => (hfb a (by omega) (by omega) (by omega)).trans (hfr a p)
    obtain ⟨z0, z1, ⟨fs, z2, z3⟩, ⟨fb_, z4, z5⟩, ⟨fl, z6, z7⟩, z8, z9, ⟨fq, zA, zB⟩, zC, zD, zE, zF⟩ := id Z
    have w1 := (fr (b + 35) (by omega)).trans z1
    have w2 : ab_I G h (b + 37) 100 fs := (fr (b + 37) (by omega)).trans z2
    have w4 : ab_I G h (b + 38) 100 fb_ := (fr (b + 38) (by omega)).trans z4
    have w6 : ab_Q G h (b + 39) 3 100 fl := (fr (b + 39) (by omega)).trans z6
    have w9 := (fr (b + 1) (by omega)).trans z9
    have wA : ab_Q G h (b + 2) 4 64 fq := (fr (b + 2) (by omega)).trans zA
    obtain ⟨v1, v2, v3⟩ := zE i hi
    obtain ⟨v4, v5⟩ := zC _ v1
    obtain ⟨fx, fy, ff, fo, v6, v7, v8, v9, vA, vB, vC⟩ := zD _ v1 v2
    have u1 := (fr (b + 64 + i) (by omega)).trans (z8 i hi)
    have u2 := (fr (pa (S.getD i ([], 0)).2) (by omega)).trans v4
    have u3 : ab_I G h (pa (S.getD i ([], 0)).2 + 1) 16 fx := (fr _ (by omega)).trans v6
    have u4 : ab_I G h (pa (S.getD i ([], 0)).2 + 2) 16 fy := (fr _ (by omega)).trans v7
    have u5 : ab_I G h (pa (S.getD i ([], 0)).2 + 3) 16 ff := (fr _ (by omega)).trans v8
    have u6 : ab_I G h (pa (S.getD i ([], 0)).2 + 4) 16 fo := (fr _ (by omega)).trans v9
    have wac : ab_I G h ac 16 fac := (hfb ac (by omega) (by omega) (by omega)).trans ha
    have wal : ab_I G h al 16 fal := (hfb al (by omega) (by omega) (by omega)).trans hl
    have hml : mvF (mvW mp (S.getD i ([], 0)).1) (fc (S.getD i ([], 0)).2 m) < 4 := Nat.mod_lt _ (by decide)
    have hg := gm_aft_lt2 (show m < (sz (S.getD i ([], 0)).2) by omega)
    refine v_iload dX8_listSides_75 0 rfl ?_
    refine v_aload_n dX8_listSides_77 rfl 5 rfl ?_
    refine v_getf 4 (ci := 3) (C := RX5) (T := TX5) (N := 10) rfl iwX8_listSides_X5 (Nat.le_of_ble_eq_true rfl) (by decide +kernel) dX8_listSides_78 (by repeat (first | with_reducible assumption | (with_reducible refine sv_us.trans ?_; exact rfl) | with_reducible refine (sv_un (by omega)).trans ?_)) (by exact rfl) ?_
    refine v_icmp_ge (tgt := 171) dX8_listSides_81 (by decide) (fun c_81 => ?_) (fun c_81 => ?_)
    · exact absurd c_81 (nI_ge (show m < (sz (S.getD i ([], 0)).2) by omega) (by omega))
    · refine v_aload_n dX8_listSides_84 rfl 7 rfl ?_
      refine v_getf 5 (ci := 6) (C := RX8) (T := TX8) (N := 14) rfl iwX8_listSides_X8 (Nat.le_of_ble_eq_true rfl) (by decide +kernel) dX8_listSides_85 (by repeat (first | with_reducible assumption | (with_reducible refine sv_us.trans ?_; exact rfl) | with_reducible refine (sv_un (by omega)).trans ?_)) (by exact rfl) ?_
      refine v_iload_n dX8_listSides_88 rfl 6 rfl ?_
      refine v_aaldS (t := 3) (q := b + 64 + i) dX8_listSides_89 (fun _ => rfl) (by repeat (first | with_reducible assumption | (with_reducible refine sv_us.trans ?_; exact rfl) | with_reducible refine (sv_un (by omega)).trans ?_)) (vp_in_nI (by omega) (by omega)) (by rw [nI_clamp (by omega)]; exact z7 i (by omega)) ?_
      refine v_aload_n dX8_listSides_90 rfl 5 rfl ?_
      refine v_getf 8 (ci := 3) (C := RX5) (T := TX5) (N := 10) rfl iwX8_listSides_X5 (Nat.le_of_ble_eq_true rfl) (by decide +kernel) dX8_listSides_91 (by repeat (first | with_reducible assumption | (with_reducible refine sv_us.trans ?_; exact rfl) | with_reducible refine (sv_un (by omega)).trans ?_)) (by exact rfl) ?_
      refine v_iload dX8_listSides_94 0 rfl ?_
      refine v_ialdS (v := nI (fc (S.getD i ([], 0)).2 m)) dX8_listSides_96 (by repeat (first | with_reducible assumption | (with_reducible refine sv_us.trans ?_; exact rfl) | with_reducible refine (sv_un (by omega)).trans ?_)) (vp_in_nI (by omega) (by omega)) (by rw [nI_clamp (by omega)]; exact (vA m (by omega)).2.2.1) ?_
      refine v_callVq (M' := mX4_faceOf) (n := 1) (As := [_]) (ci := 2) (r := (RX4, TX4, 4)) gX8_listSides_X4_faceOf rfl (by decide +kernel) ⟨(Nat.le_of_ble_eq_true rfl), (Nat.le_of_ble_eq_true rfl)⟩ rfl rfl dX8_listSides_97 rfl ⟨(Nat.le_of_ble_eq_true rfl), (Nat.le_of_ble_eq_true rfl)⟩ (Nat.le_of_ble_eq_true rfl) (by repeat (first | with_reducible assumption | (with_reducible refine sv_us.trans ?_; exact rfl) | with_reducible refine (sv_un (by omega)).trans ?_)) rfl (c_faceOf G _ _ _ (mvW mp (S.getD i ([], 0)).1) (mvW_q mp _) u1 _ (by have := (vA m (by omega)).2.2.2.1; omega)) (fun v h1 z1 hq => v_pq hq ?_)
      refine v_iload dX8_listSides_100 3 rfl ?_
      refine v_icmp_ne (tgt := 165) dX8_listSides_102 (by decide) (fun c_102 => ?_) (fun c_102 => ?_)
      · refine v_iinc (j := 0) (L' := [(7, _), (6, _), (5, _), (4, _), (3, _), (2, _), (1, _), (0, _)]) (v := nI (m + 1)) dX8_listSides_165 rfl (nI_1 _) (Nat.le_of_ble_eq_true rfl) rfl ?_
        refine v_goto (tgt := 75) dX8_listSides_168 (by decide) ?_
        refine v_sub (L' := [(7, _), (6, _), (5, _), (4, _), (3, _), (2, _), (1, _), (0, _)]) [0, 1, 2, 3, 4, 5, 6, 7] rfl ?_
        first
          | (have c9 := hP
             have ecl : (nI (I0 + (slP (fun i9 => decide (mvF (mvW mp (S.getD i ([], 0)).1) (fc (S.getD i ([], 0)).2 i9) = f)) (fun i9 => (acv i9, min (alv i9) (alv (gm_aft (sz (S.getD i ([], 0)).2) i9)), max (alv i9) (alv (gm_aft (sz (S.getD i ([], 0)).2) i9)))) m).length)).toNatClampNeg = I0 + (slP (fun i9 => decide (mvF (mvW mp (S.getD i ([], 0)).1) (fc (S.getD i ([], 0)).2 i9) = f)) (fun i9 => (acv i9, min (alv i9) (alv (gm_aft (sz (S.getD i ([], 0)).2) i9)), max (alv i9) (alv (gm_aft (sz (S.getD i ([], 0)).2) i9)))) m).length := nI_clamp (by omega)
             rw [ecl]
             have l9 : I0 + (slP (fun i9 => decide (mvF (mvW mp (S.getD i ([], 0)).1) (fc (S.getD i ([], 0)).2 i9) = f)) (fun i9 => (acv i9, min (alv i9) (alv (gm_aft (sz (S.getD i ([], 0)).2) i9)), max (alv i9) (alv (gm_aft (sz (S.getD i ([], 0)).2) i9)))) m).length + 1 = I0 + (slP (fun i9 => decide (mvF (mvW mp (S.getD i ([], 0)).1) (fc (S.getD i ([], 0)).2 i9) = f)) (fun i9 => (acv i9, min (alv i9) (alv (gm_aft (sz (S.getD i ([], 0)).2) i9)), max (alv i9) (alv (gm_aft (sz (S.getD i ([], 0)).2) i9)))) (m + 1)).length := (by rw [slP_p hP, List.length_append]; rfl)
             rw [l9]
             refine ih (m + 1) _ _ _ _ (by omega) ((sv_un (by omega)).trans ((sv_un (by omega)).trans (sv_us))) ((sv_un (by omega)).trans (sv_us)) sv_us ?_ (fun a q => ?_) (fun a q1 q2 q3 => (sv_un q3).trans ((sv_un q2).trans ((sv_un q1).trans (hfb a q1 q2 q3))))
             · rw [slP_p hP]; exact H.add ((fun i9 => (acv i9, min (alv i9) (alv (gm_aft (sz (S.getD i ([], 0)).2) i9)), max (alv i9) (alv (gm_aft (sz (S.getD i ([], 0)).2) i9)))) m)
             · obtain ⟨g1, g2, g3⟩ := hol a q
               exact ⟨(if_neg (by omega)).trans g1, (if_neg (by omega)).trans g2, (if_neg (by omega)).trans g3⟩)
          | (have hP : ¬ (fun i9 => decide (mvF (mvW mp (S.getD i ([], 0)).1) (fc (S.getD i ([], 0)).2 i9) = f)) m = true := fun q => c_102 (congrArg nI (of_decide_eq_true q))
             have l9 : (slP (fun i9 => decide (mvF (mvW mp (S.getD i ([], 0)).1) (fc (S.getD i ([], 0)).2 i9) = f)) (fun i9 => (acv i9, min (alv i9) (alv (gm_aft (sz (S.getD i ([], 0)).2) i9)), max (alv i9) (alv (gm_aft (sz (S.getD i ([], 0)).2) i9)))) (m + 1)) = (slP (fun i9 => decide (mvF (mvW mp (S.getD i ([], 0)).1) (fc (S.getD i ([], 0)).2 i9) = f)) (fun i9 => (acv i9, min (alv i9) (alv (gm_aft (sz (S.getD i ([], 0)).2) i9)), max (alv i9) (alv (gm_aft (sz (S.getD i ([], 0)).2) i9)))) m) := slP_n hP
             rw [← l9]
             exact ih (m + 1) _ _ _ _ (by omega) ha1 ha2 ha3 (by rw [l9]; exact H) hol hfb)
      · have hP : (fun i9 => decide (mvF (mvW mp (S.getD i ([], 0)).1) (fc (S.getD i ([], 0)).2 i9) = f)) m = true := decide_eq_true ((nI_eq (by omega) (by omega)).mp c_102)
        have hI2 : I0 + (slP (fun i9 => decide (mvF (mvW mp (S.getD i ([], 0)).1) (fc (S.getD i ([], 0)).2 i9) = f)) (fun i9 => (acv i9, min (alv i9) (alv (gm_aft (sz (S.getD i ([], 0)).2) i9)), max (alv i9) (alv (gm_aft (sz (S.getD i ([], 0)).2) i9)))) m).length < 1600 := by
          have := slP_le (P := (fun i9 => decide (mvF (mvW mp (S.getD i ([], 0)).1) (fc (S.getD i ([], 0)).2 i9) = f))) (it := (fun i9 => (acv i9, min (alv i9) (alv (gm_aft (sz (S.getD i ([], 0)).2) i9)), max (alv i9) (alv (gm_aft (sz (S.getD i ([], 0)).2) i9))))) (show m + 1 ≤ (sz (S.getD i ([], 0)).2) by omega)
          rw [slP_p hP, List.length_append, List.length_singleton] at this
          omega
        refine v_aload_n dX8_listSides_105 rfl 5 rfl ?_
        refine v_iload dX8_listSides_106 0 rfl ?_
        refine v_callVq (M' := mX5_after) (n := 1) (As := [_]) (ci := 3) (r := (RX5, TX5, 10)) gX8_listSides_X5_after rfl (by decide +kernel) ⟨(Nat.le_of_ble_eq_true rfl), (Nat.le_of_ble_eq_true rfl)⟩ rfl rfl dX8_listSides_108 rfl ⟨(Nat.le_of_ble_eq_true rfl), (Nat.le_of_ble_eq_true rfl)⟩ (Nat.le_of_ble_eq_true rfl) (by repeat (first | with_reducible assumption | (with_reducible refine sv_us.trans ?_; exact rfl) | with_reducible refine (sv_un (by omega)).trans ?_)) rfl (c_after G _ _ (pa (S.getD i ([], 0)).2) (sz (S.getD i ([], 0)).2) _ _ _ _ _ fx fy u2 u3 u4 vC m (by omega)) (fun v h1 z1 hq => v_pq hq ?_)
        refine v_istore (L' := [(8, _), (7, _), (6, _), (5, _), (4, _), (3, _), (2, _), (1, _), (0, _)]) dX8_listSides_111 (Nat.le_of_ble_eq_true rfl) rfl ?_
        refine v_aload_n dX8_listSides_113 rfl 8 rfl ?_
        refine v_getf 11 (ci := 6) (C := RX8) (T := TX8) (N := 14) rfl iwX8_listSides_X8 (Nat.le_of_ble_eq_true rfl) (by decide +kernel) dX8_listSides_114 (by repeat (first | with_reducible assumption | (with_reducible refine sv_us.trans ?_; exact rfl) | with_reducible refine (sv_un (by omega)).trans ?_)) (by exact rfl) ?_
        refine v_iload_n dX8_listSides_117 rfl 5 rfl ?_
        refine v_aload dX8_listSides_118 3 rfl ?_
        refine v_iload dX8_listSides_120 1 rfl ?_
        refine v_ialdS (v := iN (acv m)) dX8_listSides_122 (by repeat (first | with_reducible assumption | (with_reducible refine sv_us.trans ?_; exact rfl) | with_reducible refine (sv_un (by omega)).trans ?_)) (vp_in_nI (by omega) (by omega)) (by rw [nI_clamp (by omega)]; exact hav m (by omega)) ?_
        refine v_iast dX8_listSides_123 (by repeat (first | with_reducible assumption | (with_reducible refine sv_us.trans ?_; exact rfl) | with_reducible refine (sv_un (by omega)).trans ?_)) (vp_in_nI (by omega) (by omega)) ?_
        refine v_aload_n dX8_listSides_124 rfl 8 rfl ?_
        refine v_getf 12 (ci := 6) (C := RX8) (T := TX8) (N := 14) rfl iwX8_listSides_X8 (Nat.le_of_ble_eq_true rfl) (by decide +kernel) dX8_listSides_125 (by repeat (first | with_reducible assumption | (with_reducible refine sv_us.trans ?_; exact rfl) | with_reducible refine (sv_un (by omega)).trans ?_)) (by exact rfl) ?_
        refine v_iload_n dX8_listSides_128 rfl 5 rfl ?_
        refine v_aload dX8_listSides_129 2 rfl ?_
        refine v_iload dX8_listSides_131 1 rfl ?_
        refine v_ialdS (v := iN (alv m)) dX8_listSides_133 (by repeat (first | with_reducible assumption | (with_reducible refine sv_us.trans ?_; exact rfl) | with_reducible refine (sv_un (by omega)).trans ?_)) (vp_in_nI (by omega) (by omega)) (by rw [nI_clamp (by omega)]; exact (hlv m (by omega)).1) ?_
        refine v_aload dX8_listSides_134 2 rfl ?_
        refine v_iload dX8_listSides_136 0 rfl ?_
        refine v_ialdS (v := iN (alv (gm_aft (sz (S.getD i ([], 0)).2) m))) dX8_listSides_138 (by repeat (first | with_reducible assumption | (with_reducible refine sv_us.trans ?_; exact rfl) | with_reducible refine (sv_un (by omega)).trans ?_)) (vp_in_nI (by omega) (by omega)) (by rw [nI_clamp (by omega)]; exact (hlv _ hg).1) ?_
        refine v_mmin (by decide +kernel) (by decide +kernel) (by decide +kernel) (by decide +kernel) dX8_listSides_139 (Nat.le_of_ble_eq_true rfl) (Nat.le_of_ble_eq_true rfl) (Nat.le_of_ble_eq_true rfl) (Nat.le_of_ble_eq_true rfl) ?_
        rw [gmI_min (by have := (hlv m (by omega)).2; exact ⟨Int.le_trans (by decide) this.1, Int.le_trans this.2 (by decide)⟩) (by have := (hlv _ hg).2; exact ⟨Int.le_trans (by decide) this.1, Int.le_trans this.2 (by decide)⟩)]
        refine v_iast dX8_listSides_142 (by repeat (first | with_reducible assumption | (with_reducible refine sv_us.trans ?_; exact rfl) | with_reducible refine (sv_un (by omega)).trans ?_)) (vp_in_nI (by omega) (by omega)) ?_
        refine v_aload_n dX8_listSides_143 rfl 8 rfl ?_
        refine v_getf 13 (ci := 6) (C := RX8) (T := TX8) (N := 14) rfl iwX8_listSides_X8 (Nat.le_of_ble_eq_true rfl) (by decide +kernel) dX8_listSides_144 (by repeat (first | with_reducible assumption | (with_reducible refine sv_us.trans ?_; exact rfl) | with_reducible refine (sv_un (by omega)).trans ?_)) (by exact rfl) ?_
        refine v_iload_n dX8_listSides_147 rfl 5 rfl ?_
        refine v_aload dX8_listSides_148 2 rfl ?_
        refine v_iload dX8_listSides_150 1 rfl ?_
        refine v_ialdS (v := iN (alv m)) dX8_listSides_152 (by repeat (first | with_reducible assumption | (with_reducible refine sv_us.trans ?_; exact rfl) | with_reducible refine (sv_un (by omega)).trans ?_)) (vp_in_nI (by omega) (by omega)) (by rw [nI_clamp (by omega)]; exact (hlv m (by omega)).1) ?_
        refine v_aload dX8_listSides_153 2 rfl ?_
        refine v_iload dX8_listSides_155 0 rfl ?_
        refine v_ialdS (v := iN (alv (gm_aft (sz (S.getD i ([], 0)).2) m))) dX8_listSides_157 (by repeat (first | with_reducible assumption | (with_reducible refine sv_us.trans ?_; exact rfl) | with_reducible refine (sv_un (by omega)).trans ?_)) (vp_in_nI (by omega) (by omega)) (by rw [nI_clamp (by omega)]; exact (hlv _ hg).1) ?_
        refine v_mmax (by decide +kernel) (by decide +kernel) (by decide +kernel) (by decide +kernel) dX8_listSides_158 (Nat.le_of_ble_eq_true rfl) (Nat.le_of_ble_eq_true rfl) (Nat.le_of_ble_eq_true rfl) (Nat.le_of_ble_eq_true rfl) ?_
        rw [gmI_max (by have := (hlv m (by omega)).2; exact ⟨Int.le_trans (by decide) this.1, Int.le_trans this.2 (by decide)⟩) (by have := (hlv _ hg).2; exact ⟨Int.le_trans (by decide) this.1, Int.le_trans this.2 (by decide)⟩)]
        refine v_iast dX8_listSides_161 (by repeat (first | with_reducible assumption | (with_reducible refine sv_us.trans ?_; exact rfl) | with_reducible refine (sv_un (by omega)).trans ?_)) (vp_in_nI (by omega) (by omega)) ?_
        refine v_iinc (j := 5) (L' := [(3, _), (8, _), (7, _), (6, _), (5, _), (4, _), (2, _), (1, _), (0, _)]) (v := nI (I0 + (slP (fun i9 => decide (mvF (mvW mp (S.getD i ([], 0)).1) (fc (S.getD i ([], 0)).2 i9) = f)) (fun i9 => (acv i9, min (alv i9) (alv (gm_aft (sz (S.getD i ([], 0)).2) i9)), max (alv i9) (alv (gm_aft (sz (S.getD i ([], 0)).2) i9)))) m).length + 1)) dX8_listSides_162 rfl (nI_1 _) (Nat.le_of_ble_eq_true rfl) rfl ?_
        refine v_iinc (j := 2) (L' := [(7, _), (3, _), (8, _), (6, _), (5, _), (4, _), (2, _), (1, _), (0, _)]) (v := nI (m + 1)) dX8_listSides_165 rfl (nI_1 _) (Nat.le_of_ble_eq_true rfl) rfl ?_
        refine v_goto (tgt := 75) dX8_listSides_168 (by decide) ?_
        refine v_sub (L' := [(7, _), (6, _), (5, _), (4, _), (3, _), (2, _), (1, _), (0, _)]) [0, 3, 4, 5, 1, 6, 7, 8] rfl ?_
        first
          | (have c9 := hP
             have ecl : (nI (I0 + (slP (fun i9 => decide (mvF (mvW mp (S.getD i ([], 0)).1) (fc (S.getD i ([], 0)).2 i9) = f)) (fun i9 => (acv i9, min (alv i9) (alv (gm_aft (sz (S.getD i ([], 0)).2) i9)), max (alv i9) (alv (gm_aft (sz (S.getD i ([], 0)).2) i9)))) m).length)).toNatClampNeg = I0 + (slP (fun i9 => decide (mvF (mvW mp (S.getD i ([], 0)).1) (fc (S.getD i ([], 0)).2 i9) = f)) (fun i9 => (acv i9, min (alv i9) (alv (gm_aft (sz (S.getD i ([], 0)).2) i9)), max (alv i9) (alv (gm_aft (sz (S.getD i ([], 0)).2) i9)))) m).length := nI_clamp (by omega)
             rw [ecl]
             have l9 : I0 + (slP (fun i9 => decide (mvF (mvW mp (S.getD i ([], 0)).1) (fc (S.getD i ([], 0)).2 i9) = f)) (fun i9 => (acv i9, min (alv i9) (alv (gm_aft (sz (S.getD i ([], 0)).2) i9)), max (alv i9) (alv (gm_aft (sz (S.getD i ([], 0)).2) i9)))) m).length + 1 = I0 + (slP (fun i9 => decide (mvF (mvW mp (S.getD i ([], 0)).1) (fc (S.getD i ([], 0)).2 i9) = f)) (fun i9 => (acv i9, min (alv i9) (alv (gm_aft (sz (S.getD i ([], 0)).2) i9)), max (alv i9) (alv (gm_aft (sz (S.getD i ([], 0)).2) i9)))) (m + 1)).length := (by rw [slP_p hP, List.length_append]; rfl)
             rw [l9]
             refine ih (m + 1) _ _ _ _ (by omega) ((sv_un (by omega)).trans ((sv_un (by omega)).trans (sv_us))) ((sv_un (by omega)).trans (sv_us)) sv_us ?_ (fun a q => ?_) (fun a q1 q2 q3 => (sv_un q3).trans ((sv_un q2).trans ((sv_un q1).trans (hfb a q1 q2 q3))))
             · rw [slP_p hP]; exact H.add ((fun i9 => (acv i9, min (alv i9) (alv (gm_aft (sz (S.getD i ([], 0)).2) i9)), max (alv i9) (alv (gm_aft (sz (S.getD i ([], 0)).2) i9)))) m)
             · obtain ⟨g1, g2, g3⟩ := hol a q
               exact ⟨(if_neg (by omega)).trans g1, (if_neg (by omega)).trans g2, (if_neg (by omega)).trans g3⟩)
          | (have hP : ¬ (fun i9 => decide (mvF (mvW mp (S.getD i ([], 0)).1) (fc (S.getD i ([], 0)).2 i9) = f)) m = true := fun q => c_102 (congrArg nI (of_decide_eq_true q))
             have l9 : (slP (fun i9 => decide (mvF (mvW mp (S.getD i ([], 0)).1) (fc (S.getD i ([], 0)).2 i9) = f)) (fun i9 => (acv i9, min (alv i9) (alv (gm_aft (sz (S.getD i ([], 0)).2) i9)), max (alv i9) (alv (gm_aft (sz (S.getD i ([], 0)).2) i9)))) (m + 1)) = (slP (fun i9 => decide (mvF (mvW mp (S.getD i ([], 0)).1) (fc (S.getD i ([], 0)).2 i9) = f)) (fun i9 => (acv i9, min (alv i9) (alv (gm_aft (sz (S.getD i ([], 0)).2) i9)), max (alv i9) (alv (gm_aft (sz (S.getD i ([], 0)).2) i9)))) m) := slP_n hP
             rw [← l9]
             exact ih (m + 1) _ _ _ _ (by omega) ha1 ha2 ha3 (by rw [l9]; exact H) hol hfb)

