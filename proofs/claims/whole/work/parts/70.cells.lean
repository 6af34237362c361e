/-- bit c of x -/
def bt (x : Int32) (c : Nat) : Prop := (x >>> (nI c &&& 31)) &&& 1 = 1
theorem bt_k (v : BitVec 32) : (v &&& (1 : Int32).toBitVec = (1 : Int32).toBitVec) ↔ v.getLsbD 0 = true := by
  constructor
  · intro h
    have := congrArg (fun w => w.getLsbD 0) h
    simpa using this
  · intro h
    apply BitVec.eq_of_getLsbD_eq
    intro i hi
    rw [BitVec.getLsbD_and]
    by_cases e : i = 0
    · subst e; simp [h]
    · have : (1 : Int32).toBitVec.getLsbD i = false := by
        show (1#32).getLsbD i = false
        simp [BitVec.getLsbD_one]; omega
      rw [this]; simp
theorem bt_s : ∀ d : Fin 16, ((nI d.val &&& 31).toBitVec.smod 32).toNat = d.val := by decide
theorem bt_iff {x : Int32} {d : Nat} (hd : d < 16) : bt x d ↔ x.toBitVec.getLsbD d = true := by
  unfold bt
  rw [← Int32.toBitVec_inj, Int32.toBitVec_and, bt_k, Int32.toBitVec_shiftRight]
  have e := bt_s ⟨d, hd⟩
  simp only at e
  unfold BitVec.sshiftRight'
  rw [e, BitVec.getLsbD_sshiftRight]
  simp only [Nat.add_zero]
  rw [if_pos (by omega)]
  simp
theorem bt_or {x y : Int32} {d : Nat} (hd : d < 16) : bt (x ||| y) d ↔ bt x d ∨ bt y d := by
  rw [bt_iff hd, bt_iff hd, bt_iff hd, Int32.toBitVec_or, BitVec.getLsbD_or]
  simp
theorem bt_1a : ∀ d : Fin 16, ∀ i : Fin 32, ((1 : Int32) <<< (nI d.val &&& 31)).toBitVec.getLsbD i.val = decide (i.val = d.val) := by decide
theorem bt_1 {c d : Nat} (hc : c < 16) (hd : d < 16) : bt ((1 : Int32) <<< (nI d &&& 31)) c ↔ c = d := by
  rw [bt_iff hc, bt_1a ⟨d, hd⟩ ⟨c, by omega⟩]
  simp
theorem bt_same {x : Int32} {d : Nat} (hd : d < 16) (h : bt x d) : x ||| ((1 : Int32) <<< (nI d &&& 31)) = x := by
  rw [← Int32.toBitVec_inj, Int32.toBitVec_or]
  apply BitVec.eq_of_getLsbD_eq
  intro i hi
  rw [BitVec.getLsbD_or, bt_1a ⟨d, hd⟩ ⟨i, hi⟩]
  by_cases e : i = d
  · subst e; rw [(bt_iff hd).mp h]; rfl
  · simp [e]
/-- how many of the first k have p -/
def cn (p : Nat → Bool) : Nat → Nat | 0 => 0 | k + 1 => cn p k + (if p k = true then 1 else 0)
theorem cn_le (p : Nat → Bool) : ∀ k, cn p k ≤ k
  | 0 => Nat.le_refl 0
  | k + 1 => by
    have := cn_le p k
    show cn p k + (if p k = true then 1 else 0) ≤ _
    split <;> omega
theorem cn_mono {p q : Nat → Bool} : ∀ k, (∀ c, c < k → p c = true → q c = true) → cn p k ≤ cn q k
  | 0 => fun _ => Nat.le_refl 0
  | k + 1 => by
    intro h
    have := cn_mono k (fun c hc => h c (by omega))
    show cn p k + (if p k = true then 1 else 0) ≤ cn q k + (if q k = true then 1 else 0)
    have := h k (by omega)
    by_cases e : p k = true
    · rw [if_pos e, if_pos (this e)]; omega
    · rw [if_neg e]; split <;> omega
theorem cn_lt {p q : Nat → Bool} : ∀ k, (∀ c, c < k → p c = true → q c = true) → (∃ c, c < k ∧ q c = true ∧ ¬ p c = true) → cn p k < cn q k
  | 0 => fun _ ⟨c, hc, _⟩ => absurd hc (Nat.not_lt_zero c)
  | k + 1 => by
    intro h ⟨c, hc, h1, h2⟩
    show cn p k + (if p k = true then 1 else 0) < cn q k + (if q k = true then 1 else 0)
    by_cases e : c = k
    · subst e
      have := cn_mono c (fun c' hc' => h c' (by omega))
      rw [if_pos h1, if_neg h2]; omega
    · have := cn_lt k (fun c' hc' => h c' (by omega)) ⟨c, by omega, h1, h2⟩
      have := h k (by omega)
      by_cases e2 : p k = true
      · rw [if_pos e2, if_pos (this e2)]; omega
      · rw [if_neg e2]; split <;> omega
def bb (x : Int32) (c : Nat) : Bool := decide ((x >>> (nI c &&& 31)) &&& 1 = 1)
theorem bb_t {x : Int32} {c : Nat} : bb x c = true ↔ bt x c := by unfold bb bt; exact decide_eq_true_iff
/-- d is c, or in it, directly or over others -/
def gr_R (pl : Nat) (p3 p4 : Nat → Nat) (c d : Nat) : Prop := ∀ S : Nat → Prop, S c → (∀ i, i < pl → S (p3 i) → S (p4 i)) → S d
theorem gr_R.rf {pl : Nat} {p3 p4 : Nat → Nat} {c : Nat} : gr_R pl p3 p4 c c := fun _ h _ => h
theorem gr_R.st {pl : Nat} {p3 p4 : Nat → Nat} {c i : Nat} (h : gr_R pl p3 p4 c (p3 i)) (hi : i < pl) : gr_R pl p3 p4 c (p4 i) := fun S h1 h2 => h2 i hi (h S h1 h2)
theorem gr_R.tr {pl : Nat} {p3 p4 : Nat → Nat} {c d e : Nat} (h : gr_R pl p3 p4 c d) (h2 : gr_R pl p3 p4 d e) : gr_R pl p3 p4 c e := fun S h3 h4 => h2 S (h S h3 h4) h4
theorem cn_bd {p : Nat → Bool} {n : Nat} (h : ∀ c, p c = true → c < n) : ∀ k, cn p k ≤ n
  | 0 => Nat.zero_le _
  | k + 1 => by
    have ih := cn_bd h k
    show cn p k + (if p k = true then 1 else 0) ≤ n
    by_cases e : p k = true
    · rw [if_pos e]
      have := cn_le p k
      have := h k e
      omega
    · rw [if_neg e]; exact ih
theorem iwX3_cellsIn_X3 : ∀ w ∈ wsX30, w ∈ wsX3_cellsIn := by decide +kernel
theorem iwX4_set_X4 : ∀ w ∈ wsX40, w ∈ wsX4_set := by decide +kernel
theorem iwX3_addPlace_X3 : ∀ w ∈ wsX30, w ∈ wsX3_addPlace := by decide +kernel
theorem iwX3_addPlace_X4 : ∀ w ∈ wsX40, w ∈ wsX3_addPlace := by decide +kernel
set_option maxRecDepth 20000 in
theorem ggX3_addPlace_X4_init : GoodIn wsX3_addPlace wsX4_init := goodIn_r _ [9, 10, 11, 12] (by decide +kernel) (by decide +kernel)
set_option maxRecDepth 20000 in
theorem ggX3_addPlace_X4_set : GoodIn wsX3_addPlace wsX4_set := goodIn_r _ [16, 17, 18, 19, 20, 31, 32, 33, 34] (by decide +kernel) (by decide +kernel)
set_option maxRecDepth 20000 in
theorem gX3_addPlace_X4_set : GoodIn wsX3_addPlace (wsV RX3 53 RX4 yX4_set wsX4_set) := goodIn_app (goodIn_of _ (by decide +kernel)) ggX3_addPlace_X4_set
theorem dX3_addPlace_0 : decode cX3_addPlace 0 = .ok (.aload_n 0, 1) := by decide +kernel
theorem dX3_addPlace_1 : decode cX3_addPlace 1 = .ok (.getfield 17, 3) := by decide +kernel
theorem dX3_addPlace_4 : decode cX3_addPlace 4 = .ok (.aload_n 0, 1) := by decide +kernel
theorem dX3_addPlace_5 : decode cX3_addPlace 5 = .ok (.getfield 49, 3) := by decide +kernel
theorem dX3_addPlace_8 : decode cX3_addPlace 8 = .ok (.iload_n 1, 1) := by decide +kernel
theorem dX3_addPlace_9 : decode cX3_addPlace 9 = .ok (.iastore, 1) := by decide +kernel
theorem dX3_addPlace_10 : decode cX3_addPlace 10 = .ok (.aload_n 0, 1) := by decide +kernel
theorem dX3_addPlace_11 : decode cX3_addPlace 11 = .ok (.getfield 21, 3) := by decide +kernel
theorem dX3_addPlace_14 : decode cX3_addPlace 14 = .ok (.aload_n 0, 1) := by decide +kernel
theorem dX3_addPlace_15 : decode cX3_addPlace 15 = .ok (.getfield 49, 3) := by decide +kernel
theorem dX3_addPlace_18 : decode cX3_addPlace 18 = .ok (.iload_n 2, 1) := by decide +kernel
theorem dX3_addPlace_19 : decode cX3_addPlace 19 = .ok (.iastore, 1) := by decide +kernel
theorem dX3_addPlace_20 : decode cX3_addPlace 20 = .ok (.aload_n 0, 1) := by decide +kernel
theorem dX3_addPlace_21 : decode cX3_addPlace 21 = .ok (.getfield 26, 3) := by decide +kernel
theorem dX3_addPlace_24 : decode cX3_addPlace 24 = .ok (.aload_n 0, 1) := by decide +kernel
theorem dX3_addPlace_25 : decode cX3_addPlace 25 = .ok (.getfield 49, 3) := by decide +kernel
theorem dX3_addPlace_28 : decode cX3_addPlace 28 = .ok (.new 24, 3) := by decide +kernel
theorem dX3_addPlace_31 : decode cX3_addPlace 31 = .ok (.dup, 1) := by decide +kernel
theorem dX3_addPlace_32 : decode cX3_addPlace 32 = .ok (.invokespecial 52, 3) := by decide +kernel
theorem dX3_addPlace_35 : decode cX3_addPlace 35 = .ok (.aastore, 1) := by decide +kernel
theorem dX3_addPlace_36 : decode cX3_addPlace 36 = .ok (.aload_n 0, 1) := by decide +kernel
theorem dX3_addPlace_37 : decode cX3_addPlace 37 = .ok (.getfield 26, 3) := by decide +kernel
theorem dX3_addPlace_40 : decode cX3_addPlace 40 = .ok (.aload_n 0, 1) := by decide +kernel
theorem dX3_addPlace_41 : decode cX3_addPlace 41 = .ok (.getfield 49, 3) := by decide +kernel
theorem dX3_addPlace_44 : decode cX3_addPlace 44 = .ok (.aaload, 1) := by decide +kernel
theorem dX3_addPlace_45 : decode cX3_addPlace 45 = .ok (.iload 5, 2) := by decide +kernel
theorem dX3_addPlace_47 : decode cX3_addPlace 47 = .ok (.iload_n 3, 1) := by decide +kernel
theorem dX3_addPlace_48 : decode cX3_addPlace 48 = .ok (.iload 4, 2) := by decide +kernel
theorem dX3_addPlace_50 : decode cX3_addPlace 50 = .ok (.invokevirtual 53, 3) := by decide +kernel
theorem dX3_addPlace_53 : decode cX3_addPlace 53 = .ok (.aload_n 0, 1) := by decide +kernel
theorem dX3_addPlace_54 : decode cX3_addPlace 54 = .ok (.dup, 1) := by decide +kernel
theorem dX3_addPlace_55 : decode cX3_addPlace 55 = .ok (.getfield 49, 3) := by decide +kernel
theorem dX3_addPlace_58 : decode cX3_addPlace 58 = .ok (.iconst 1, 1) := by decide +kernel
theorem dX3_addPlace_59 : decode cX3_addPlace 59 = .ok (.iadd, 1) := by decide +kernel
theorem dX3_addPlace_60 : decode cX3_addPlace 60 = .ok (.putfield 49, 3) := by decide +kernel
theorem dX3_addPlace_63 : decode cX3_addPlace 63 = .ok (.aload_n 0, 1) := by decide +kernel
theorem dX3_addPlace_64 : decode cX3_addPlace 64 = .ok (.getfield 49, 3) := by decide +kernel
theorem dX3_addPlace_67 : decode cX3_addPlace 67 = .ok (.iconst 1, 1) := by decide +kernel
theorem dX3_addPlace_68 : decode cX3_addPlace 68 = .ok (.isub, 1) := by decide +kernel
theorem dX3_addPlace_69 : decode cX3_addPlace 69 = .ok (.ireturn, 1) := by decide +kernel
set_option maxRecDepth 20000 in
theorem ggX3_isWithin_X3_cellsIn : GoodIn wsX3_isWithin wsX3_cellsIn := goodIn_r _ [5, 6, 7, 8, 9, 10, 11, 12, 13, 14, 15, 16, 17, 18, 19] (by decide +kernel) (by decide +kernel)
set_option maxRecDepth 20000 in
theorem gX3_isWithin_X3_cellsIn : GoodIn wsX3_isWithin (wsV RX3 57 RX3 yX3_cellsIn wsX3_cellsIn) := goodIn_app (goodIn_of _ (by decide +kernel)) ggX3_isWithin_X3_cellsIn
theorem dX3_isWithin_0 : decode cX3_isWithin 0 = .ok (.aload_n 0, 1) := by decide +kernel
theorem dX3_isWithin_1 : decode cX3_isWithin 1 = .ok (.iload_n 2, 1) := by decide +kernel
theorem dX3_isWithin_2 : decode cX3_isWithin 2 = .ok (.invokevirtual 57, 3) := by decide +kernel
theorem dX3_isWithin_5 : decode cX3_isWithin 5 = .ok (.iload_n 1, 1) := by decide +kernel
theorem dX3_isWithin_6 : decode cX3_isWithin 6 = .ok (.ishr, 1) := by decide +kernel
theorem dX3_isWithin_7 : decode cX3_isWithin 7 = .ok (.iconst 1, 1) := by decide +kernel
theorem dX3_isWithin_8 : decode cX3_isWithin 8 = .ok (.iand, 1) := by decide +kernel
theorem dX3_isWithin_9 : decode cX3_isWithin 9 = .ok (.iconst 1, 1) := by decide +kernel
theorem dX3_isWithin_10 : decode cX3_isWithin 10 = .ok (.if_icmp .ne 7, 3) := by decide +kernel
theorem dX3_isWithin_13 : decode cX3_isWithin 13 = .ok (.iconst 1, 1) := by decide +kernel
theorem dX3_isWithin_14 : decode cX3_isWithin 14 = .ok (.goto 4, 3) := by decide +kernel
theorem dX3_isWithin_17 : decode cX3_isWithin 17 = .ok (.iconst 0, 1) := by decide +kernel
theorem dX3_isWithin_18 : decode cX3_isWithin 18 = .ok (.ireturn, 1) := by decide +kernel
theorem dX3_cellsIn_0 : decode cX3_cellsIn 0 = .ok (.iconst 1, 1) := by decide +kernel
theorem dX3_cellsIn_1 : decode cX3_cellsIn 1 = .ok (.iload_n 1, 1) := by decide +kernel
theorem dX3_cellsIn_2 : decode cX3_cellsIn 2 = .ok (.ishl, 1) := by decide +kernel
theorem dX3_cellsIn_3 : decode cX3_cellsIn 3 = .ok (.istore_n 2, 1) := by decide +kernel
theorem dX3_cellsIn_4 : decode cX3_cellsIn 4 = .ok (.iconst 0, 1) := by decide +kernel
theorem dX3_cellsIn_5 : decode cX3_cellsIn 5 = .ok (.istore_n 3, 1) := by decide +kernel
theorem dX3_cellsIn_6 : decode cX3_cellsIn 6 = .ok (.iload_n 3, 1) := by decide +kernel
theorem dX3_cellsIn_7 : decode cX3_cellsIn 7 = .ok (.aload_n 0, 1) := by decide +kernel
theorem dX3_cellsIn_8 : decode cX3_cellsIn 8 = .ok (.getfield 40, 3) := by decide +kernel
theorem dX3_cellsIn_11 : decode cX3_cellsIn 11 = .ok (.if_icmp .ge 66, 3) := by decide +kernel
theorem dX3_cellsIn_14 : decode cX3_cellsIn 14 = .ok (.iload_n 2, 1) := by decide +kernel
theorem dX3_cellsIn_15 : decode cX3_cellsIn 15 = .ok (.istore 4, 2) := by decide +kernel
theorem dX3_cellsIn_17 : decode cX3_cellsIn 17 = .ok (.iconst 0, 1) := by decide +kernel
theorem dX3_cellsIn_18 : decode cX3_cellsIn 18 = .ok (.istore 5, 2) := by decide +kernel
theorem dX3_cellsIn_20 : decode cX3_cellsIn 20 = .ok (.iload 5, 2) := by decide +kernel
theorem dX3_cellsIn_22 : decode cX3_cellsIn 22 = .ok (.aload_n 0, 1) := by decide +kernel
theorem dX3_cellsIn_23 : decode cX3_cellsIn 23 = .ok (.getfield 49, 3) := by decide +kernel
theorem dX3_cellsIn_26 : decode cX3_cellsIn 26 = .ok (.if_icmp .ge 36, 3) := by decide +kernel
theorem dX3_cellsIn_29 : decode cX3_cellsIn 29 = .ok (.iload_n 2, 1) := by decide +kernel
theorem dX3_cellsIn_30 : decode cX3_cellsIn 30 = .ok (.aload_n 0, 1) := by decide +kernel
theorem dX3_cellsIn_31 : decode cX3_cellsIn 31 = .ok (.getfield 17, 3) := by decide +kernel
theorem dX3_cellsIn_34 : decode cX3_cellsIn 34 = .ok (.iload 5, 2) := by decide +kernel
theorem dX3_cellsIn_36 : decode cX3_cellsIn 36 = .ok (.iaload, 1) := by decide +kernel
theorem dX3_cellsIn_37 : decode cX3_cellsIn 37 = .ok (.ishr, 1) := by decide +kernel
theorem dX3_cellsIn_38 : decode cX3_cellsIn 38 = .ok (.iconst 1, 1) := by decide +kernel
theorem dX3_cellsIn_39 : decode cX3_cellsIn 39 = .ok (.iand, 1) := by decide +kernel
theorem dX3_cellsIn_40 : decode cX3_cellsIn 40 = .ok (.iconst 1, 1) := by decide +kernel
theorem dX3_cellsIn_41 : decode cX3_cellsIn 41 = .ok (.if_icmp .ne 15, 3) := by decide +kernel
theorem dX3_cellsIn_44 : decode cX3_cellsIn 44 = .ok (.iload_n 2, 1) := by decide +kernel
theorem dX3_cellsIn_45 : decode cX3_cellsIn 45 = .ok (.iconst 1, 1) := by decide +kernel
theorem dX3_cellsIn_46 : decode cX3_cellsIn 46 = .ok (.aload_n 0, 1) := by decide +kernel
theorem dX3_cellsIn_47 : decode cX3_cellsIn 47 = .ok (.getfield 21, 3) := by decide +kernel
theorem dX3_cellsIn_50 : decode cX3_cellsIn 50 = .ok (.iload 5, 2) := by decide +kernel
theorem dX3_cellsIn_52 : decode cX3_cellsIn 52 = .ok (.iaload, 1) := by decide +kernel
theorem dX3_cellsIn_53 : decode cX3_cellsIn 53 = .ok (.ishl, 1) := by decide +kernel
theorem dX3_cellsIn_54 : decode cX3_cellsIn 54 = .ok (.ior, 1) := by decide +kernel
theorem dX3_cellsIn_55 : decode cX3_cellsIn 55 = .ok (.istore_n 2, 1) := by decide +kernel
theorem dX3_cellsIn_56 : decode cX3_cellsIn 56 = .ok (.iinc 5 1, 3) := by decide +kernel
theorem dX3_cellsIn_59 : decode cX3_cellsIn 59 = .ok (.goto (-39), 3) := by decide +kernel
theorem dX3_cellsIn_62 : decode cX3_cellsIn 62 = .ok (.iload_n 2, 1) := by decide +kernel
theorem dX3_cellsIn_63 : decode cX3_cellsIn 63 = .ok (.iload 4, 2) := by decide +kernel
theorem dX3_cellsIn_65 : decode cX3_cellsIn 65 = .ok (.if_icmp .ne 6, 3) := by decide +kernel
theorem dX3_cellsIn_68 : decode cX3_cellsIn 68 = .ok (.goto 9, 3) := by decide +kernel
theorem dX3_cellsIn_71 : decode cX3_cellsIn 71 = .ok (.iinc 3 1, 3) := by decide +kernel
theorem dX3_cellsIn_74 : decode cX3_cellsIn 74 = .ok (.goto (-68), 3) := by decide +kernel
theorem dX3_cellsIn_77 : decode cX3_cellsIn 77 = .ok (.iload_n 2, 1) := by decide +kernel
theorem dX3_cellsIn_78 : decode cX3_cellsIn 78 = .ok (.ireturn, 1) := by decide +kernel
theorem dX4_set_0 : decode cX4_set 0 = .ok (.aload_n 0, 1) := by decide +kernel
theorem dX4_set_1 : decode cX4_set 1 = .ok (.iload_n 1, 1) := by decide +kernel
theorem dX4_set_2 : decode cX4_set 2 = .ok (.iconst 4, 1) := by decide +kernel
theorem dX4_set_3 : decode cX4_set 3 = .ok (.if_icmp .lt 7, 3) := by decide +kernel
theorem dX4_set_6 : decode cX4_set 6 = .ok (.iconst 1, 1) := by decide +kernel
theorem dX4_set_7 : decode cX4_set 7 = .ok (.goto 4, 3) := by decide +kernel
theorem dX4_set_10 : decode cX4_set 10 = .ok (.iconst 0, 1) := by decide +kernel
theorem dX4_set_11 : decode cX4_set 11 = .ok (.putfield 7, 3) := by decide +kernel
theorem dX4_set_14 : decode cX4_set 14 = .ok (.aload_n 0, 1) := by decide +kernel
theorem dX4_set_15 : decode cX4_set 15 = .ok (.iload_n 1, 1) := by decide +kernel
theorem dX4_set_16 : decode cX4_set 16 = .ok (.iconst 3, 1) := by decide +kernel
theorem dX4_set_17 : decode cX4_set 17 = .ok (.iand, 1) := by decide +kernel
theorem dX4_set_18 : decode cX4_set 18 = .ok (.putfield 13, 3) := by decide +kernel
theorem dX4_set_21 : decode cX4_set 21 = .ok (.aload_n 0, 1) := by decide +kernel
theorem dX4_set_22 : decode cX4_set 22 = .ok (.iload_n 2, 1) := by decide +kernel
theorem dX4_set_23 : decode cX4_set 23 = .ok (.putfield 17, 3) := by decide +kernel
theorem dX4_set_26 : decode cX4_set 26 = .ok (.aload_n 0, 1) := by decide +kernel
theorem dX4_set_27 : decode cX4_set 27 = .ok (.iload_n 3, 1) := by decide +kernel
theorem dX4_set_28 : decode cX4_set 28 = .ok (.putfield 20, 3) := by decide +kernel
theorem dX4_set_31 : decode cX4_set 31 = .ok (.return_, 1) := by decide +kernel

abbrev mX3_cellsIn : sv_M := (cX3_cellsIn, 6, yX3_cellsIn, wsX3_cellsIn, (some .int), { frames := 0, cells := 0, slots := 0, locals := 0 }, [])
set_option maxHeartbeats 4000000 in
set_option maxRecDepth 100000 in
theorem l_cellsIn1 (G : sv_G) (Qr : Option Value → sv_h → Nat → Prop) (h : sv_h) (z ly nc pl : Nat) (p3 p4 : Nat → Nat) (fh fo : Nat → Int32) (po hd hs mo he nh : Nat) (k pn : Int32) (hly : h ly = some (.inr (1, [.int k, .int (nI nc), .ref po, .int pn, .ref hd, .ref hs, .ref mo, .int (nI pl), .ref he, .ref nh]))) (hh1 : ab_I G h hd 32 fh) (hh2 : ab_I G h hs 32 fo) (hpl : pl ≤ 32) (hnc : nc ≤ 16) (hpp : ∀ i, i < pl → fh i = nI (p3 i) ∧ fo i = nI (p4 i) ∧ p3 i < nc ∧ p4 i < nc) (cl : Nat) (y r3 : Int32) (hk : ∀ x : Int32, (∀ d, d < 16 → bt y d → bt x d) → (∀ j, j < pl → bt y (p3 j) → bt x (p4 j)) → (∀ d, d < 16 → bt x d → d < nc ∧ gr_R pl p3 p4 cl d) → (x = y ∨ cn (bb y) 16 < cn (bb x) 16) → ∀ w5 : Int32, V G mX3_cellsIn (sv_MQ G mX3_cellsIn Qr) 62 [(5, .int (w5)), (4, .int y), (3, .int r3), (2, .int x), (0, .ref ly), (1, .int (nI cl))] [] h z 0 0) : ∀ (c i : Nat) (x : Int32), i + c = pl → (∀ d, d < 16 → bt y d → bt x d) → (∀ j, j < i → bt y (p3 j) → bt x (p4 j)) → (∀ d, d < 16 → bt x d → d < nc ∧ gr_R pl p3 p4 cl d) → (x = y ∨ cn (bb y) 16 < cn (bb x) 16) → V G mX3_cellsIn (sv_MQ G mX3_cellsIn Qr) 20 [(5, .int (nI i)), (4, .int y), (3, .int r3), (2, .int x), (0, .ref ly), (1, .int (nI cl))] [] h z 0 0 := by
  intro c
  induction c with
  | zero =>
    intro i x hic k1 k2 k3 k4
    refine v_iload dX3_cellsIn_20 0 rfl ?_
    refine v_aload_n dX3_cellsIn_22 rfl 4 rfl ?_
    refine v_getf 7 (ci := 1) (C := RX3) (T := TX3) (N := 10) rfl iwX3_cellsIn_X3 (Nat.le_of_ble_eq_true rfl) (by decide +kernel) dX3_cellsIn_23 (by repeat (first | (with_reducible refine sv_us.trans ?_; exact rfl) | with_reducible assumption | with_reducible refine (sv_un (by omega)).trans ?_)) rfl ?_
    refine v_icmp_ge (tgt := 62) dX3_cellsIn_26 (by decide) (fun c_26 => ?_) (fun c_26 => ?_)
    · exact hk x k1 (fun j hj => k2 j (by omega)) k3 k4 _
    · exact absurd (show nI pl ≤ nI i from nI_le (by omega) (by omega)) c_26
  | succ c ih =>
    intro i x hic k1 k2 k3 k4
    refine v_iload dX3_cellsIn_20 0 rfl ?_
    refine v_aload_n dX3_cellsIn_22 rfl 4 rfl ?_
    refine v_getf 7 (ci := 1) (C := RX3) (T := TX3) (N := 10) rfl iwX3_cellsIn_X3 (Nat.le_of_ble_eq_true rfl) (by decide +kernel) dX3_cellsIn_23 (by repeat (first | (with_reducible refine sv_us.trans ?_; exact rfl) | with_reducible assumption | with_reducible refine (sv_un (by omega)).trans ?_)) rfl ?_
    refine v_icmp_ge (tgt := 62) dX3_cellsIn_26 (by decide) (fun c_26 => ?_) (fun c_26 => ?_)
    · exact absurd c_26 (nI_ge (by omega) (by omega))
    · refine v_iload_n dX3_cellsIn_29 rfl 3 rfl ?_
      refine v_aload_n dX3_cellsIn_30 rfl 4 rfl ?_
      refine v_getf 4 (ci := 1) (C := RX3) (T := TX3) (N := 10) rfl iwX3_cellsIn_X3 (Nat.le_of_ble_eq_true rfl) (by decide +kernel) dX3_cellsIn_31 (by repeat (first | (with_reducible refine sv_us.trans ?_; exact rfl) | with_reducible assumption | with_reducible refine (sv_un (by omega)).trans ?_)) rfl ?_
      refine v_iload dX3_cellsIn_34 0 rfl ?_
      refine v_ialdS (v := nI (p3 i)) dX3_cellsIn_36 (by repeat (first | (with_reducible refine sv_us.trans ?_; exact rfl) | with_reducible assumption | with_reducible refine (sv_un (by omega)).trans ?_)) (vp_in_nI (by omega) (by omega)) (by rw [nI_clamp (by omega)]; exact (hpp i (by omega)).1) ?_
      refine v_ishr dX3_cellsIn_37 ?_
      refine v_iconst (v := 1) dX3_cellsIn_38 (by decide) ?_
      refine v_iand dX3_cellsIn_39 ?_
      refine v_iconst (v := 1) dX3_cellsIn_40 (by decide) ?_
      refine v_icmp_ne (tgt := 56) dX3_cellsIn_41 (by decide) (fun c_41 => ?_) (fun c_41 => ?_)
      · refine v_iinc (j := 0) (L' := [(5, _), (4, _), (3, _), (2, _), (0, _), (1, _)]) (v := nI (i + 1)) dX3_cellsIn_56 rfl (nI_1 _) (Nat.le_of_ble_eq_true rfl) rfl ?_
        refine v_goto (tgt := 20) dX3_cellsIn_59 (by decide) ?_
        refine v_sub (L' := [(5, _), (4, _), (3, _), (2, _), (0, _), (1, _)]) [0, 1, 2, 3, 4, 5] rfl ?_
        have hpi := hpp i (by omega)
        have h3 : p3 i < 16 := by omega
        have h4 : p4 i < 16 := by omega
        first
        | (have c9 : ¬ bt x (p3 i) := c_41
           refine ih (i + 1) x (by omega) k1 (fun j hj hb => ?_) k3 k4
           by_cases e : j = i
           · rw [e] at hb; exact absurd (k1 _ h3 hb) c9
           · exact k2 j (by omega) hb)
        | (have c9 : bt x (p3 i) := c_41
           refine ih (i + 1) _ (by omega) (fun d hd hb => (bt_or hd).mpr (Or.inl (k1 d hd hb))) (fun j hj hb => ?_) (fun d hd hb => ?_) ?_
           · by_cases e : j = i
             · rw [e]; exact (bt_or h4).mpr (Or.inr ((bt_1 h4 h4).mpr rfl))
             · exact (bt_or (by have := hpp j (by omega); omega)).mpr (Or.inl (k2 j (by omega) hb))
           · rcases (bt_or hd).mp hb with q | q
             · exact k3 d hd q
             · rw [(bt_1 hd h4).mp q]; exact ⟨hpi.2.2.2, (k3 _ h3 c9).2.st (by omega)⟩
           · by_cases e : bt x (p4 i)
             · rw [bt_same h4 e]; exact k4
             · refine Or.inr ?_
               have q1 : cn (bb x) 16 < cn (bb (x ||| (1 <<< (nI (p4 i) &&& 31)))) 16 := cn_lt 16 (fun d hd q => bb_t.mpr ((bt_or hd).mpr (Or.inl (bb_t.mp q)))) ⟨p4 i, h4, bb_t.mpr ((bt_or h4).mpr (Or.inr ((bt_1 h4 h4).mpr rfl))), fun q => e (bb_t.mp q)⟩
               rcases k4 with q | q
               · rw [← q]; exact q1
               · exact Nat.lt_trans q q1)
      · refine v_iload_n dX3_cellsIn_44 rfl 3 rfl ?_
        refine v_iconst (v := 1) dX3_cellsIn_45 (by decide) ?_
        refine v_aload_n dX3_cellsIn_46 rfl 4 rfl ?_
        refine v_getf 5 (ci := 1) (C := RX3) (T := TX3) (N := 10) rfl iwX3_cellsIn_X3 (Nat.le_of_ble_eq_true rfl) (by decide +kernel) dX3_cellsIn_47 (by repeat (first | (with_reducible refine sv_us.trans ?_; exact rfl) | with_reducible assumption | with_reducible refine (sv_un (by omega)).trans ?_)) rfl ?_
        refine v_iload dX3_cellsIn_50 0 rfl ?_
        refine v_ialdS (v := nI (p4 i)) dX3_cellsIn_52 (by repeat (first | (with_reducible refine sv_us.trans ?_; exact rfl) | with_reducible assumption | with_reducible refine (sv_un (by omega)).trans ?_)) (vp_in_nI (by omega) (by omega)) (by rw [nI_clamp (by omega)]; exact (hpp i (by omega)).2.1) ?_
        refine v_ishl dX3_cellsIn_53 ?_
        refine v_ior dX3_cellsIn_54 ?_
        refine v_istore_n (L' := [(2, _), (5, _), (4, _), (3, _), (0, _), (1, _)]) dX3_cellsIn_55 rfl (Nat.le_of_ble_eq_true rfl) rfl ?_
        refine v_iinc (j := 1) (L' := [(5, _), (2, _), (4, _), (3, _), (0, _), (1, _)]) (v := nI (i + 1)) dX3_cellsIn_56 rfl (nI_1 _) (Nat.le_of_ble_eq_true rfl) rfl ?_
        refine v_goto (tgt := 20) dX3_cellsIn_59 (by decide) ?_
        refine v_sub (L' := [(5, _), (4, _), (3, _), (2, _), (0, _), (1, _)]) [0, 2, 3, 1, 4, 5] rfl ?_
        have hpi := hpp i (by omega)
        have h3 : p3 i < 16 := by omega
        have h4 : p4 i < 16 := by omega
        first
        | (have c9 : ¬ bt x (p3 i) := c_41
           refine ih (i + 1) x (by omega) k1 (fun j hj hb => ?_) k3 k4
           by_cases e : j = i
           · rw [e] at hb; exact absurd (k1 _ h3 hb) c9
           · exact k2 j (by omega) hb)
        | (have c9 : bt x (p3 i) := c_41
           refine ih (i + 1) _ (by omega) (fun d hd hb => (bt_or hd).mpr (Or.inl (k1 d hd hb))) (fun j hj hb => ?_) (fun d hd hb => ?_) ?_
           · by_cases e : j = i
             · rw [e]; exact (bt_or h4).mpr (Or.inr ((bt_1 h4 h4).mpr rfl))
             · exact (bt_or (by have := hpp j (by omega); omega)).mpr (Or.inl (k2 j (by omega) hb))
           · rcases (bt_or hd).mp hb with q | q
             · exact k3 d hd q
             · rw [(bt_1 hd h4).mp q]; exact ⟨hpi.2.2.2, (k3 _ h3 c9).2.st (by omega)⟩
           · by_cases e : bt x (p4 i)
             · rw [bt_same h4 e]; exact k4
             · refine Or.inr ?_
               have q1 : cn (bb x) 16 < cn (bb (x ||| (1 <<< (nI (p4 i) &&& 31)))) 16 := cn_lt 16 (fun d hd q => bb_t.mpr ((bt_or hd).mpr (Or.inl (bb_t.mp q)))) ⟨p4 i, h4, bb_t.mpr ((bt_or h4).mpr (Or.inr ((bt_1 h4 h4).mpr rfl))), fun q => e (bb_t.mp q)⟩
               rcases k4 with q | q
               · rw [← q]; exact q1
               · exact Nat.lt_trans q q1)

set_option maxHeartbeats 4000000 in
set_option maxRecDepth 100000 in
theorem l_cellsIn2 (G : sv_G) (h : sv_h) (z ly nc pl : Nat) (p3 p4 : Nat → Nat) (fh fo : Nat → Int32) (po hd hs mo he nh : Nat) (k pn : Int32) (hly : h ly = some (.inr (1, [.int k, .int (nI nc), .ref po, .int pn, .ref hd, .ref hs, .ref mo, .int (nI pl), .ref he, .ref nh]))) (hh1 : ab_I G h hd 32 fh) (hh2 : ab_I G h hs 32 fo) (hpl : pl ≤ 32) (hnc : nc ≤ 16) (hpp : ∀ i, i < pl → fh i = nI (p3 i) ∧ fo i = nI (p4 i) ∧ p3 i < nc ∧ p4 i < nc) (cl : Nat) (hcl : cl < nc) : ∀ (c r : Nat) (x : Int32), r + c = nc → (∀ d, d < 16 → bt x d → d < nc ∧ gr_R pl p3 p4 cl d) → bt x cl → r + 1 ≤ cn (bb x) 16 → V G mX3_cellsIn (sv_MQ G mX3_cellsIn (fun v h1 z1 => (∃ x : Int32, v = some (.int x) ∧ ∀ d, d < 16 → (bt x d ↔ gr_R pl p3 p4 cl d)) ∧ h1 = h ∧ z1 = z)) 6 [(3, .int (nI r)), (2, .int x), (0, .ref ly), (1, .int (nI cl))] [] h z 0 0 := by
  intro c
  induction c with
  | zero =>
    intro r x hrc k1 k2 k3
    exfalso
    have q : cn (fun d => decide (d < 16) && bb x d) 16 ≤ nc := cn_bd (fun d hd => by
      simp only [Bool.and_eq_true, decide_eq_true_eq] at hd
      exact (k1 d hd.1 (bb_t.mp hd.2)).1) 16
    have q2 : cn (bb x) 16 ≤ cn (fun d => decide (d < 16) && bb x d) 16 := cn_mono 16 (fun d hd hb => by simp [hd, hb])
    omega
  | succ c ih =>
    intro r x hrc k1 k2 k3
    refine v_iload_n dX3_cellsIn_6 rfl 0 rfl ?_
    refine v_aload_n dX3_cellsIn_7 rfl 2 rfl ?_
    refine v_getf 1 (ci := 1) (C := RX3) (T := TX3) (N := 10) rfl iwX3_cellsIn_X3 (Nat.le_of_ble_eq_true rfl) (by decide +kernel) dX3_cellsIn_8 (by repeat (first | (with_reducible refine sv_us.trans ?_; exact rfl) | with_reducible assumption | with_reducible refine (sv_un (by omega)).trans ?_)) rfl ?_
    refine v_icmp_ge (tgt := 77) dX3_cellsIn_11 (by decide) (fun c_11 => ?_) (fun c_11 => ?_)
    · exact absurd c_11 (nI_ge (by omega) (by omega))
    · refine v_iload_n dX3_cellsIn_14 rfl 1 rfl ?_
      refine v_istore (L' := [(4, _), (3, _), (2, _), (0, _), (1, _)]) dX3_cellsIn_15 (Nat.le_of_ble_eq_true rfl) rfl ?_
      refine v_iconst (v := 0) dX3_cellsIn_17 (by decide) ?_
      refine v_istore (L' := [(5, _), (4, _), (3, _), (2, _), (0, _), (1, _)]) dX3_cellsIn_18 (Nat.le_of_ble_eq_true rfl) rfl ?_
      refine v_sub (L' := [(5, _), (4, _), (3, _), (2, _), (0, _), (1, _)]) [0, 1, 2, 3, 4, 5] rfl ?_
      refine l_cellsIn1 G _ h z ly nc pl p3 p4 fh fo po hd hs mo he nh k pn hly hh1 hh2 hpl hnc hpp cl x _ (fun x2 j1 j2 j3 j4 w5 => ?_) pl 0 x (by omega) (fun _ _ q => q) (fun j hj => absurd hj (Nat.not_lt_zero j)) k1 (Or.inl rfl)
      refine v_iload_n dX3_cellsIn_62 rfl 3 rfl ?_
      refine v_iload dX3_cellsIn_63 1 rfl ?_
      refine v_icmp_ne (tgt := 71) dX3_cellsIn_65 (by decide) (fun c_65 => ?_) (fun c_65 => ?_)
      · refine v_iinc (j := 2) (L' := [(3, _), (5, _), (4, _), (2, _), (0, _), (1, _)]) (v := nI (r + 1)) dX3_cellsIn_71 rfl (nI_1 _) (Nat.le_of_ble_eq_true rfl) rfl ?_
        refine v_goto (tgt := 6) dX3_cellsIn_74 (by decide) ?_
        refine v_sub (L' := [(3, _), (2, _), (0, _), (1, _)]) [0, 3, 4, 5] rfl ?_
        exact ih (r + 1) x2 (by omega) j3 (j1 cl (by omega) k2) (by have q := j4.resolve_left c_65; omega)
      · refine v_goto (tgt := 77) dX3_cellsIn_68 (by decide) ?_
        refine v_iload_n dX3_cellsIn_77 rfl 3 rfl ?_
        exact v_iret rfl dX3_cellsIn_78 (Nat.le_of_ble_eq_true rfl) (Nat.le_of_ble_eq_true rfl) rfl ⟨⟨x2, rfl, fun d hd => ⟨fun q => (j3 d hd q).2, fun q => (q (fun e => e < 16 ∧ bt x2 e) ⟨by omega, j1 cl (by omega) k2⟩ (fun i hi e => ⟨by have := hpp i hi; omega, j2 i hi (by rw [← c_65]; exact e.2)⟩)).2⟩⟩, rfl, rfl⟩

set_option maxHeartbeats 4000000 in
set_option maxRecDepth 100000 in
theorem c_cellsIn (G : sv_G) (h : sv_h) (z ly nc pl : Nat) (p3 p4 : Nat → Nat) (fh fo : Nat → Int32) (po hd hs mo he nh : Nat) (k pn : Int32) (hly : h ly = some (.inr (1, [.int k, .int (nI nc), .ref po, .int pn, .ref hd, .ref hs, .ref mo, .int (nI pl), .ref he, .ref nh]))) (hh1 : ab_I G h hd 32 fh) (hh2 : ab_I G h hs 32 fo) (hpl : pl ≤ 32) (hnc : nc ≤ 16) (hpp : ∀ i, i < pl → fh i = nI (p3 i) ∧ fo i = nI (p4 i) ∧ p3 i < nc ∧ p4 i < nc) (cl : Nat) (hcl : cl < nc) : CT G mX3_cellsIn [.ref ly, .int (nI cl)] h z (fun v h1 z1 => (∃ x : Int32, v = some (.int x) ∧ ∀ d, d < 16 → (bt x d ↔ gr_R pl p3 p4 cl d)) ∧ h1 = h ∧ z1 = z) := by
  refine CT.of (by decide +kernel) rfl rfl (Nat.le_of_ble_eq_true rfl) ?_
  refine v_iconst (v := 1) dX3_cellsIn_0 (by decide) ?_
  refine v_iload_n dX3_cellsIn_1 rfl 1 rfl ?_
  refine v_ishl dX3_cellsIn_2 ?_
  refine v_istore_n (L' := [(2, _), (0, _), (1, _)]) dX3_cellsIn_3 rfl (Nat.le_of_ble_eq_true rfl) rfl ?_
  refine v_iconst (v := 0) dX3_cellsIn_4 (by decide) ?_
  refine v_istore_n (L' := [(3, _), (2, _), (0, _), (1, _)]) dX3_cellsIn_5 rfl (Nat.le_of_ble_eq_true rfl) rfl ?_
  refine v_sub (L' := [(3, _), (2, _), (0, _), (1, _)]) [0, 1, 2, 3] rfl ?_
  refine l_cellsIn2 G h z ly nc pl p3 p4 fh fo po hd hs mo he nh k pn hly hh1 hh2 hpl hnc hpp cl hcl nc 0 _ (by omega) (fun d hd q => ?_) ((bt_1 (by omega) (by omega)).mpr rfl) ?_
  · rw [(bt_1 hd (by omega)).mp q]; exact ⟨hcl, gr_R.rf⟩
  · have q : cn (fun _ => false) 16 < cn (bb (1 <<< (nI cl &&& 31))) 16 := cn_lt 16 (fun d hd q => absurd q (by decide)) ⟨cl, by omega, bb_t.mpr ((bt_1 (by omega) (by omega)).mpr rfl), by decide⟩
    omega

abbrev mX3_isWithin : sv_M := (cX3_isWithin, 3, yX3_isWithin, wsX3_isWithin, (some .boolean), { frames := 1, cells := 0, slots := 0, locals := 25 }, [])
set_option maxHeartbeats 4000000 in
set_option maxRecDepth 100000 in
theorem c_isWithin (G : sv_G) (h : sv_h) (z ly nc pl : Nat) (p3 p4 : Nat → Nat) (fh fo : Nat → Int32) (po hd hs mo he nh : Nat) (k pn : Int32) (hly : h ly = some (.inr (1, [.int k, .int (nI nc), .ref po, .int pn, .ref hd, .ref hs, .ref mo, .int (nI pl), .ref he, .ref nh]))) (hh1 : ab_I G h hd 32 fh) (hh2 : ab_I G h hs 32 fo) (hpl : pl ≤ 32) (hnc : nc ≤ 16) (hpp : ∀ i, i < pl → fh i = nI (p3 i) ∧ fo i = nI (p4 i) ∧ p3 i < nc ∧ p4 i < nc) (c1 cl : Nat) (hc1 : c1 < nc) (hcl : cl < nc) : CT G mX3_isWithin [.ref ly, .int (nI c1), .int (nI cl)] h z (fun v h1 z1 => (∃ w : Int32, v = some (.int w) ∧ ((w = 1 ∧ gr_R pl p3 p4 cl c1) ∨ (w = 0 ∧ ¬ gr_R pl p3 p4 cl c1))) ∧ h1 = h ∧ z1 = z) := by
  refine CT.of (by decide +kernel) rfl rfl (Nat.le_of_ble_eq_true rfl) ?_
  refine v_aload_n dX3_isWithin_0 rfl 0 rfl ?_
  refine v_iload_n dX3_isWithin_1 rfl 2 rfl ?_
  refine v_callV (M' := mX3_cellsIn) (n := 1) (As := [_]) (ci := 1) (r := (RX3, TX3, 10)) gX3_isWithin_X3_cellsIn rfl (by decide +kernel) ⟨(Nat.le_of_ble_eq_true rfl), (Nat.le_of_ble_eq_true rfl)⟩ rfl rfl dX3_isWithin_2 rfl ⟨(Nat.le_of_ble_eq_true rfl), (Nat.le_of_ble_eq_true rfl)⟩ (Nat.le_of_ble_eq_true rfl) (by repeat (first | (with_reducible refine sv_us.trans ?_; exact rfl) | with_reducible assumption | with_reducible refine (sv_un (by omega)).trans ?_)) rfl (c_cellsIn G h z ly nc pl p3 p4 fh fo po hd hs mo he nh k pn hly hh1 hh2 hpl hnc hpp cl hcl) (fun v h1 z1 hq => ?_)
  obtain ⟨⟨x, rfl, hx⟩, rfl, rfl⟩ := hq
  refine v_iload_n dX3_isWithin_5 rfl 1 rfl ?_
  refine v_ishr dX3_isWithin_6 ?_
  refine v_iconst (v := 1) dX3_isWithin_7 (by decide) ?_
  refine v_iand dX3_isWithin_8 ?_
  refine v_iconst (v := 1) dX3_isWithin_9 (by decide) ?_
  refine v_icmp_ne (tgt := 17) dX3_isWithin_10 (by decide) (fun c_10 => ?_) (fun c_10 => ?_)
  · refine v_iconst (v := 0) dX3_isWithin_17 (by decide) ?_
    exact v_iret rfl dX3_isWithin_18 (Nat.le_of_ble_eq_true rfl) (Nat.le_of_ble_eq_true rfl) rfl ⟨⟨_, rfl, by first | exact Or.inl ⟨rfl, (hx c1 (by omega)).mp c_10⟩ | exact Or.inr ⟨rfl, fun q => c_10 ((hx c1 (by omega)).mpr q)⟩⟩, rfl, rfl⟩
  · refine v_iconst (v := 1) dX3_isWithin_13 (by decide) ?_
    refine v_goto (tgt := 18) dX3_isWithin_14 (by decide) ?_
    exact v_iret rfl dX3_isWithin_18 (Nat.le_of_ble_eq_true rfl) (Nat.le_of_ble_eq_true rfl) rfl ⟨⟨_, rfl, by first | exact Or.inl ⟨rfl, (hx c1 (by omega)).mp c_10⟩ | exact Or.inr ⟨rfl, fun q => c_10 ((hx c1 (by omega)).mpr q)⟩⟩, rfl, rfl⟩

abbrev mX4_set : sv_M := (cX4_set, 4, yX4_set, wsX4_set, none, { frames := 0, cells := 0, slots := 0, locals := 0 }, [])
set_option maxHeartbeats 4000000 in
set_option maxRecDepth 100000 in
theorem c_Move_set (G : sv_G) (h : sv_h) (z q : Nat) (tu x y a0 a1 a2 a3 : Int32) (hq0 : h q = some (.inr (2, [.int a0, .int a1, .int a2, .int a3]))) : CT G mX4_set [.ref q, .int tu, .int x, .int y] h z (fun v h1 z1 => v = none ∧ h1 = va_up h q (some (.inr (2, [.int (if tu < 4 then 0 else 1), .int (tu &&& 3), .int x, .int y]))) ∧ z1 = z) := by
  refine CT.of (by decide +kernel) rfl rfl (Nat.le_of_ble_eq_true rfl) ?_
  refine v_aload_n dX4_set_0 rfl 0 rfl ?_
  refine v_iload_n dX4_set_1 rfl 1 rfl ?_
  refine v_iconst (v := 4) dX4_set_2 (by decide) ?_
  refine v_icmp_lt (tgt := 10) dX4_set_3 (by decide) (fun c_3 => ?_) (fun c_3 => ?_)
  · refine v_iconst (v := 0) dX4_set_10 (by decide) ?_
    refine v_putf 0 (fs' := [_, _, _, _]) (ci := 2) (C := RX4) (T := TX4) (N := 4) (ty := .boolean) rfl iwX4_set_X4 tyX4 tyX4_ok nmX4 (Nat.le_of_ble_eq_true rfl) (by decide +kernel) rfl rfl dX4_set_11 rfl rfl (by repeat (first | (with_reducible refine sv_us.trans ?_; exact rfl) | with_reducible assumption | with_reducible refine (sv_un (by omega)).trans ?_)) (Nat.le_of_ble_eq_true rfl) rfl ?_
    refine v_aload_n dX4_set_14 rfl 0 rfl ?_
    refine v_iload_n dX4_set_15 rfl 1 rfl ?_
    refine v_iconst (v := 3) dX4_set_16 (by decide) ?_
    refine v_iand dX4_set_17 ?_
    refine v_putf 1 (fs' := [_, _, _, _]) (ci := 2) (C := RX4) (T := TX4) (N := 4) (ty := .int) rfl iwX4_set_X4 tyX4 tyX4_ok nmX4 (Nat.le_of_ble_eq_true rfl) (by decide +kernel) rfl rfl dX4_set_18 rfl rfl (by repeat (first | (with_reducible refine sv_us.trans ?_; exact rfl) | with_reducible assumption | with_reducible refine (sv_un (by omega)).trans ?_)) (Nat.le_of_ble_eq_true rfl) rfl ?_
    refine v_aload_n dX4_set_21 rfl 0 rfl ?_
    refine v_iload_n dX4_set_22 rfl 2 rfl ?_
    refine v_putf 2 (fs' := [_, _, _, _]) (ci := 2) (C := RX4) (T := TX4) (N := 4) (ty := .int) rfl iwX4_set_X4 tyX4 tyX4_ok nmX4 (Nat.le_of_ble_eq_true rfl) (by decide +kernel) rfl rfl dX4_set_23 rfl rfl (by repeat (first | (with_reducible refine sv_us.trans ?_; exact rfl) | with_reducible assumption | with_reducible refine (sv_un (by omega)).trans ?_)) (Nat.le_of_ble_eq_true rfl) rfl ?_
    refine v_aload_n dX4_set_26 rfl 0 rfl ?_
    refine v_iload_n dX4_set_27 rfl 3 rfl ?_
    refine v_putf 3 (fs' := [_, _, _, _]) (ci := 2) (C := RX4) (T := TX4) (N := 4) (ty := .int) rfl iwX4_set_X4 tyX4 tyX4_ok nmX4 (Nat.le_of_ble_eq_true rfl) (by decide +kernel) rfl rfl dX4_set_28 rfl rfl (by repeat (first | (with_reducible refine sv_us.trans ?_; exact rfl) | with_reducible assumption | with_reducible refine (sv_un (by omega)).trans ?_)) (Nat.le_of_ble_eq_true rfl) rfl ?_
    exact v_ret rfl dX4_set_31 (Nat.le_of_ble_eq_true rfl) (Nat.le_of_ble_eq_true rfl) ⟨rfl, by first | (rw [if_pos c_3]; simp only [sv_uu, List.set]) | (rw [if_neg c_3]; simp only [sv_uu, List.set]), rfl⟩
  · refine v_iconst (v := 1) dX4_set_6 (by decide) ?_
    refine v_goto (tgt := 11) dX4_set_7 (by decide) ?_
    refine v_putf 0 (fs' := [_, _, _, _]) (ci := 2) (C := RX4) (T := TX4) (N := 4) (ty := .boolean) rfl iwX4_set_X4 tyX4 tyX4_ok nmX4 (Nat.le_of_ble_eq_true rfl) (by decide +kernel) rfl rfl dX4_set_11 rfl rfl (by repeat (first | (with_reducible refine sv_us.trans ?_; exact rfl) | with_reducible assumption | with_reducible refine (sv_un (by omega)).trans ?_)) (Nat.le_of_ble_eq_true rfl) rfl ?_
    refine v_aload_n dX4_set_14 rfl 0 rfl ?_
    refine v_iload_n dX4_set_15 rfl 1 rfl ?_
    refine v_iconst (v := 3) dX4_set_16 (by decide) ?_
    refine v_iand dX4_set_17 ?_
    refine v_putf 1 (fs' := [_, _, _, _]) (ci := 2) (C := RX4) (T := TX4) (N := 4) (ty := .int) rfl iwX4_set_X4 tyX4 tyX4_ok nmX4 (Nat.le_of_ble_eq_true rfl) (by decide +kernel) rfl rfl dX4_set_18 rfl rfl (by repeat (first | (with_reducible refine sv_us.trans ?_; exact rfl) | with_reducible assumption | with_reducible refine (sv_un (by omega)).trans ?_)) (Nat.le_of_ble_eq_true rfl) rfl ?_
    refine v_aload_n dX4_set_21 rfl 0 rfl ?_
    refine v_iload_n dX4_set_22 rfl 2 rfl ?_
    refine v_putf 2 (fs' := [_, _, _, _]) (ci := 2) (C := RX4) (T := TX4) (N := 4) (ty := .int) rfl iwX4_set_X4 tyX4 tyX4_ok nmX4 (Nat.le_of_ble_eq_true rfl) (by decide +kernel) rfl rfl dX4_set_23 rfl rfl (by repeat (first | (with_reducible refine sv_us.trans ?_; exact rfl) | with_reducible assumption | with_reducible refine (sv_un (by omega)).trans ?_)) (Nat.le_of_ble_eq_true rfl) rfl ?_
    refine v_aload_n dX4_set_26 rfl 0 rfl ?_
    refine v_iload_n dX4_set_27 rfl 3 rfl ?_
    refine v_putf 3 (fs' := [_, _, _, _]) (ci := 2) (C := RX4) (T := TX4) (N := 4) (ty := .int) rfl iwX4_set_X4 tyX4 tyX4_ok nmX4 (Nat.le_of_ble_eq_true rfl) (by decide +kernel) rfl rfl dX4_set_28 rfl rfl (by repeat (first | (with_reducible refine sv_us.trans ?_; exact rfl) | with_reducible assumption | with_reducible refine (sv_un (by omega)).trans ?_)) (Nat.le_of_ble_eq_true rfl) rfl ?_
    exact v_ret rfl dX4_set_31 (Nat.le_of_ble_eq_true rfl) (Nat.le_of_ble_eq_true rfl) ⟨rfl, by first | (rw [if_pos c_3]; simp only [sv_uu, List.set]) | (rw [if_neg c_3]; simp only [sv_uu, List.set]), rfl⟩

