theorem iwX6_takeWord_X6 : ∀ w ∈ wsX60, w ∈ wsX6_takeWord := by decide +kernel
theorem iwX6_takeWord_X9 : ∀ w ∈ wsX90, w ∈ wsX6_takeWord := by decide +kernel
theorem iwX6_takeKind_X7 : ∀ w ∈ wsX70, w ∈ wsX6_takeKind := by decide +kernel
set_option maxRecDepth 20000 in
theorem ggX6_takeKind_X6_takeWord : GoodIn wsX6_takeKind wsX6_takeWord := goodIn_r _ [7, 8, 9, 10, 11, 12, 13, 14, 15, 16, 17, 18, 19, 20, 21, 22, 23, 24, 25, 26, 27, 28, 29, 30, 31, 32, 33, 34, 35, 36, 37, 38, 39, 40, 41, 42, 43, 44, 45, 46, 47, 48, 49, 50, 51, 52, 53, 54, 55, 56, 57, 58, 59, 60, 61, 62, 63, 64, 6, 65, 66, 67, 68, 69, 70, 71, 72, 73, 74, 75, 84, 85, 86, 87, 88, 89, 90, 91, 92, 93, 94] (by decide +kernel) (by decide +kernel)
set_option maxRecDepth 20000 in
theorem gX6_takeKind_X6_takeWord : GoodIn wsX6_takeKind (wsV RX6 80 RX6 yX6_takeWord wsX6_takeWord) := goodIn_app (goodIn_of _ (by decide +kernel)) ggX6_takeKind_X6_takeWord
theorem dX6_takeKind_0 : decode cX6_takeKind 0 = .ok (.iconst 0, 1) := by decide +kernel
theorem dX6_takeKind_1 : decode cX6_takeKind 1 = .ok (.istore_n 2, 1) := by decide +kernel
theorem dX6_takeKind_2 : decode cX6_takeKind 2 = .ok (.iload_n 2, 1) := by decide +kernel
theorem dX6_takeKind_3 : decode cX6_takeKind 3 = .ok (.getstatic 71, 3) := by decide +kernel
theorem dX6_takeKind_6 : decode cX6_takeKind 6 = .ok (.arraylength, 1) := by decide +kernel
theorem dX6_takeKind_7 : decode cX6_takeKind 7 = .ok (.if_icmp .ge 35, 3) := by decide +kernel
theorem dX6_takeKind_10 : decode cX6_takeKind 10 = .ok (.aload_n 0, 1) := by decide +kernel
theorem dX6_takeKind_11 : decode cX6_takeKind 11 = .ok (.getstatic 71, 3) := by decide +kernel
theorem dX6_takeKind_14 : decode cX6_takeKind 14 = .ok (.iload_n 2, 1) := by decide +kernel
theorem dX6_takeKind_15 : decode cX6_takeKind 15 = .ok (.aaload, 1) := by decide +kernel
theorem dX6_takeKind_16 : decode cX6_takeKind 16 = .ok (.getfield 77, 3) := by decide +kernel
theorem dX6_takeKind_19 : decode cX6_takeKind 19 = .ok (.invokevirtual 80, 3) := by decide +kernel
theorem dX6_takeKind_22 : decode cX6_takeKind 22 = .ok (.ifCond .eq 14, 3) := by decide +kernel
theorem dX6_takeKind_25 : decode cX6_takeKind 25 = .ok (.aload_n 1, 1) := by decide +kernel
theorem dX6_takeKind_26 : decode cX6_takeKind 26 = .ok (.getstatic 71, 3) := by decide +kernel
theorem dX6_takeKind_29 : decode cX6_takeKind 29 = .ok (.iload_n 2, 1) := by decide +kernel
theorem dX6_takeKind_30 : decode cX6_takeKind 30 = .ok (.aaload, 1) := by decide +kernel
theorem dX6_takeKind_31 : decode cX6_takeKind 31 = .ok (.putfield 84, 3) := by decide +kernel
theorem dX6_takeKind_34 : decode cX6_takeKind 34 = .ok (.iconst 1, 1) := by decide +kernel
theorem dX6_takeKind_35 : decode cX6_takeKind 35 = .ok (.ireturn, 1) := by decide +kernel
theorem dX6_takeKind_36 : decode cX6_takeKind 36 = .ok (.iinc 2 1, 3) := by decide +kernel
theorem dX6_takeKind_39 : decode cX6_takeKind 39 = .ok (.goto (-37), 3) := by decide +kernel
theorem dX6_takeKind_42 : decode cX6_takeKind 42 = .ok (.iconst 0, 1) := by decide +kernel
theorem dX6_takeKind_43 : decode cX6_takeKind 43 = .ok (.ireturn, 1) := by decide +kernel
set_option maxRecDepth 20000 in
theorem ggX6_takeWord_J0_length_8abf5 : GoodIn wsX6_takeWord wsJ0_length_8abf5 := goodIn_r _ [10, 11, 12, 13, 14, 9, 15, 16, 17] (by decide +kernel) (by decide +kernel)
set_option maxRecDepth 20000 in
theorem gX6_takeWord_J0_length_8abf5 : GoodIn wsX6_takeWord (wsV RX6 91 RJ0 yJ0_length_8abf5 wsJ0_length_8abf5) := goodIn_app (goodIn_of _ (by decide +kernel)) ggX6_takeWord_J0_length_8abf5
set_option maxRecDepth 20000 in
theorem ggX6_takeWord_J0_charAt_5068e : GoodIn wsX6_takeWord wsJ0_charAt_5068e := goodIn_r _ [21, 11, 22, 23, 24, 9, 25, 16, 17, 26, 27, 28, 29, 30, 31, 32, 33, 34, 35, 36, 37, 38, 39, 40, 41, 42, 43, 44, 45, 46, 47, 48, 49, 50, 51, 52, 53, 54] (by decide +kernel) (by decide +kernel)
set_option maxRecDepth 20000 in
theorem gX6_takeWord_J0_charAt_5068e : GoodIn wsX6_takeWord (wsV RX6 103 RJ0 yJ0_charAt_5068e wsJ0_charAt_5068e) := goodIn_app (goodIn_of _ (by decide +kernel)) ggX6_takeWord_J0_charAt_5068e
set_option maxRecDepth 20000 in
theorem ggX6_takeWord_X6_step : GoodIn wsX6_takeWord wsX6_step := goodIn_r _ [59, 60, 2, 4, 61, 5, 3, 62, 1, 63, 64, 58, 65, 66, 67, 68, 69, 70, 71, 72, 73, 74, 75, 76, 77, 78, 79, 80] (by decide +kernel) (by decide +kernel)
set_option maxRecDepth 20000 in
theorem gX6_takeWord_X6_step : GoodIn wsX6_takeWord (wsV RX6 35 RX6 yX6_step wsX6_step) := goodIn_app (goodIn_of _ (by decide +kernel)) ggX6_takeWord_X6_step
theorem dX6_takeWord_0 : decode cX6_takeWord 0 = .ok (.aload_n 0, 1) := by decide +kernel
theorem dX6_takeWord_1 : decode cX6_takeWord 1 = .ok (.getfield 61, 3) := by decide +kernel
theorem dX6_takeWord_4 : decode cX6_takeWord 4 = .ok (.iconst 2, 1) := by decide +kernel
theorem dX6_takeWord_5 : decode cX6_takeWord 5 = .ok (.if_icmp .ne 19, 3) := by decide +kernel
theorem dX6_takeWord_8 : decode cX6_takeWord 8 = .ok (.aload_n 0, 1) := by decide +kernel
theorem dX6_takeWord_9 : decode cX6_takeWord 9 = .ok (.getfield 29, 3) := by decide +kernel
theorem dX6_takeWord_12 : decode cX6_takeWord 12 = .ok (.aload_n 0, 1) := by decide +kernel
theorem dX6_takeWord_13 : decode cX6_takeWord 13 = .ok (.getfield 88, 3) := by decide +kernel
theorem dX6_takeWord_16 : decode cX6_takeWord 16 = .ok (.isub, 1) := by decide +kernel
theorem dX6_takeWord_17 : decode cX6_takeWord 17 = .ok (.aload_n 1, 1) := by decide +kernel
theorem dX6_takeWord_18 : decode cX6_takeWord 18 = .ok (.invokevirtual 91, 3) := by decide +kernel
theorem dX6_takeWord_21 : decode cX6_takeWord 21 = .ok (.if_icmp .eq 5, 3) := by decide +kernel
theorem dX6_takeWord_24 : decode cX6_takeWord 24 = .ok (.iconst 0, 1) := by decide +kernel
theorem dX6_takeWord_25 : decode cX6_takeWord 25 = .ok (.ireturn, 1) := by decide +kernel
theorem dX6_takeWord_26 : decode cX6_takeWord 26 = .ok (.iconst 0, 1) := by decide +kernel
theorem dX6_takeWord_27 : decode cX6_takeWord 27 = .ok (.istore_n 2, 1) := by decide +kernel
theorem dX6_takeWord_28 : decode cX6_takeWord 28 = .ok (.iload_n 2, 1) := by decide +kernel
theorem dX6_takeWord_29 : decode cX6_takeWord 29 = .ok (.aload_n 1, 1) := by decide +kernel
theorem dX6_takeWord_30 : decode cX6_takeWord 30 = .ok (.invokevirtual 91, 3) := by decide +kernel
theorem dX6_takeWord_33 : decode cX6_takeWord 33 = .ok (.if_icmp .ge 33, 3) := by decide +kernel
theorem dX6_takeWord_36 : decode cX6_takeWord 36 = .ok (.aload_n 0, 1) := by decide +kernel
theorem dX6_takeWord_37 : decode cX6_takeWord 37 = .ok (.getfield 9, 3) := by decide +kernel
theorem dX6_takeWord_40 : decode cX6_takeWord 40 = .ok (.getfield 97, 3) := by decide +kernel
theorem dX6_takeWord_43 : decode cX6_takeWord 43 = .ok (.aload_n 0, 1) := by decide +kernel
theorem dX6_takeWord_44 : decode cX6_takeWord 44 = .ok (.getfield 88, 3) := by decide +kernel
theorem dX6_takeWord_47 : decode cX6_takeWord 47 = .ok (.iload_n 2, 1) := by decide +kernel
theorem dX6_takeWord_48 : decode cX6_takeWord 48 = .ok (.iadd, 1) := by decide +kernel
theorem dX6_takeWord_49 : decode cX6_takeWord 49 = .ok (.iaload, 1) := by decide +kernel
theorem dX6_takeWord_50 : decode cX6_takeWord 50 = .ok (.aload_n 1, 1) := by decide +kernel
theorem dX6_takeWord_51 : decode cX6_takeWord 51 = .ok (.iload_n 2, 1) := by decide +kernel
theorem dX6_takeWord_52 : decode cX6_takeWord 52 = .ok (.invokevirtual 103, 3) := by decide +kernel
theorem dX6_takeWord_55 : decode cX6_takeWord 55 = .ok (.if_icmp .eq 5, 3) := by decide +kernel
theorem dX6_takeWord_58 : decode cX6_takeWord 58 = .ok (.iconst 0, 1) := by decide +kernel
theorem dX6_takeWord_59 : decode cX6_takeWord 59 = .ok (.ireturn, 1) := by decide +kernel
theorem dX6_takeWord_60 : decode cX6_takeWord 60 = .ok (.iinc 2 1, 3) := by decide +kernel
theorem dX6_takeWord_63 : decode cX6_takeWord 63 = .ok (.goto (-35), 3) := by decide +kernel
theorem dX6_takeWord_66 : decode cX6_takeWord 66 = .ok (.aload_n 0, 1) := by decide +kernel
theorem dX6_takeWord_67 : decode cX6_takeWord 67 = .ok (.invokevirtual 35, 3) := by decide +kernel
theorem dX6_takeWord_70 : decode cX6_takeWord 70 = .ok (.iconst 1, 1) := by decide +kernel
theorem dX6_takeWord_71 : decode cX6_takeWord 71 = .ok (.ireturn, 1) := by decide +kernel

abbrev mX6_takeWord : sv_M := (cX6_takeWord, 3, yX6_takeWord, wsX6_takeWord, (some .boolean), { frames := 30, cells := 0, slots := 0, locals := 1500 }, [])
abbrev mX6_takeKind : sv_M := (cX6_takeKind, 3, yX6_takeKind, wsX6_takeKind, (some .boolean), { frames := 40, cells := 0, slots := 0, locals := 2000 }, [])
/-- what holds all along -/
def cx_ (G : sv_G) (b n : Nat) (tp : Nat → Int32) (h0 : sv_h) (A d : Nat) : Prop := n ≤ 600 ∧ (∀ i, i < n → tp i = 10 ∨ (32 ≤ tp i ∧ tp i ≤ 126)) ∧ h0 (b + 8) = some (.inr (7, [.ref (b + 9), .int (nI n)])) ∧ (∃ f, ab_I G h0 (b + 9) 600 f ∧ ∀ i, i < n → f i = tp i) ∧ (A = b + 11 ∨ A = b + 183) ∧ d < 20
/-- the class in rule d, at word j, with the row of the rule -/
def cw_ (G : sv_G) (b n : Nat) (tp : Nat → Int32) (k : Int32) (A d : Nat) (h0 h : sv_h) (j : Nat) (n0 : Int64) (kd : Nat) (x1 x2 x3 x4 x5 x6 : Int32) : Prop := h (b + 10) = rd_at b k (nI d) A n tp j ∧ h (A + 1 + d) = some (.inr (5, [.long n0, .ref (G.2.2.2.2.1 kd), .int x1, .int x2, .int x3, .int x4, .int x5, .int x6])) ∧ ∀ w, w ≠ b + 10 → w ≠ A + 1 + d → h w = h0 w
theorem cw_.next {G : sv_G} {b n : Nat} {tp : Nat → Int32} {k : Int32} {A d : Nat} {h0 h h1 : sv_h} {j j1 : Nat} {n0 : Int64} {kd : Nat} {x1 x2 x3 x4 x5 x6 : Int32} (X : cx_ G b n tp h0 A d) (Hw : cw_ G b n tp k A d h0 h j n0 kd x1 x2 x3 x4 x5 x6) (e : h1 (b + 10) = rd_at b k (nI d) A n tp j1) (f1 : ∀ w, w ≠ b + 10 → h1 w = h w) : cw_ G b n tp k A d h0 h1 j1 n0 kd x1 x2 x3 x4 x5 x6 := by
  obtain ⟨hrd, hru, fr⟩ := Hw
  have hA := X.2.2.2.2.1
  exact ⟨e, (f1 _ (by omega)).trans hru, fun w p q => (f1 w p).trans (fr w p q)⟩
theorem cw_.put {G : sv_G} {b n : Nat} {tp : Nat → Int32} {k : Int32} {A d : Nat} {h0 h : sv_h} {j : Nat} {n0 m0 : Int64} {kd ke : Nat} {x1 x2 x3 x4 x5 x6 y1 y2 y3 y4 y5 y6 : Int32} (X : cx_ G b n tp h0 A d) (Hw : cw_ G b n tp k A d h0 h j n0 kd x1 x2 x3 x4 x5 x6) : cw_ G b n tp k A d h0 (va_up h (A + 1 + d) (some (.inr (5, [.long m0, .ref (G.2.2.2.2.1 ke), .int y1, .int y2, .int y3, .int y4, .int y5, .int y6])))) j m0 ke y1 y2 y3 y4 y5 y6 := by
  obtain ⟨hrd, hru, fr⟩ := Hw
  have hA := X.2.2.2.2.1
  exact ⟨(sv_un (by omega)).trans hrd, sv_us, fun w p q => (sv_un q).trans (fr w p q)⟩
theorem c_stepJ (G : sv_G) (h : sv_h) (z b n : Nat) (k df : Int32) (A : Nat) (f tp : Nat → Int32) (ht1 : h (b + 8) = some (.inr (7, [.ref (b + 9), .int (nI n)]))) (ht2 : ab_I G h (b + 9) 600 f) (htp : ∀ i, i < n → f i = tp i) (hn : n ≤ 600) (j : Nat) (hrd : h (b + 10) = rd_at b k df A n tp j) : CT G mX6_step [.ref (b + 10)] h z (fun v h1 z1 => v = none ∧ z1 = z ∧ h1 (b + 10) = rd_at b k df A n tp (j + 1) ∧ ∀ w, w ≠ b + 10 → h1 w = h w) :=
  (c_step G h z b n k df (nI j) A f tp ht1 ht2 htp hn (lx_W n tp j).2 (lx_W_le n tp j).2 _ _ _ hrd).mono (fun v h1 z1 _ hq => by
    obtain ⟨q1, q2, ⟨a1, e1, T, r3⟩, r4⟩ := hq
    exact ⟨q1, q2, rd_nx T r3, r4⟩)
theorem c_signW (G : sv_G) (h0 : sv_h) (z b n : Nat) (tp : Nat → Int32) (k : Int32) (A d : Nat) (X : cx_ G b n tp h0 A d) (j : Nat) (n0 : Int64) (kd : Nat) (x1 x2 x3 x4 x5 x6 : Int32) (h : sv_h) (Hw : cw_ G b n tp k A d h0 h j n0 kd x1 x2 x3 x4 x5 x6) (c : Int32) : CT G mX6_takeSign [.ref (b + 10), .int c] h z (fun v h1 z1 => z1 = z ∧ ∃ (w0 : Int32) (j1 : Nat), v = some (.int w0) ∧ cw_ G b n tp k A d h0 h1 j1 n0 kd x1 x2 x3 x4 x5 x6 ∧ ((w0 = 1 ∧ w_sg n tp c j ∧ j1 = j + 1) ∨ (w0 = 0 ∧ ¬ w_sg n tp c j ∧ j1 = j))) := by
  obtain ⟨hrd, hru, fr⟩ := id Hw
  obtain ⟨hn, hok, t1, ⟨f, t2, htp⟩, hA, hd⟩ := id X
  have ht1 := (fr (b + 8) (by omega) (by omega)).trans t1
  have ht2 : ab_I G h (b + 9) 600 f := (fr (b + 9) (by omega) (by omega)).trans t2
  refine (c_signJ G h z b n k (nI d) A f tp ht1 ht2 htp hn j hrd c).mono (fun v h1 z1 _ hq => ?_)
  obtain ⟨rfl, w0, q2, q3⟩ := hq
  rcases q3 with ⟨r1, r2, r3, r4⟩ | ⟨r1, r2, rfl⟩
  · exact ⟨rfl, w0, j + 1, q2, Hw.next X r3 r4, Or.inl ⟨r1, r2, rfl⟩⟩
  · exact ⟨rfl, w0, j, q2, Hw, Or.inr ⟨r1, r2, rfl⟩⟩
theorem c_numW (G : sv_G) (h0 : sv_h) (z b n : Nat) (tp : Nat → Int32) (k : Int32) (A d : Nat) (X : cx_ G b n tp h0 A d) (j : Nat) (n0 : Int64) (kd : Nat) (x1 x2 x3 x4 x5 x6 : Int32) (h : sv_h) (Hw : cw_ G b n tp k A d h0 h j n0 kd x1 x2 x3 x4 x5 x6) (c : Int32) : CT G mX6_takeNumber [.ref (b + 10), .int c] h z (fun v h1 z1 => z1 = z ∧ ∃ (y : Int32) (j1 : Nat), v = some (.int y) ∧ cw_ G b n tp k A d h0 h1 j1 n0 kd x1 x2 x3 x4 x5 x6 ∧ ((y = w_nv n tp j ∧ w_nu n tp c j ∧ j1 = j + 1) ∨ (y = -1 ∧ ¬ w_nu n tp c j ∧ j1 = j))) := by
  obtain ⟨hrd, hru, fr⟩ := id Hw
  obtain ⟨hn, hok, t1, ⟨f, t2, htp⟩, hA, hd⟩ := id X
  have ht1 := (fr (b + 8) (by omega) (by omega)).trans t1
  have ht2 : ab_I G h (b + 9) 600 f := (fr (b + 9) (by omega) (by omega)).trans t2
  refine (c_numJ G h z b n k (nI d) A f tp ht1 ht2 htp hn j hrd c).mono (fun v h1 z1 _ hq => ?_)
  obtain ⟨rfl, q3⟩ := hq
  rcases q3 with ⟨r1, r2, r3, r4⟩ | ⟨r1, r2, rfl⟩
  · exact ⟨rfl, _, j + 1, r2, Hw.next X r3 r4, Or.inl ⟨rfl, r1, rfl⟩⟩
  · exact ⟨rfl, _, j, r2, Hw, Or.inr ⟨rfl, r1, rfl⟩⟩
/-- the worth of word i -/
def ww (i : Nat) : Int64 := lx_va (wc i) 96 27 0 (wl i)
theorem ww_k : ∀ i, i < 11 → ww i = kw i := by decide
theorem ww_run : ww 11 = mk_5 114 117 110 0 0 := by decide
theorem ww_volt : ww 12 = mk_5 118 111 108 116 0 := by decide
theorem ww_end : ww 13 = mk_5 101 110 100 0 0 := by decide
theorem w_sub {a e : Nat} (h : a ≤ e) : nI e - nI a = nI (e - a) := by
  have q := nI_add (e - a) a
  rw [Nat.sub_add_cancel h] at q
  rw [← q, Int32.add_sub_cancel]
theorem w_is_iff {n : Nat} {tp : Nat → Int32} {j i : Nat} (hi : i < 14) (hs : wS n tp j = 2) : w_is n tp (ww i) j ↔ ((lx_W n tp j).2 - (lx_W n tp j).1 = wl i ∧ ∀ p, p < wl i → tp ((lx_W n tp j).1 + p) = wc i p) := by
  obtain ⟨q1, q2, q3, q4⟩ := w_lets hs
  have I := lx_inj (t := tp) (t' := wc i) (a := (lx_W n tp j).1) (a' := 0) q2 (wl_8 i hi).1 q4 (fun p hp => by rw [Nat.zero_add]; exact wc_let i hi p hp)
  constructor
  · rintro ⟨_, e⟩
    obtain ⟨r1, r2⟩ := I.mp (q3.symm.trans e)
    refine ⟨r1, fun p hp => ?_⟩
    have := r2 p (by omega)
    rwa [Nat.zero_add] at this
  · rintro ⟨r1, r2⟩
    refine ⟨hs, q3.trans (I.mpr ⟨r1, fun p hp => ?_⟩)⟩
    rw [Nat.zero_add]
    exact r2 p (by omega)
set_option maxHeartbeats 4000000 in
set_option maxRecDepth 100000 in
theorem l_takeWord (G : sv_G) (h0 : sv_h) (z b n : Nat) (tp : Nat → Int32) (k : Int32) (A d : Nat) (X : cx_ G b n tp h0 A d) (j : Nat) (n0 : Int64) (kd : Nat) (x1 x2 x3 x4 x5 x6 : Int32) (h : sv_h) (Hw : cw_ G b n tp k A d h0 h j n0 kd x1 x2 x3 x4 x5 x6) (i : Nat) (hi : i < 14) (hs : wS n tp j = 2) (hl : (lx_W n tp j).2 - (lx_W n tp j).1 = wl i) : ∀ (c q : Nat), q + c = wl i → (∀ p, p < q → tp ((lx_W n tp j).1 + p) = wc i p) → V G mX6_takeWord (sv_MQ G mX6_takeWord (fun v h1 z1 => z1 = z ∧ ∃ (w0 : Int32) (j1 : Nat), v = some (.int w0) ∧ cw_ G b n tp k A d h0 h1 j1 n0 kd x1 x2 x3 x4 x5 x6 ∧ ((w0 = 1 ∧ w_is n tp (ww i) j ∧ j1 = j + 1) ∨ (w0 = 0 ∧ ¬ w_is n tp (ww i) j ∧ j1 = j)))) 28 [(2, .int (nI q)), (1, .ref (G.2.2.2.2.1 (20 + i))), (0, .ref (b + 10))] [] h z 0 0 := by
  obtain ⟨hrd, hru, fr⟩ := id Hw
  obtain ⟨hn, hok, t1, ⟨f, t2, htp⟩, hA, hd⟩ := id X
  have ht1 := (fr (b + 8) (by omega) (by omega)).trans t1
  have ht2 : ab_I G h (b + 9) 600 f := (fr (b + 9) (by omega) (by omega)).trans t2
  have h8 := (wl_8 i hi).1
  have hle := lx_W_le n tp j
  intro c
  induction c with
  | zero =>
    intro q hic hno
    refine v_iload_n dX6_takeWord_28 rfl 0 rfl ?_
    refine v_aload_n dX6_takeWord_29 rfl 1 rfl ?_
    refine v_callO (M' := mJ0_length_8abf5) (n := 0) (As := []) gX6_takeWord_J0_length_8abf5 rfl (by decide +kernel) ⟨(Nat.le_of_ble_eq_true rfl), (Nat.le_of_ble_eq_true rfl)⟩ dX6_takeWord_30 rfl ⟨(Nat.le_of_ble_eq_true rfl), (Nat.le_of_ble_eq_true rfl)⟩ (Nat.le_of_ble_eq_true rfl) (fun s Z9 => (Z9.2.1 i hi).1) rfl (c_length G _ _ i hi) (fun v h1 z1 hq => v_pq hq ?_)
    refine v_icmp_ge (tgt := 66) dX6_takeWord_33 (by decide) (fun c_33 => ?_) (fun c_33 => ?_)
    · refine v_aload_n dX6_takeWord_66 rfl 2 rfl ?_
      refine v_callVq (M' := mX6_step) (n := 0) (As := []) (ci := 4) (r := (RX6, TX6, 9)) gX6_takeWord_X6_step rfl (by decide +kernel) ⟨(Nat.le_of_ble_eq_true rfl), (Nat.le_of_ble_eq_true rfl)⟩ rfl rfl dX6_takeWord_67 rfl ⟨(Nat.le_of_ble_eq_true rfl), (Nat.le_of_ble_eq_true rfl)⟩ (Nat.le_of_ble_eq_true rfl) (by first | with_reducible assumption) rfl (c_stepJ G h z b n k (nI d) A f tp ht1 ht2 htp hn j hrd) (fun v h1 z1 hq => ?_)
      obtain ⟨rfl, rfl, k2, k3⟩ := hq
      refine v_iconst (v := 1) dX6_takeWord_70 (by decide) ?_
      exact v_iret rfl dX6_takeWord_71 (Nat.le_of_ble_eq_true rfl) (Nat.le_of_ble_eq_true rfl) rfl ⟨rfl, 1, j + 1, rfl, Hw.next X k2 k3, Or.inl ⟨rfl, (w_is_iff hi hs).mpr ⟨hl, fun p hp => hno p (by omega)⟩, rfl⟩⟩
    · exact absurd (nI_le (show wl i ≤ q by omega) (by omega)) c_33
  | succ c ih =>
    intro q hic hno
    refine v_iload_n dX6_takeWord_28 rfl 0 rfl ?_
    refine v_aload_n dX6_takeWord_29 rfl 1 rfl ?_
    refine v_callO (M' := mJ0_length_8abf5) (n := 0) (As := []) gX6_takeWord_J0_length_8abf5 rfl (by decide +kernel) ⟨(Nat.le_of_ble_eq_true rfl), (Nat.le_of_ble_eq_true rfl)⟩ dX6_takeWord_30 rfl ⟨(Nat.le_of_ble_eq_true rfl), (Nat.le_of_ble_eq_true rfl)⟩ (Nat.le_of_ble_eq_true rfl) (fun s Z9 => (Z9.2.1 i hi).1) rfl (c_length G _ _ i hi) (fun v h1 z1 hq => v_pq hq ?_)
    refine v_icmp_ge (tgt := 66) dX6_takeWord_33 (by decide) (fun c_33 => ?_) (fun c_33 => ?_)
    · exact absurd c_33 (nI_ge (by omega) (by omega))
    · refine v_aload_n dX6_takeWord_36 rfl 2 rfl ?_
      refine v_getf 0 (ci := 4) (C := RX6) (T := TX6) (N := 9) rfl iwX6_takeWord_X6 (Nat.le_of_ble_eq_true rfl) (by decide +kernel) dX6_takeWord_37 (by first | with_reducible assumption) rfl ?_
      refine v_getf 0 (ci := 7) (C := RX9) (T := TX9) (N := 2) rfl iwX6_takeWord_X9 (Nat.le_of_ble_eq_true rfl) (by decide +kernel) dX6_takeWord_40 (by first | with_reducible assumption) rfl ?_
      refine v_aload_n dX6_takeWord_43 rfl 2 rfl ?_
      refine v_getf 6 (ci := 4) (C := RX6) (T := TX6) (N := 9) rfl iwX6_takeWord_X6 (Nat.le_of_ble_eq_true rfl) (by decide +kernel) dX6_takeWord_44 (by first | with_reducible assumption) rfl ?_
      refine v_iload_n dX6_takeWord_47 rfl 0 rfl ?_
      refine v_iadd dX6_takeWord_48 ?_
      rw [nI_add]
      refine v_ialdS (v := tp ((lx_W n tp j).1 + q)) dX6_takeWord_49 (by first | with_reducible assumption) (vp_in_nI (by omega) (by omega)) (by rw [nI_clamp (by omega)]; exact htp _ (by omega)) ?_
      refine v_aload_n dX6_takeWord_50 rfl 1 rfl ?_
      refine v_iload_n dX6_takeWord_51 rfl 0 rfl ?_
      refine v_callO (M' := mJ0_charAt_5068e) (n := 1) (As := [_]) gX6_takeWord_J0_charAt_5068e rfl (by decide +kernel) ⟨(Nat.le_of_ble_eq_true rfl), (Nat.le_of_ble_eq_true rfl)⟩ dX6_takeWord_52 rfl ⟨(Nat.le_of_ble_eq_true rfl), (Nat.le_of_ble_eq_true rfl)⟩ (Nat.le_of_ble_eq_true rfl) (fun s Z9 => (Z9.2.1 i hi).1) rfl (c_charAt G _ _ i q hi (by omega)) (fun v h1 z1 hq => v_pq hq ?_)
      refine v_icmp_eq (tgt := 60) dX6_takeWord_55 (by decide) (fun c_55 => ?_) (fun c_55 => ?_)
      · refine v_iinc (j := 0) (L' := [(2, _), (1, _), (0, _)]) (v := nI (q + 1)) dX6_takeWord_60 rfl (nI_1 _) (Nat.le_of_ble_eq_true rfl) rfl ?_
        refine v_goto (tgt := 28) dX6_takeWord_63 (by decide) ?_
        refine v_sub (L' := [(2, _), (1, _), (0, _)]) [0, 1, 2] rfl ?_
        refine ih (q + 1) (by omega) (fun p hp => ?_)
        by_cases e9 : p = q
        · rw [e9]; exact c_55
        · exact hno p (by omega)
      · refine v_iconst (v := 0) dX6_takeWord_58 (by decide) ?_
        exact v_iret rfl dX6_takeWord_59 (Nat.le_of_ble_eq_true rfl) (Nat.le_of_ble_eq_true rfl) rfl ⟨rfl, 0, j, rfl, Hw, Or.inr ⟨rfl, fun r => c_55 (((w_is_iff hi hs).mp r).2 q (by omega)), rfl⟩⟩

set_option maxHeartbeats 4000000 in
set_option maxRecDepth 100000 in
theorem c_wordW (G : sv_G) (h0 : sv_h) (z b n : Nat) (tp : Nat → Int32) (k : Int32) (A d : Nat) (X : cx_ G b n tp h0 A d) (j : Nat) (n0 : Int64) (kd : Nat) (x1 x2 x3 x4 x5 x6 : Int32) (h : sv_h) (Hw : cw_ G b n tp k A d h0 h j n0 kd x1 x2 x3 x4 x5 x6) (i : Nat) (hi : i < 14) : CT G mX6_takeWord [.ref (b + 10), .ref (G.2.2.2.2.1 (20 + i))] h z (fun v h1 z1 => z1 = z ∧ ∃ (w0 : Int32) (j1 : Nat), v = some (.int w0) ∧ cw_ G b n tp k A d h0 h1 j1 n0 kd x1 x2 x3 x4 x5 x6 ∧ ((w0 = 1 ∧ w_is n tp (ww i) j ∧ j1 = j + 1) ∨ (w0 = 0 ∧ ¬ w_is n tp (ww i) j ∧ j1 = j))) := by
  refine CT.of (by decide +kernel) rfl rfl (Nat.le_of_ble_eq_true rfl) ?_
  obtain ⟨hrd, hru, fr⟩ := id Hw
  obtain ⟨hn, hok, t1, ⟨f, t2, htp⟩, hA, hd⟩ := id X
  have ht1 := (fr (b + 8) (by omega) (by omega)).trans t1
  have ht2 : ab_I G h (b + 9) 600 f := (fr (b + 9) (by omega) (by omega)).trans t2
  have h8 := (wl_8 i hi).1
  have hle := lx_W_le n tp j
  refine v_aload_n dX6_takeWord_0 rfl 0 rfl ?_
  refine v_getf 5 (ci := 4) (C := RX6) (T := TX6) (N := 9) rfl iwX6_takeWord_X6 (Nat.le_of_ble_eq_true rfl) (by decide +kernel) dX6_takeWord_1 (by first | with_reducible assumption) rfl ?_
  refine v_iconst (v := 2) dX6_takeWord_4 (by decide) ?_
  refine v_icmp_ne (tgt := 24) dX6_takeWord_5 (by decide) (fun c_5 => ?_) (fun c_5 => ?_)
  · refine v_iconst (v := 0) dX6_takeWord_24 (by decide) ?_
    exact v_iret rfl dX6_takeWord_25 (Nat.le_of_ble_eq_true rfl) (Nat.le_of_ble_eq_true rfl) rfl ⟨rfl, 0, j, rfl, Hw, Or.inr ⟨rfl, (by first | exact fun r => c_5 r.1 | exact fun r => c_21 (by rw [w_sub hle.1]; exact congrArg nI ((w_is_iff hi r.1).mp r).1)), rfl⟩⟩
  · refine v_aload_n dX6_takeWord_8 rfl 0 rfl ?_
    refine v_getf 7 (ci := 4) (C := RX6) (T := TX6) (N := 9) rfl iwX6_takeWord_X6 (Nat.le_of_ble_eq_true rfl) (by decide +kernel) dX6_takeWord_9 (by first | with_reducible assumption) rfl ?_
    refine v_aload_n dX6_takeWord_12 rfl 0 rfl ?_
    refine v_getf 6 (ci := 4) (C := RX6) (T := TX6) (N := 9) rfl iwX6_takeWord_X6 (Nat.le_of_ble_eq_true rfl) (by decide +kernel) dX6_takeWord_13 (by first | with_reducible assumption) rfl ?_
    refine v_isub dX6_takeWord_16 ?_
    refine v_aload_n dX6_takeWord_17 rfl 1 rfl ?_
    refine v_callO (M' := mJ0_length_8abf5) (n := 0) (As := []) gX6_takeWord_J0_length_8abf5 rfl (by decide +kernel) ⟨(Nat.le_of_ble_eq_true rfl), (Nat.le_of_ble_eq_true rfl)⟩ dX6_takeWord_18 rfl ⟨(Nat.le_of_ble_eq_true rfl), (Nat.le_of_ble_eq_true rfl)⟩ (Nat.le_of_ble_eq_true rfl) (fun s Z9 => (Z9.2.1 i hi).1) rfl (c_length G _ _ i hi) (fun v h1 z1 hq => v_pq hq ?_)
    refine v_icmp_eq (tgt := 26) dX6_takeWord_21 (by decide) (fun c_21 => ?_) (fun c_21 => ?_)
    · refine v_iconst (v := 0) dX6_takeWord_26 (by decide) ?_
      refine v_istore_n (L' := [(2, _), (0, _), (1, _)]) dX6_takeWord_27 rfl (Nat.le_of_ble_eq_true rfl) rfl ?_
      refine v_sub (L' := [(2, _), (1, _), (0, _)]) [0, 2, 1] rfl ?_
      rw [w_sub hle.1] at c_21
      exact l_takeWord G h0 z b n tp k A d X j n0 kd x1 x2 x3 x4 x5 x6 h Hw i hi c_5 ((nI_eq (by omega) (by omega)).mp c_21) (wl i) 0 (by omega) (fun p hp => absurd hp (Nat.not_lt_zero p))
    · refine v_iconst (v := 0) dX6_takeWord_24 (by decide) ?_
      exact v_iret rfl dX6_takeWord_25 (Nat.le_of_ble_eq_true rfl) (Nat.le_of_ble_eq_true rfl) rfl ⟨rfl, 0, j, rfl, Hw, Or.inr ⟨rfl, (by first | exact fun r => c_5 r.1 | exact fun r => c_21 (by rw [w_sub hle.1]; exact congrArg nI ((w_is_iff hi r.1).mp r).1)), rfl⟩⟩

theorem kdo_k : ∀ i, i < 11 → kdo (kw i) = nI i := by decide
theorem kdo_n {w : Int64} (h : ∀ i, i < 11 → ¬ w = kw i) : kdo w = -1 := by
  unfold kdo
  rw [if_neg (h 0 (by decide)), if_neg (h 1 (by decide)), if_neg (h 2 (by decide)), if_neg (h 3 (by decide)), if_neg (h 4 (by decide)), if_neg (h 5 (by decide)), if_neg (h 6 (by decide)), if_neg (h 7 (by decide)), if_neg (h 8 (by decide)), if_neg (h 9 (by decide)), if_neg (h 10 (by decide))]
theorem rd_k_p {n : Nat} {tp : Nat → Int32} {j i : Nat} (hi : i < 11) (h : w_is n tp (ww i) j) : rd_k n tp j = nI i := by
  rw [rd_k, if_pos h.1, h.2, ww_k i hi, kdo_k i hi]
theorem rd_k_n {n : Nat} {tp : Nat → Int32} {j : Nat} (h : ∀ i, i < 11 → ¬ w_is n tp (ww i) j) : rd_k n tp j = -1 := by
  unfold rd_k
  by_cases e : wS n tp j = 2
  · rw [if_pos e]
    exact kdo_n (fun i hi q => h i hi ⟨e, by rw [q, ww_k i hi]⟩)
  · rw [if_neg e]
set_option maxHeartbeats 4000000 in
set_option maxRecDepth 100000 in
theorem l_takeKind (G : sv_G) (h0 : sv_h) (z b n : Nat) (tp : Nat → Int32) (k : Int32) (A d : Nat) (X : cx_ G b n tp h0 A d) (j : Nat) (n0 : Int64) (kd : Nat) (x1 x2 x3 x4 x5 x6 : Int32) : ∀ (c i : Nat) (h : sv_h), cw_ G b n tp k A d h0 h j n0 kd x1 x2 x3 x4 x5 x6 → i + c = 11 → (∀ p, p < i → ¬ w_is n tp (ww p) j) → V G mX6_takeKind (sv_MQ G mX6_takeKind (fun v h1 z1 => z1 = z ∧ ∃ w0 : Int32, v = some (.int w0) ∧ ((w0 = 1 ∧ ∃ kd1, kd1 < 11 ∧ rd_k n tp j = nI kd1 ∧ cw_ G b n tp k A d h0 h1 (j + 1) n0 kd1 x1 x2 x3 x4 x5 x6) ∨ (w0 = 0 ∧ rd_k n tp j = -1 ∧ cw_ G b n tp k A d h0 h1 j n0 kd x1 x2 x3 x4 x5 x6)))) 2 [(2, .int (nI i)), (0, .ref (b + 10)), (1, .ref (A + 1 + d))] [] h z 0 0 := by
  intro c
  induction c with
  | zero =>
    intro i h Hw hic hno
    obtain ⟨hrd, hru, fr⟩ := id Hw
    obtain ⟨hn, hok, t1, ⟨f, t2, htp⟩, hA, hd⟩ := id X
    have ht1 := (fr (b + 8) (by omega) (by omega)).trans t1
    have ht2 : ab_I G h (b + 9) 600 f := (fr (b + 9) (by omega) (by omega)).trans t2
    refine v_iload_n dX6_takeKind_2 rfl 0 rfl ?_
    refine v_kall rfl dX6_takeKind_3 ?_
    refine v_klen dX6_takeKind_6 ?_
    refine v_icmp_ge (tgt := 42) dX6_takeKind_7 (by decide) (fun c_7 => ?_) (fun c_7 => ?_)
    · refine v_iconst (v := 0) dX6_takeKind_42 (by decide) ?_
      exact v_iret rfl dX6_takeKind_43 (Nat.le_of_ble_eq_true rfl) (Nat.le_of_ble_eq_true rfl) rfl ⟨rfl, 0, rfl, Or.inr ⟨rfl, rd_k_n (fun p hp => hno p (by omega)), Hw⟩⟩
    · exact absurd (nI_le (show 11 ≤ i by omega) (by omega)) c_7
  | succ c ih =>
    intro i h Hw hic hno
    obtain ⟨hrd, hru, fr⟩ := id Hw
    obtain ⟨hn, hok, t1, ⟨f, t2, htp⟩, hA, hd⟩ := id X
    have ht1 := (fr (b + 8) (by omega) (by omega)).trans t1
    have ht2 : ab_I G h (b + 9) 600 f := (fr (b + 9) (by omega) (by omega)).trans t2
    refine v_iload_n dX6_takeKind_2 rfl 0 rfl ?_
    refine v_kall rfl dX6_takeKind_3 ?_
    refine v_klen dX6_takeKind_6 ?_
    refine v_icmp_ge (tgt := 42) dX6_takeKind_7 (by decide) (fun c_7 => ?_) (fun c_7 => ?_)
    · exact absurd c_7 (nI_ge (by omega) (by omega))
    · refine v_aload_n dX6_takeKind_10 rfl 1 rfl ?_
      refine v_kall rfl dX6_takeKind_11 ?_
      refine v_iload_n dX6_takeKind_14 rfl 0 rfl ?_
      refine v_kld (v := i) (vp_in_nI (by omega) (by omega)) (nI_clamp (by omega)) dX6_takeKind_15 ?_
      refine v_kword (by omega) (by decide +kernel) dX6_takeKind_16 ?_
      refine v_callVq (M' := mX6_takeWord) (n := 1) (As := [_]) (ci := 4) (r := (RX6, TX6, 9)) gX6_takeKind_X6_takeWord rfl (by decide +kernel) ⟨(Nat.le_of_ble_eq_true rfl), (Nat.le_of_ble_eq_true rfl)⟩ rfl rfl dX6_takeKind_19 rfl ⟨(Nat.le_of_ble_eq_true rfl), (Nat.le_of_ble_eq_true rfl)⟩ (Nat.le_of_ble_eq_true rfl) (by repeat (first | with_reducible assumption | (with_reducible refine sv_us.trans ?_; exact rfl) | with_reducible refine (sv_un (by omega)).trans ?_)) rfl (c_wordW G h0 z b n tp k A d X j n0 kd x1 x2 x3 x4 x5 x6 h Hw i (by omega)) (fun v h1 z1 hq => ?_)
      obtain ⟨rfl, w0, j1, rfl, Hw1, e1⟩ := hq
      obtain ⟨hrd1, hru1, fr1⟩ := id Hw1
      have ht11 := (fr1 (b + 8) (by omega) (by omega)).trans t1
      have ht21 : ab_I G h1 (b + 9) 600 f := (fr1 (b + 9) (by omega) (by omega)).trans t2
      refine v_if_eq (tgt := 36) dX6_takeKind_22 (by decide) (fun c_22 => ?_) (fun c_22 => ?_)
      · refine v_iinc (j := 0) (L' := [(2, _), (0, _), (1, _)]) (v := nI (i + 1)) dX6_takeKind_36 rfl (nI_1 _) (Nat.le_of_ble_eq_true rfl) rfl ?_
        refine v_goto (tgt := 2) dX6_takeKind_39 (by decide) ?_
        refine v_sub (L' := [(2, _), (0, _), (1, _)]) [0, 1, 2] rfl ?_
        rcases e1 with ⟨r1, r2, r3⟩ | ⟨r1, r2, rfl⟩
        · exact absurd (r1.symm.trans c_22) (by decide)
        · refine ih (i + 1) _ Hw1 (by omega) (fun p hp => ?_)
          by_cases e9 : p = i
          · rw [e9]; exact r2
          · exact hno p (by omega)
      · refine v_aload_n dX6_takeKind_25 rfl 2 rfl ?_
        refine v_kall rfl dX6_takeKind_26 ?_
        refine v_iload_n dX6_takeKind_29 rfl 0 rfl ?_
        refine v_kld (v := i) (vp_in_nI (by omega) (by omega)) (nI_clamp (by omega)) dX6_takeKind_30 ?_
        refine v_putf 1 (fs' := [_, _, _, _, _, _, _, _]) (ci := 5) (C := RX7) (T := TX7) (N := 8) (ty := (.object "RuleDeck$Kind")) rfl iwX6_takeKind_X7 tyX7 tyX7_ok nmX7 (Nat.le_of_ble_eq_true rfl) (by decide +kernel) rfl rfl dX6_takeKind_31 rfl rfl (by repeat (first | with_reducible assumption | (with_reducible refine sv_us.trans ?_; exact rfl) | with_reducible refine (sv_un (by omega)).trans ?_)) (Nat.le_of_ble_eq_true rfl) rfl ?_
        refine v_iconst (v := 1) dX6_takeKind_34 (by decide) ?_
        exact v_iret rfl dX6_takeKind_35 (Nat.le_of_ble_eq_true rfl) (Nat.le_of_ble_eq_true rfl) rfl (by
                  rcases e1 with ⟨r1, r2, rfl⟩ | ⟨r1, r2, r3⟩
                  · exact ⟨rfl, 1, rfl, Or.inl ⟨rfl, i, by omega, rd_k_p (by omega) r2, Hw1.put X⟩⟩
                  · exact absurd r1 c_22)

set_option maxHeartbeats 4000000 in
set_option maxRecDepth 100000 in
theorem c_kindW (G : sv_G) (h0 : sv_h) (z b n : Nat) (tp : Nat → Int32) (k : Int32) (A d : Nat) (X : cx_ G b n tp h0 A d) (j : Nat) (n0 : Int64) (kd : Nat) (x1 x2 x3 x4 x5 x6 : Int32) (h : sv_h) (Hw : cw_ G b n tp k A d h0 h j n0 kd x1 x2 x3 x4 x5 x6) : CT G mX6_takeKind [.ref (b + 10), .ref (A + 1 + d)] h z (fun v h1 z1 => z1 = z ∧ ∃ w0 : Int32, v = some (.int w0) ∧ ((w0 = 1 ∧ ∃ kd1, kd1 < 11 ∧ rd_k n tp j = nI kd1 ∧ cw_ G b n tp k A d h0 h1 (j + 1) n0 kd1 x1 x2 x3 x4 x5 x6) ∨ (w0 = 0 ∧ rd_k n tp j = -1 ∧ cw_ G b n tp k A d h0 h1 j n0 kd x1 x2 x3 x4 x5 x6))) := by
  refine CT.of (by decide +kernel) rfl rfl (Nat.le_of_ble_eq_true rfl) ?_
  refine v_iconst (v := 0) dX6_takeKind_0 (by decide) ?_
  refine v_istore_n (L' := [(2, _), (0, _), (1, _)]) dX6_takeKind_1 rfl (Nat.le_of_ble_eq_true rfl) rfl ?_
  refine v_sub (L' := [(2, _), (0, _), (1, _)]) [0, 1, 2] rfl ?_
  exact l_takeKind G h0 z b n tp k A d X j n0 kd x1 x2 x3 x4 x5 x6 11 0 h Hw (by omega) (fun p hp => absurd hp (Nat.not_lt_zero p))

