section SVL
variable {G : sv_G} {M : sv_M} {P : sv_P} {pc : Nat} {L : List (Nat × Value)} {S : List Value} {h : sv_h} {z ce sl : Nat} {x y : Int64} {off : Int} {tgt : Nat}
theorem v_lcmp (hdg : decode M.1 pc = .ok (.lcmp, 1)) (k : V G M P (pc + 1) L (.int (lg_cmp x y) :: S) h z ce sl) : V G M P pc L (.long y :: .long x :: S) h z ce sl := fun p e s m args below meth c H locs ls C K Z hS hH hl =>
  W.lcmp C.1 C.2.1 hdg (k p e s m args below meth c H locs ls C K Z hS hH hl)
theorem sv_cmp (x y : Int64) : (lg_cmp x y < 0 ↔ x < y) ∧ (lg_cmp x y = 0 ↔ x = y) ∧ (0 < lg_cmp x y ↔ y < x) ∧ (0 ≤ lg_cmp x y ↔ y ≤ x) ∧ (lg_cmp x y ≤ 0 ↔ x ≤ y) := by
  have tri : ∀ a b : Int64, (a < b ↔ a.toInt < b.toInt) ∧ (a ≤ b ↔ a.toInt ≤ b.toInt) ∧ (a = b ↔ a.toInt = b.toInt) := fun a b => ⟨Int64.lt_iff_toInt_lt, Int64.le_iff_toInt_le, ⟨fun h => by rw [h], fun h => Int64.toInt_inj.mp h⟩⟩
  unfold lg_cmp
  by_cases h1 : y < x
  · rw [if_pos h1]
    rw [(tri y x).1] at h1
    refine ⟨⟨fun h => absurd h (by decide), fun h => ?_⟩, ⟨fun h => absurd h (by decide), fun h => ?_⟩, ⟨fun _ => (tri y x).1.mpr h1, fun _ => by decide⟩, ⟨fun _ => (tri y x).2.1.mpr (by omega), fun _ => by decide⟩, ⟨fun h => absurd h (by decide), fun h => ?_⟩⟩
    · rw [(tri x y).1] at h; omega
    · rw [(tri x y).2.2] at h; omega
    · rw [(tri x y).2.1] at h; omega
  · rw [if_neg h1]
    rw [(tri y x).1] at h1
    by_cases h2 : x = y
    · rw [if_pos h2]
      rw [(tri x y).2.2] at h2
      refine ⟨⟨fun h => absurd h (by decide), fun h => ?_⟩, ⟨fun _ => (tri x y).2.2.mpr h2, fun _ => rfl⟩, ⟨fun h => absurd h (by decide), fun h => ?_⟩, ⟨fun _ => (tri y x).2.1.mpr (by omega), fun _ => by decide⟩, ⟨fun _ => (tri x y).2.1.mpr (by omega), fun _ => by decide⟩⟩
      · rw [(tri x y).1] at h; omega
      · rw [(tri y x).1] at h; omega
    · rw [if_neg h2]
      have h3 : ¬ x.toInt = y.toInt := fun q => h2 ((tri x y).2.2.mpr q)
      refine ⟨⟨fun _ => (tri x y).1.mpr (by omega), fun _ => by decide⟩, ⟨fun h => absurd h (by decide), fun h => absurd h h2⟩, ⟨fun h => absurd h (by decide), fun h => ?_⟩, ⟨fun h => absurd h (by decide), fun h => ?_⟩, ⟨fun _ => (tri x y).2.1.mpr (by omega), fun _ => by decide⟩⟩
      · rw [(tri y x).1] at h; omega
      · rw [(tri y x).2.1] at h; omega
theorem v_lcmp_lt (hdg : decode M.1 pc = .ok (.lcmp, 1)) (hd2 : decode M.1 (pc + 1) = .ok (.ifCond .lt off, 3)) (ht : ((pc + 1 : Nat) : Int) + off = (tgt : Int)) (kt : x < y → V G M P tgt L S h z ce sl) (kf : ¬ x < y → V G M P (pc + 1 + 3) L S h z ce sl) : V G M P pc L (.long y :: .long x :: S) h z ce sl :=
  v_lcmp hdg (v_if_lt hd2 ht (fun q => kt ((sv_cmp x y).1.mp q)) (fun q => kf (fun r => q ((sv_cmp x y).1.mpr r))))
theorem v_lcmp_eq (hdg : decode M.1 pc = .ok (.lcmp, 1)) (hd2 : decode M.1 (pc + 1) = .ok (.ifCond .eq off, 3)) (ht : ((pc + 1 : Nat) : Int) + off = (tgt : Int)) (kt : x = y → V G M P tgt L S h z ce sl) (kf : ¬ x = y → V G M P (pc + 1 + 3) L S h z ce sl) : V G M P pc L (.long y :: .long x :: S) h z ce sl :=
  v_lcmp hdg (v_if_eq hd2 ht (fun q => kt ((sv_cmp x y).2.1.mp q)) (fun q => kf (fun r => q ((sv_cmp x y).2.1.mpr r))))
theorem v_lcmp_ne (hdg : decode M.1 pc = .ok (.lcmp, 1)) (hd2 : decode M.1 (pc + 1) = .ok (.ifCond .ne off, 3)) (ht : ((pc + 1 : Nat) : Int) + off = (tgt : Int)) (kt : ¬ x = y → V G M P tgt L S h z ce sl) (kf : x = y → V G M P (pc + 1 + 3) L S h z ce sl) : V G M P pc L (.long y :: .long x :: S) h z ce sl :=
  v_lcmp hdg (v_if_ne hd2 ht (fun q => kt (fun r => q ((sv_cmp x y).2.1.mpr r))) (fun q => kf ((sv_cmp x y).2.1.mp q)))
theorem v_lcmp_gt (hdg : decode M.1 pc = .ok (.lcmp, 1)) (hd2 : decode M.1 (pc + 1) = .ok (.ifCond .gt off, 3)) (ht : ((pc + 1 : Nat) : Int) + off = (tgt : Int)) (kt : y < x → V G M P tgt L S h z ce sl) (kf : ¬ y < x → V G M P (pc + 1 + 3) L S h z ce sl) : V G M P pc L (.long y :: .long x :: S) h z ce sl :=
  v_lcmp hdg (v_if_gt hd2 ht (fun q => kt ((sv_cmp x y).2.2.1.mp q)) (fun q => kf (fun r => q ((sv_cmp x y).2.2.1.mpr r))))
theorem v_lcmp_ge (hdg : decode M.1 pc = .ok (.lcmp, 1)) (hd2 : decode M.1 (pc + 1) = .ok (.ifCond .ge off, 3)) (ht : ((pc + 1 : Nat) : Int) + off = (tgt : Int)) (kt : y ≤ x → V G M P tgt L S h z ce sl) (kf : ¬ y ≤ x → V G M P (pc + 1 + 3) L S h z ce sl) : V G M P pc L (.long y :: .long x :: S) h z ce sl :=
  v_lcmp hdg (v_if_ge hd2 ht (fun q => kt ((sv_cmp x y).2.2.2.1.mp q)) (fun q => kf (fun r => q ((sv_cmp x y).2.2.2.1.mpr r))))
theorem v_lcmp_le (hdg : decode M.1 pc = .ok (.lcmp, 1)) (hd2 : decode M.1 (pc + 1) = .ok (.ifCond .le off, 3)) (ht : ((pc + 1 : Nat) : Int) + off = (tgt : Int)) (kt : x ≤ y → V G M P tgt L S h z ce sl) (kf : ¬ x ≤ y → V G M P (pc + 1 + 3) L S h z ce sl) : V G M P pc L (.long y :: .long x :: S) h z ce sl :=
  v_lcmp hdg (v_if_le hd2 ht (fun q => kt ((sv_cmp x y).2.2.2.2.mp q)) (fun q => kf (fun r => q ((sv_cmp x y).2.2.2.2.mpr r))))
end SVL
