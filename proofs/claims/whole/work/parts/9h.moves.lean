theorem iwX4_copy_X4 : ∀ w ∈ wsX40, w ∈ wsX4_copy := by decide +kernel
theorem iwX4_xOf_X4 : ∀ w ∈ wsX40, w ∈ wsX4_xOf := by decide +kernel
theorem iwX4_yOf_X4 : ∀ w ∈ wsX40, w ∈ wsX4_yOf := by decide +kernel
theorem iwX4_join_X4 : ∀ w ∈ wsX40, w ∈ wsX4_join := by decide +kernel
theorem iwX4_faceOf_X4 : ∀ w ∈ wsX40, w ∈ wsX4_faceOf := by decide +kernel
theorem iwX4_cornerOf_X4 : ∀ w ∈ wsX40, w ∈ wsX4_cornerOf := by decide +kernel
theorem dX4_copy_0 : decode cX4_copy 0 = .ok (.aload_n 0, 1) := by decide +kernel
theorem dX4_copy_1 : decode cX4_copy 1 = .ok (.aload_n 1, 1) := by decide +kernel
theorem dX4_copy_2 : decode cX4_copy 2 = .ok (.getfield 7, 3) := by decide +kernel
theorem dX4_copy_5 : decode cX4_copy 5 = .ok (.putfield 7, 3) := by decide +kernel
theorem dX4_copy_8 : decode cX4_copy 8 = .ok (.aload_n 0, 1) := by decide +kernel
theorem dX4_copy_9 : decode cX4_copy 9 = .ok (.aload_n 1, 1) := by decide +kernel
theorem dX4_copy_10 : decode cX4_copy 10 = .ok (.getfield 13, 3) := by decide +kernel
theorem dX4_copy_13 : decode cX4_copy 13 = .ok (.putfield 13, 3) := by decide +kernel
theorem dX4_copy_16 : decode cX4_copy 16 = .ok (.aload_n 0, 1) := by decide +kernel
theorem dX4_copy_17 : decode cX4_copy 17 = .ok (.aload_n 1, 1) := by decide +kernel
theorem dX4_copy_18 : decode cX4_copy 18 = .ok (.getfield 17, 3) := by decide +kernel
theorem dX4_copy_21 : decode cX4_copy 21 = .ok (.putfield 17, 3) := by decide +kernel
theorem dX4_copy_24 : decode cX4_copy 24 = .ok (.aload_n 0, 1) := by decide +kernel
theorem dX4_copy_25 : decode cX4_copy 25 = .ok (.aload_n 1, 1) := by decide +kernel
theorem dX4_copy_26 : decode cX4_copy 26 = .ok (.getfield 20, 3) := by decide +kernel
theorem dX4_copy_29 : decode cX4_copy 29 = .ok (.putfield 20, 3) := by decide +kernel
theorem dX4_copy_32 : decode cX4_copy 32 = .ok (.return_, 1) := by decide +kernel
set_option maxRecDepth 20000 in
theorem ggX4_join_X4_xOf : GoodIn wsX4_join wsX4_xOf := goodIn_r _ [9, 1, 2, 3, 14, 15, 16, 17] (by decide +kernel) (by decide +kernel)
set_option maxRecDepth 20000 in
theorem gX4_join_X4_xOf : GoodIn wsX4_join (wsV RX4 23 RX4 yX4_xOf wsX4_xOf) := goodIn_app (goodIn_of _ (by decide +kernel)) ggX4_join_X4_xOf
set_option maxRecDepth 20000 in
theorem ggX4_join_X4_yOf : GoodIn wsX4_join wsX4_yOf := goodIn_r _ [13, 1, 2, 4, 14, 15, 16, 17] (by decide +kernel) (by decide +kernel)
set_option maxRecDepth 20000 in
theorem gX4_join_X4_yOf : GoodIn wsX4_join (wsV RX4 27 RX4 yX4_yOf wsX4_yOf) := goodIn_app (goodIn_of _ (by decide +kernel)) ggX4_join_X4_yOf
theorem dX4_join_0 : decode cX4_join 0 = .ok (.aload_n 1, 1) := by decide +kernel
theorem dX4_join_1 : decode cX4_join 1 = .ok (.getfield 7, 3) := by decide +kernel
theorem dX4_join_4 : decode cX4_join 4 = .ok (.ifCond .eq 15, 3) := by decide +kernel
theorem dX4_join_7 : decode cX4_join 7 = .ok (.aload_n 1, 1) := by decide +kernel
theorem dX4_join_8 : decode cX4_join 8 = .ok (.getfield 13, 3) := by decide +kernel
theorem dX4_join_11 : decode cX4_join 11 = .ok (.aload_n 2, 1) := by decide +kernel
theorem dX4_join_12 : decode cX4_join 12 = .ok (.getfield 13, 3) := by decide +kernel
theorem dX4_join_15 : decode cX4_join 15 = .ok (.isub, 1) := by decide +kernel
theorem dX4_join_16 : decode cX4_join 16 = .ok (.goto 12, 3) := by decide +kernel
theorem dX4_join_19 : decode cX4_join 19 = .ok (.aload_n 1, 1) := by decide +kernel
theorem dX4_join_20 : decode cX4_join 20 = .ok (.getfield 13, 3) := by decide +kernel
theorem dX4_join_23 : decode cX4_join 23 = .ok (.aload_n 2, 1) := by decide +kernel
theorem dX4_join_24 : decode cX4_join 24 = .ok (.getfield 13, 3) := by decide +kernel
theorem dX4_join_27 : decode cX4_join 27 = .ok (.iadd, 1) := by decide +kernel
theorem dX4_join_28 : decode cX4_join 28 = .ok (.istore_n 3, 1) := by decide +kernel
theorem dX4_join_29 : decode cX4_join 29 = .ok (.aload_n 0, 1) := by decide +kernel
theorem dX4_join_30 : decode cX4_join 30 = .ok (.aload_n 1, 1) := by decide +kernel
theorem dX4_join_31 : decode cX4_join 31 = .ok (.getfield 7, 3) := by decide +kernel
theorem dX4_join_34 : decode cX4_join 34 = .ok (.aload_n 2, 1) := by decide +kernel
theorem dX4_join_35 : decode cX4_join 35 = .ok (.getfield 7, 3) := by decide +kernel
theorem dX4_join_38 : decode cX4_join 38 = .ok (.if_icmp .eq 7, 3) := by decide +kernel
theorem dX4_join_41 : decode cX4_join 41 = .ok (.iconst 1, 1) := by decide +kernel
theorem dX4_join_42 : decode cX4_join 42 = .ok (.goto 4, 3) := by decide +kernel
theorem dX4_join_45 : decode cX4_join 45 = .ok (.iconst 0, 1) := by decide +kernel
theorem dX4_join_46 : decode cX4_join 46 = .ok (.putfield 7, 3) := by decide +kernel
theorem dX4_join_49 : decode cX4_join 49 = .ok (.aload_n 0, 1) := by decide +kernel
theorem dX4_join_50 : decode cX4_join 50 = .ok (.iload_n 3, 1) := by decide +kernel
theorem dX4_join_51 : decode cX4_join 51 = .ok (.iconst 3, 1) := by decide +kernel
theorem dX4_join_52 : decode cX4_join 52 = .ok (.iand, 1) := by decide +kernel
theorem dX4_join_53 : decode cX4_join 53 = .ok (.putfield 13, 3) := by decide +kernel
theorem dX4_join_56 : decode cX4_join 56 = .ok (.aload_n 0, 1) := by decide +kernel
theorem dX4_join_57 : decode cX4_join 57 = .ok (.aload_n 1, 1) := by decide +kernel
theorem dX4_join_58 : decode cX4_join 58 = .ok (.aload_n 2, 1) := by decide +kernel
theorem dX4_join_59 : decode cX4_join 59 = .ok (.getfield 17, 3) := by decide +kernel
theorem dX4_join_62 : decode cX4_join 62 = .ok (.aload_n 2, 1) := by decide +kernel
theorem dX4_join_63 : decode cX4_join 63 = .ok (.getfield 20, 3) := by decide +kernel
theorem dX4_join_66 : decode cX4_join 66 = .ok (.invokevirtual 23, 3) := by decide +kernel
theorem dX4_join_69 : decode cX4_join 69 = .ok (.putfield 17, 3) := by decide +kernel
theorem dX4_join_72 : decode cX4_join 72 = .ok (.aload_n 0, 1) := by decide +kernel
theorem dX4_join_73 : decode cX4_join 73 = .ok (.aload_n 1, 1) := by decide +kernel
theorem dX4_join_74 : decode cX4_join 74 = .ok (.aload_n 2, 1) := by decide +kernel
theorem dX4_join_75 : decode cX4_join 75 = .ok (.getfield 17, 3) := by decide +kernel
theorem dX4_join_78 : decode cX4_join 78 = .ok (.aload_n 2, 1) := by decide +kernel
theorem dX4_join_79 : decode cX4_join 79 = .ok (.getfield 20, 3) := by decide +kernel
theorem dX4_join_82 : decode cX4_join 82 = .ok (.invokevirtual 27, 3) := by decide +kernel
theorem dX4_join_85 : decode cX4_join 85 = .ok (.putfield 20, 3) := by decide +kernel
theorem dX4_join_88 : decode cX4_join 88 = .ok (.return_, 1) := by decide +kernel
theorem dX4_xOf_0 : decode cX4_xOf 0 = .ok (.aload_n 0, 1) := by decide +kernel
theorem dX4_xOf_1 : decode cX4_xOf 1 = .ok (.getfield 7, 3) := by decide +kernel
theorem dX4_xOf_4 : decode cX4_xOf 4 = .ok (.ifCond .eq 8, 3) := by decide +kernel
theorem dX4_xOf_7 : decode cX4_xOf 7 = .ok (.iload_n 2, 1) := by decide +kernel
theorem dX4_xOf_8 : decode cX4_xOf 8 = .ok (.ineg, 1) := by decide +kernel
theorem dX4_xOf_9 : decode cX4_xOf 9 = .ok (.goto 4, 3) := by decide +kernel
theorem dX4_xOf_12 : decode cX4_xOf 12 = .ok (.iload_n 2, 1) := by decide +kernel
theorem dX4_xOf_13 : decode cX4_xOf 13 = .ok (.istore_n 3, 1) := by decide +kernel
theorem dX4_xOf_14 : decode cX4_xOf 14 = .ok (.aload_n 0, 1) := by decide +kernel
theorem dX4_xOf_15 : decode cX4_xOf 15 = .ok (.getfield 13, 3) := by decide +kernel
theorem dX4_xOf_18 : decode cX4_xOf 18 = .ok (.tableswitch 47 0 2 #[26, 33, 40], 26) := by decide +kernel
theorem dX4_xOf_44 : decode cX4_xOf 44 = .ok (.aload_n 0, 1) := by decide +kernel
theorem dX4_xOf_45 : decode cX4_xOf 45 = .ok (.getfield 17, 3) := by decide +kernel
theorem dX4_xOf_48 : decode cX4_xOf 48 = .ok (.iload_n 1, 1) := by decide +kernel
theorem dX4_xOf_49 : decode cX4_xOf 49 = .ok (.iadd, 1) := by decide +kernel
theorem dX4_xOf_50 : decode cX4_xOf 50 = .ok (.ireturn, 1) := by decide +kernel
theorem dX4_xOf_51 : decode cX4_xOf 51 = .ok (.aload_n 0, 1) := by decide +kernel
theorem dX4_xOf_52 : decode cX4_xOf 52 = .ok (.getfield 17, 3) := by decide +kernel
theorem dX4_xOf_55 : decode cX4_xOf 55 = .ok (.iload_n 3, 1) := by decide +kernel
theorem dX4_xOf_56 : decode cX4_xOf 56 = .ok (.isub, 1) := by decide +kernel
theorem dX4_xOf_57 : decode cX4_xOf 57 = .ok (.ireturn, 1) := by decide +kernel
theorem dX4_xOf_58 : decode cX4_xOf 58 = .ok (.aload_n 0, 1) := by decide +kernel
theorem dX4_xOf_59 : decode cX4_xOf 59 = .ok (.getfield 17, 3) := by decide +kernel
theorem dX4_xOf_62 : decode cX4_xOf 62 = .ok (.iload_n 1, 1) := by decide +kernel
theorem dX4_xOf_63 : decode cX4_xOf 63 = .ok (.isub, 1) := by decide +kernel
theorem dX4_xOf_64 : decode cX4_xOf 64 = .ok (.ireturn, 1) := by decide +kernel
theorem dX4_xOf_65 : decode cX4_xOf 65 = .ok (.aload_n 0, 1) := by decide +kernel
theorem dX4_xOf_66 : decode cX4_xOf 66 = .ok (.getfield 17, 3) := by decide +kernel
theorem dX4_xOf_69 : decode cX4_xOf 69 = .ok (.iload_n 3, 1) := by decide +kernel
theorem dX4_xOf_70 : decode cX4_xOf 70 = .ok (.iadd, 1) := by decide +kernel
theorem dX4_xOf_71 : decode cX4_xOf 71 = .ok (.ireturn, 1) := by decide +kernel
theorem dX4_yOf_0 : decode cX4_yOf 0 = .ok (.aload_n 0, 1) := by decide +kernel
theorem dX4_yOf_1 : decode cX4_yOf 1 = .ok (.getfield 7, 3) := by decide +kernel
theorem dX4_yOf_4 : decode cX4_yOf 4 = .ok (.ifCond .eq 8, 3) := by decide +kernel
theorem dX4_yOf_7 : decode cX4_yOf 7 = .ok (.iload_n 2, 1) := by decide +kernel
theorem dX4_yOf_8 : decode cX4_yOf 8 = .ok (.ineg, 1) := by decide +kernel
theorem dX4_yOf_9 : decode cX4_yOf 9 = .ok (.goto 4, 3) := by decide +kernel
theorem dX4_yOf_12 : decode cX4_yOf 12 = .ok (.iload_n 2, 1) := by decide +kernel
theorem dX4_yOf_13 : decode cX4_yOf 13 = .ok (.istore_n 3, 1) := by decide +kernel
theorem dX4_yOf_14 : decode cX4_yOf 14 = .ok (.aload_n 0, 1) := by decide +kernel
theorem dX4_yOf_15 : decode cX4_yOf 15 = .ok (.getfield 13, 3) := by decide +kernel
theorem dX4_yOf_18 : decode cX4_yOf 18 = .ok (.tableswitch 47 0 2 #[26, 33, 40], 26) := by decide +kernel
theorem dX4_yOf_44 : decode cX4_yOf 44 = .ok (.aload_n 0, 1) := by decide +kernel
theorem dX4_yOf_45 : decode cX4_yOf 45 = .ok (.getfield 20, 3) := by decide +kernel
theorem dX4_yOf_48 : decode cX4_yOf 48 = .ok (.iload_n 3, 1) := by decide +kernel
theorem dX4_yOf_49 : decode cX4_yOf 49 = .ok (.iadd, 1) := by decide +kernel
theorem dX4_yOf_50 : decode cX4_yOf 50 = .ok (.ireturn, 1) := by decide +kernel
theorem dX4_yOf_51 : decode cX4_yOf 51 = .ok (.aload_n 0, 1) := by decide +kernel
theorem dX4_yOf_52 : decode cX4_yOf 52 = .ok (.getfield 20, 3) := by decide +kernel
theorem dX4_yOf_55 : decode cX4_yOf 55 = .ok (.iload_n 1, 1) := by decide +kernel
theorem dX4_yOf_56 : decode cX4_yOf 56 = .ok (.iadd, 1) := by decide +kernel
theorem dX4_yOf_57 : decode cX4_yOf 57 = .ok (.ireturn, 1) := by decide +kernel
theorem dX4_yOf_58 : decode cX4_yOf 58 = .ok (.aload_n 0, 1) := by decide +kernel
theorem dX4_yOf_59 : decode cX4_yOf 59 = .ok (.getfield 20, 3) := by decide +kernel
theorem dX4_yOf_62 : decode cX4_yOf 62 = .ok (.iload_n 3, 1) := by decide +kernel
theorem dX4_yOf_63 : decode cX4_yOf 63 = .ok (.isub, 1) := by decide +kernel
theorem dX4_yOf_64 : decode cX4_yOf 64 = .ok (.ireturn, 1) := by decide +kernel
theorem dX4_yOf_65 : decode cX4_yOf 65 = .ok (.aload_n 0, 1) := by decide +kernel
theorem dX4_yOf_66 : decode cX4_yOf 66 = .ok (.getfield 20, 3) := by decide +kernel
theorem dX4_yOf_69 : decode cX4_yOf 69 = .ok (.iload_n 1, 1) := by decide +kernel
theorem dX4_yOf_70 : decode cX4_yOf 70 = .ok (.isub, 1) := by decide +kernel
theorem dX4_yOf_71 : decode cX4_yOf 71 = .ok (.ireturn, 1) := by decide +kernel
theorem dX4_faceOf_0 : decode cX4_faceOf 0 = .ok (.aload_n 0, 1) := by decide +kernel
theorem dX4_faceOf_1 : decode cX4_faceOf 1 = .ok (.getfield 7, 3) := by decide +kernel
theorem dX4_faceOf_4 : decode cX4_faceOf 4 = .ok (.ifCond .eq 8, 3) := by decide +kernel
theorem dX4_faceOf_7 : decode cX4_faceOf 7 = .ok (.iload_n 1, 1) := by decide +kernel
theorem dX4_faceOf_8 : decode cX4_faceOf 8 = .ok (.ineg, 1) := by decide +kernel
theorem dX4_faceOf_9 : decode cX4_faceOf 9 = .ok (.goto 4, 3) := by decide +kernel
theorem dX4_faceOf_12 : decode cX4_faceOf 12 = .ok (.iload_n 1, 1) := by decide +kernel
theorem dX4_faceOf_13 : decode cX4_faceOf 13 = .ok (.aload_n 0, 1) := by decide +kernel
theorem dX4_faceOf_14 : decode cX4_faceOf 14 = .ok (.getfield 13, 3) := by decide +kernel
theorem dX4_faceOf_17 : decode cX4_faceOf 17 = .ok (.iadd, 1) := by decide +kernel
theorem dX4_faceOf_18 : decode cX4_faceOf 18 = .ok (.iconst 3, 1) := by decide +kernel
theorem dX4_faceOf_19 : decode cX4_faceOf 19 = .ok (.iand, 1) := by decide +kernel
theorem dX4_faceOf_20 : decode cX4_faceOf 20 = .ok (.ireturn, 1) := by decide +kernel
set_option maxRecDepth 20000 in
theorem ggX4_cornerOf_X4_faceOf : GoodIn wsX4_cornerOf wsX4_faceOf := goodIn_r _ [6, 1, 7, 8, 9, 10, 11] (by decide +kernel) (by decide +kernel)
set_option maxRecDepth 20000 in
theorem gX4_cornerOf_X4_faceOf : GoodIn wsX4_cornerOf (wsV RX4 30 RX4 yX4_faceOf wsX4_faceOf) := goodIn_app (goodIn_of _ (by decide +kernel)) ggX4_cornerOf_X4_faceOf
theorem dX4_cornerOf_0 : decode cX4_cornerOf 0 = .ok (.aload_n 0, 1) := by decide +kernel
theorem dX4_cornerOf_1 : decode cX4_cornerOf 1 = .ok (.getfield 7, 3) := by decide +kernel
theorem dX4_cornerOf_4 : decode cX4_cornerOf 4 = .ok (.ifCond .eq 13, 3) := by decide +kernel
theorem dX4_cornerOf_7 : decode cX4_cornerOf 7 = .ok (.aload_n 0, 1) := by decide +kernel
theorem dX4_cornerOf_8 : decode cX4_cornerOf 8 = .ok (.iload_n 1, 1) := by decide +kernel
theorem dX4_cornerOf_9 : decode cX4_cornerOf 9 = .ok (.iconst 1, 1) := by decide +kernel
theorem dX4_cornerOf_10 : decode cX4_cornerOf 10 = .ok (.iadd, 1) := by decide +kernel
theorem dX4_cornerOf_11 : decode cX4_cornerOf 11 = .ok (.invokevirtual 30, 3) := by decide +kernel
theorem dX4_cornerOf_14 : decode cX4_cornerOf 14 = .ok (.goto 8, 3) := by decide +kernel
theorem dX4_cornerOf_17 : decode cX4_cornerOf 17 = .ok (.aload_n 0, 1) := by decide +kernel
theorem dX4_cornerOf_18 : decode cX4_cornerOf 18 = .ok (.iload_n 1, 1) := by decide +kernel
theorem dX4_cornerOf_19 : decode cX4_cornerOf 19 = .ok (.invokevirtual 30, 3) := by decide +kernel
theorem dX4_cornerOf_22 : decode cX4_cornerOf 22 = .ok (.ireturn, 1) := by decide +kernel

abbrev mX4_xOf : sv_M := (cX4_xOf, 4, yX4_xOf, wsX4_xOf, (some .int), { frames := 0, cells := 0, slots := 0, locals := 0 }, [])
abbrev mX4_yOf : sv_M := (cX4_yOf, 4, yX4_yOf, wsX4_yOf, (some .int), { frames := 0, cells := 0, slots := 0, locals := 0 }, [])
abbrev mX4_faceOf : sv_M := (cX4_faceOf, 2, yX4_faceOf, wsX4_faceOf, (some .int), { frames := 0, cells := 0, slots := 0, locals := 0 }, [])
abbrev mX4_copy : sv_M := (cX4_copy, 2, yX4_copy, wsX4_copy, none, { frames := 0, cells := 0, slots := 0, locals := 0 }, [])
abbrev mX4_cornerOf : sv_M := (cX4_cornerOf, 2, yX4_cornerOf, wsX4_cornerOf, (some .int), { frames := 1, cells := 0, slots := 0, locals := 30 }, [])
abbrev mX4_join : sv_M := (cX4_join, 4, yX4_join, wsX4_join, none, { frames := 1, cells := 0, slots := 0, locals := 30 }, [])
abbrev iN (x : Int) : Int32 := Int32.ofInt x
abbrev jN (x : Int) : Int64 := Int64.ofInt x
theorem iN_add (a b : Int) : iN (a + b) = iN a + iN b := Int32.ofInt_add a b
theorem iN_sub (a b : Int) : iN (a - b) = iN a - iN b := Int32.ofInt_sub a b
theorem iN_neg (a : Int) : iN (-a) = - iN a := Int32.ofInt_neg a
theorem jN_add (a b : Int) : jN (a + b) = jN a + jN b := Int64.ofInt_add a b
theorem jN_sub (a b : Int) : jN (a - b) = jN a - jN b := Int64.ofInt_sub a b
theorem jN_neg (a : Int) : jN (-a) = - jN a := Int64.ofInt_neg a
theorem jN_mul (a b : Int) : jN (a * b) = jN a * jN b := Int64.ofInt_mul a b
theorem iN_to {a : Int} (h1 : -2147483648 ≤ a) (h2 : a < 2147483648) : (iN a).toInt = a := Int32.toInt_ofInt_of_le (by omega) (by omega)
theorem jN_to {a : Int} (h1 : -9223372036854775808 ≤ a) (h2 : a < 9223372036854775808) : (jN a).toInt = a := Int64.toInt_ofInt_of_le (by omega) (by omega)
theorem iN_of (x : Int32) : iN x.toInt = x := Int32.ofInt_toInt x
theorem jN_of (x : Int64) : jN x.toInt = x := Int64.ofInt_toInt x
theorem jN_i (x : Int32) : jN x.toInt = x.toInt64 := by
  rw [← Int64.toInt_inj, Int32.toInt_toInt64, jN_to]
  · have := Int32.le_toInt x; omega
  · have := Int32.toInt_lt x; omega
theorem iN_lt {a b : Int} (h1 : -2147483648 ≤ a) (h2 : a < 2147483648) (h3 : -2147483648 ≤ b) (h4 : b < 2147483648) : iN a < iN b ↔ a < b := by rw [Int32.lt_iff_toInt_lt, iN_to h1 h2, iN_to h3 h4]
theorem iN_le {a b : Int} (h1 : -2147483648 ≤ a) (h2 : a < 2147483648) (h3 : -2147483648 ≤ b) (h4 : b < 2147483648) : iN a ≤ iN b ↔ a ≤ b := by rw [Int32.le_iff_toInt_le, iN_to h1 h2, iN_to h3 h4]
theorem jN_lt {a b : Int} (h1 : -9223372036854775808 ≤ a) (h2 : a < 9223372036854775808) (h3 : -9223372036854775808 ≤ b) (h4 : b < 9223372036854775808) : jN a < jN b ↔ a < b := by rw [Int64.lt_iff_toInt_lt, jN_to h1 h2, jN_to h3 h4]
theorem jN_le {a b : Int} (h1 : -9223372036854775808 ≤ a) (h2 : a < 9223372036854775808) (h3 : -9223372036854775808 ≤ b) (h4 : b < 9223372036854775808) : jN a ≤ jN b ↔ a ≤ b := by rw [Int64.le_iff_toInt_le, jN_to h1 h2, jN_to h3 h4]
theorem jN_eq {a b : Int} (h1 : -9223372036854775808 ≤ a) (h2 : a < 9223372036854775808) (h3 : -9223372036854775808 ≤ b) (h4 : b < 9223372036854775808) : jN a = jN b ↔ a = b := by rw [← Int64.toInt_inj, jN_to h1 h2, jN_to h3 h4]
/-- a move: mirrored, quarters, x, y -/
abbrev mvT : Type := Bool × Nat × Int × Int
def sg (m : Bool) (v : Int) : Int := if m then -v else v
/-- where a point comes to lie -/
def mvA (M : mvT) (p : Int × Int) : Int × Int := match M.2.1 with
  | 0 => (M.2.2.1 + p.1, M.2.2.2 + sg M.1 p.2)
  | 1 => (M.2.2.1 - sg M.1 p.2, M.2.2.2 + p.1)
  | 2 => (M.2.2.1 - p.1, M.2.2.2 - sg M.1 p.2)
  | _ => (M.2.2.1 + sg M.1 p.2, M.2.2.2 - p.1)
def mvI : mvT := (false, 0, 0, 0)
/-- first as I does, then as O does -/
def mvJ (O I : mvT) : mvT := (O.1 != I.1, (if O.1 then O.2.1 + 4 - I.2.1 else O.2.1 + I.2.1) % 4, (mvA O (I.2.2.1, I.2.2.2)).1, (mvA O (I.2.2.1, I.2.2.2)).2)
theorem mvI_A (p : Int × Int) : mvA mvI p = p := by
  show (0 + p.1, 0 + sg false p.2) = p
  unfold sg
  rw [if_neg (by decide), Int.zero_add, Int.zero_add]
theorem sv_q4 {q : Nat} (h : q < 4) : q = 0 ∨ q = 1 ∨ q = 2 ∨ q = 3 := by omega
theorem mvJ_A {O I : mvT} (hO : O.2.1 < 4) (hI : I.2.1 < 4) (p : Int × Int) : mvA (mvJ O I) p = mvA O (mvA I p) := by
  obtain ⟨om, oq, ox, oy⟩ := O
  obtain ⟨im, iq, ix, iy⟩ := I
  obtain ⟨px, py⟩ := p
  rcases sv_q4 hO with rfl | rfl | rfl | rfl <;> rcases sv_q4 hI with rfl | rfl | rfl | rfl <;> cases om <;> cases im <;> (simp only [mvJ, mvA, sg, Prod.mk.injEq]; simp; omega)
theorem mvJ_q (O I : mvT) : (mvJ O I).2.1 < 4 := Nat.mod_lt _ (by decide)
/-- which way a side comes to face; a corner comes to point -/
def mvF (M : mvT) (f : Nat) : Nat := ((if M.1 then 8 - f else f) + M.2.1) % 4
def mvK (M : mvT) (f : Nat) : Nat := if M.1 then mvF M (f + 1) else mvF M f
abbrev mvC (M : mvT) : Option va_E := some (.inr (2, [.int (if M.1 then 1 else 0), .int (nI M.2.1), .int (iN M.2.2.1), .int (iN M.2.2.2)]))
theorem mv_f1 : ∀ f, f < 5 → ∀ q, q < 4 → (- nI f + nI q) &&& 3 = nI ((8 - f + q) % 4) := by decide
theorem mv_f0 : ∀ f, f < 5 → ∀ q, q < 4 → (nI f + nI q) &&& 3 = nI ((f + q) % 4) := by decide
theorem mv_j1 : ∀ a, a < 4 → ∀ c, c < 4 → (nI a - nI c) &&& 3 = nI ((a + 4 - c) % 4) := by decide
theorem mv_j0 : ∀ a, a < 4 → ∀ c, c < 4 → (nI a + nI c) &&& 3 = nI ((a + c) % 4) := by decide
set_option maxHeartbeats 4000000 in
set_option maxRecDepth 100000 in
theorem c_xOf00 (G : sv_G) (h : sv_h) (z a : Nat) (x y px py : Int) (ha : h a = some (.inr (2, [.int 0, .int (nI 0), .int (iN x), .int (iN y)]))) : CT G mX4_xOf [.ref a, .int (iN px), .int (iN py)] h z (fun v h1 z1 => v = some (.int (iN (x + px))) ∧ h1 = h ∧ z1 = z) := by
  refine CT.of (by decide +kernel) rfl rfl (Nat.le_of_ble_eq_true rfl) ?_
  refine v_aload_n dX4_xOf_0 rfl 0 rfl ?_
  refine v_getf 0 (ci := 2) (C := RX4) (T := TX4) (N := 4) rfl iwX4_xOf_X4 (Nat.le_of_ble_eq_true rfl) (by decide +kernel) dX4_xOf_1 (by first | with_reducible assumption) rfl ?_
  refine v_if_eq (tgt := 12) dX4_xOf_4 (by decide) (fun c_4 => ?_) (fun c_4 => ?_)
  · refine v_iload_n dX4_xOf_12 rfl 2 rfl ?_
    refine v_istore_n (L' := [(3, _), (0, _), (1, _), (2, _)]) dX4_xOf_13 rfl (Nat.le_of_ble_eq_true rfl) rfl ?_
    refine v_aload_n dX4_xOf_14 rfl 1 rfl ?_
    refine v_getf 1 (ci := 2) (C := RX4) (T := TX4) (N := 4) rfl iwX4_xOf_X4 (Nat.le_of_ble_eq_true rfl) (by decide +kernel) dX4_xOf_15 (by first | with_reducible assumption) rfl ?_
    refine v_tableIn (off := 26) (tgt := 44) dX4_xOf_18 (by decide) (by decide) (by decide) (by decide) ?_
    refine v_aload_n dX4_xOf_44 rfl 1 rfl ?_
    refine v_getf 2 (ci := 2) (C := RX4) (T := TX4) (N := 4) rfl iwX4_xOf_X4 (Nat.le_of_ble_eq_true rfl) (by decide +kernel) dX4_xOf_45 (by first | with_reducible assumption) rfl ?_
    refine v_iload_n dX4_xOf_48 rfl 2 rfl ?_
    refine v_iadd dX4_xOf_49 ?_
    exact v_iret rfl dX4_xOf_50 (Nat.le_of_ble_eq_true rfl) (Nat.le_of_ble_eq_true rfl) rfl ⟨by rw [iN_add], rfl, rfl⟩
  · exact absurd rfl c_4

set_option maxHeartbeats 4000000 in
set_option maxRecDepth 100000 in
theorem c_xOf01 (G : sv_G) (h : sv_h) (z a : Nat) (x y px py : Int) (ha : h a = some (.inr (2, [.int 0, .int (nI 1), .int (iN x), .int (iN y)]))) : CT G mX4_xOf [.ref a, .int (iN px), .int (iN py)] h z (fun v h1 z1 => v = some (.int (iN (x - py))) ∧ h1 = h ∧ z1 = z) := by
  refine CT.of (by decide +kernel) rfl rfl (Nat.le_of_ble_eq_true rfl) ?_
  refine v_aload_n dX4_xOf_0 rfl 0 rfl ?_
  refine v_getf 0 (ci := 2) (C := RX4) (T := TX4) (N := 4) rfl iwX4_xOf_X4 (Nat.le_of_ble_eq_true rfl) (by decide +kernel) dX4_xOf_1 (by first | with_reducible assumption) rfl ?_
  refine v_if_eq (tgt := 12) dX4_xOf_4 (by decide) (fun c_4 => ?_) (fun c_4 => ?_)
  · refine v_iload_n dX4_xOf_12 rfl 2 rfl ?_
    refine v_istore_n (L' := [(3, _), (0, _), (1, _), (2, _)]) dX4_xOf_13 rfl (Nat.le_of_ble_eq_true rfl) rfl ?_
    refine v_aload_n dX4_xOf_14 rfl 1 rfl ?_
    refine v_getf 1 (ci := 2) (C := RX4) (T := TX4) (N := 4) rfl iwX4_xOf_X4 (Nat.le_of_ble_eq_true rfl) (by decide +kernel) dX4_xOf_15 (by first | with_reducible assumption) rfl ?_
    refine v_tableIn (off := 33) (tgt := 51) dX4_xOf_18 (by decide) (by decide) (by decide) (by decide) ?_
    refine v_aload_n dX4_xOf_51 rfl 1 rfl ?_
    refine v_getf 2 (ci := 2) (C := RX4) (T := TX4) (N := 4) rfl iwX4_xOf_X4 (Nat.le_of_ble_eq_true rfl) (by decide +kernel) dX4_xOf_52 (by first | with_reducible assumption) rfl ?_
    refine v_iload_n dX4_xOf_55 rfl 0 rfl ?_
    refine v_isub dX4_xOf_56 ?_
    exact v_iret rfl dX4_xOf_57 (Nat.le_of_ble_eq_true rfl) (Nat.le_of_ble_eq_true rfl) rfl ⟨by rw [iN_sub], rfl, rfl⟩
  · exact absurd rfl c_4

set_option maxHeartbeats 4000000 in
set_option maxRecDepth 100000 in
theorem c_xOf02 (G : sv_G) (h : sv_h) (z a : Nat) (x y px py : Int) (ha : h a = some (.inr (2, [.int 0, .int (nI 2), .int (iN x), .int (iN y)]))) : CT G mX4_xOf [.ref a, .int (iN px), .int (iN py)] h z (fun v h1 z1 => v = some (.int (iN (x - px))) ∧ h1 = h ∧ z1 = z) := by
  refine CT.of (by decide +kernel) rfl rfl (Nat.le_of_ble_eq_true rfl) ?_
  refine v_aload_n dX4_xOf_0 rfl 0 rfl ?_
  refine v_getf 0 (ci := 2) (C := RX4) (T := TX4) (N := 4) rfl iwX4_xOf_X4 (Nat.le_of_ble_eq_true rfl) (by decide +kernel) dX4_xOf_1 (by first | with_reducible assumption) rfl ?_
  refine v_if_eq (tgt := 12) dX4_xOf_4 (by decide) (fun c_4 => ?_) (fun c_4 => ?_)
  · refine v_iload_n dX4_xOf_12 rfl 2 rfl ?_
    refine v_istore_n (L' := [(3, _), (0, _), (1, _), (2, _)]) dX4_xOf_13 rfl (Nat.le_of_ble_eq_true rfl) rfl ?_
    refine v_aload_n dX4_xOf_14 rfl 1 rfl ?_
    refine v_getf 1 (ci := 2) (C := RX4) (T := TX4) (N := 4) rfl iwX4_xOf_X4 (Nat.le_of_ble_eq_true rfl) (by decide +kernel) dX4_xOf_15 (by first | with_reducible assumption) rfl ?_
    refine v_tableIn (off := 40) (tgt := 58) dX4_xOf_18 (by decide) (by decide) (by decide) (by decide) ?_
    refine v_aload_n dX4_xOf_58 rfl 1 rfl ?_
    refine v_getf 2 (ci := 2) (C := RX4) (T := TX4) (N := 4) rfl iwX4_xOf_X4 (Nat.le_of_ble_eq_true rfl) (by decide +kernel) dX4_xOf_59 (by first | with_reducible assumption) rfl ?_
    refine v_iload_n dX4_xOf_62 rfl 2 rfl ?_
    refine v_isub dX4_xOf_63 ?_
    exact v_iret rfl dX4_xOf_64 (Nat.le_of_ble_eq_true rfl) (Nat.le_of_ble_eq_true rfl) rfl ⟨by rw [iN_sub], rfl, rfl⟩
  · exact absurd rfl c_4

set_option maxHeartbeats 4000000 in
set_option maxRecDepth 100000 in
theorem c_xOf03 (G : sv_G) (h : sv_h) (z a : Nat) (x y px py : Int) (ha : h a = some (.inr (2, [.int 0, .int (nI 3), .int (iN x), .int (iN y)]))) : CT G mX4_xOf [.ref a, .int (iN px), .int (iN py)] h z (fun v h1 z1 => v = some (.int (iN (x + py))) ∧ h1 = h ∧ z1 = z) := by
  refine CT.of (by decide +kernel) rfl rfl (Nat.le_of_ble_eq_true rfl) ?_
  refine v_aload_n dX4_xOf_0 rfl 0 rfl ?_
  refine v_getf 0 (ci := 2) (C := RX4) (T := TX4) (N := 4) rfl iwX4_xOf_X4 (Nat.le_of_ble_eq_true rfl) (by decide +kernel) dX4_xOf_1 (by first | with_reducible assumption) rfl ?_
  refine v_if_eq (tgt := 12) dX4_xOf_4 (by decide) (fun c_4 => ?_) (fun c_4 => ?_)
  · refine v_iload_n dX4_xOf_12 rfl 2 rfl ?_
    refine v_istore_n (L' := [(3, _), (0, _), (1, _), (2, _)]) dX4_xOf_13 rfl (Nat.le_of_ble_eq_true rfl) rfl ?_
    refine v_aload_n dX4_xOf_14 rfl 1 rfl ?_
    refine v_getf 1 (ci := 2) (C := RX4) (T := TX4) (N := 4) rfl iwX4_xOf_X4 (Nat.le_of_ble_eq_true rfl) (by decide +kernel) dX4_xOf_15 (by first | with_reducible assumption) rfl ?_
    refine v_tableOut (tgt := 65) dX4_xOf_18 (by decide) (by decide) ?_
    refine v_aload_n dX4_xOf_65 rfl 1 rfl ?_
    refine v_getf 2 (ci := 2) (C := RX4) (T := TX4) (N := 4) rfl iwX4_xOf_X4 (Nat.le_of_ble_eq_true rfl) (by decide +kernel) dX4_xOf_66 (by first | with_reducible assumption) rfl ?_
    refine v_iload_n dX4_xOf_69 rfl 0 rfl ?_
    refine v_iadd dX4_xOf_70 ?_
    exact v_iret rfl dX4_xOf_71 (Nat.le_of_ble_eq_true rfl) (Nat.le_of_ble_eq_true rfl) rfl ⟨by rw [iN_add], rfl, rfl⟩
  · exact absurd rfl c_4

set_option maxHeartbeats 4000000 in
set_option maxRecDepth 100000 in
theorem c_xOf10 (G : sv_G) (h : sv_h) (z a : Nat) (x y px py : Int) (ha : h a = some (.inr (2, [.int 1, .int (nI 0), .int (iN x), .int (iN y)]))) : CT G mX4_xOf [.ref a, .int (iN px), .int (iN py)] h z (fun v h1 z1 => v = some (.int (iN (x + px))) ∧ h1 = h ∧ z1 = z) := by
  refine CT.of (by decide +kernel) rfl rfl (Nat.le_of_ble_eq_true rfl) ?_
  refine v_aload_n dX4_xOf_0 rfl 0 rfl ?_
  refine v_getf 0 (ci := 2) (C := RX4) (T := TX4) (N := 4) rfl iwX4_xOf_X4 (Nat.le_of_ble_eq_true rfl) (by decide +kernel) dX4_xOf_1 (by first | with_reducible assumption) rfl ?_
  refine v_if_eq (tgt := 12) dX4_xOf_4 (by decide) (fun c_4 => ?_) (fun c_4 => ?_)
  · exact absurd c_4 (by decide)
  · refine v_iload_n dX4_xOf_7 rfl 2 rfl ?_
    refine v_ineg dX4_xOf_8 ?_
    refine v_goto (tgt := 13) dX4_xOf_9 (by decide) ?_
    refine v_istore_n (L' := [(3, _), (0, _), (1, _), (2, _)]) dX4_xOf_13 rfl (Nat.le_of_ble_eq_true rfl) rfl ?_
    refine v_aload_n dX4_xOf_14 rfl 1 rfl ?_
    refine v_getf 1 (ci := 2) (C := RX4) (T := TX4) (N := 4) rfl iwX4_xOf_X4 (Nat.le_of_ble_eq_true rfl) (by decide +kernel) dX4_xOf_15 (by first | with_reducible assumption) rfl ?_
    refine v_tableIn (off := 26) (tgt := 44) dX4_xOf_18 (by decide) (by decide) (by decide) (by decide) ?_
    refine v_aload_n dX4_xOf_44 rfl 1 rfl ?_
    refine v_getf 2 (ci := 2) (C := RX4) (T := TX4) (N := 4) rfl iwX4_xOf_X4 (Nat.le_of_ble_eq_true rfl) (by decide +kernel) dX4_xOf_45 (by first | with_reducible assumption) rfl ?_
    refine v_iload_n dX4_xOf_48 rfl 2 rfl ?_
    refine v_iadd dX4_xOf_49 ?_
    exact v_iret rfl dX4_xOf_50 (Nat.le_of_ble_eq_true rfl) (Nat.le_of_ble_eq_true rfl) rfl ⟨by rw [iN_add], rfl, rfl⟩

set_option maxHeartbeats 4000000 in
set_option maxRecDepth 100000 in
theorem c_xOf11 (G : sv_G) (h : sv_h) (z a : Nat) (x y px py : Int) (ha : h a = some (.inr (2, [.int 1, .int (nI 1), .int (iN x), .int (iN y)]))) : CT G mX4_xOf [.ref a, .int (iN px), .int (iN py)] h z (fun v h1 z1 => v = some (.int (iN (x - -py))) ∧ h1 = h ∧ z1 = z) := by
  refine CT.of (by decide +kernel) rfl rfl (Nat.le_of_ble_eq_true rfl) ?_
  refine v_aload_n dX4_xOf_0 rfl 0 rfl ?_
  refine v_getf 0 (ci := 2) (C := RX4) (T := TX4) (N := 4) rfl iwX4_xOf_X4 (Nat.le_of_ble_eq_true rfl) (by decide +kernel) dX4_xOf_1 (by first | with_reducible assumption) rfl ?_
  refine v_if_eq (tgt := 12) dX4_xOf_4 (by decide) (fun c_4 => ?_) (fun c_4 => ?_)
  · exact absurd c_4 (by decide)
  · refine v_iload_n dX4_xOf_7 rfl 2 rfl ?_
    refine v_ineg dX4_xOf_8 ?_
    refine v_goto (tgt := 13) dX4_xOf_9 (by decide) ?_
    refine v_istore_n (L' := [(3, _), (0, _), (1, _), (2, _)]) dX4_xOf_13 rfl (Nat.le_of_ble_eq_true rfl) rfl ?_
    refine v_aload_n dX4_xOf_14 rfl 1 rfl ?_
    refine v_getf 1 (ci := 2) (C := RX4) (T := TX4) (N := 4) rfl iwX4_xOf_X4 (Nat.le_of_ble_eq_true rfl) (by decide +kernel) dX4_xOf_15 (by first | with_reducible assumption) rfl ?_
    refine v_tableIn (off := 33) (tgt := 51) dX4_xOf_18 (by decide) (by decide) (by decide) (by decide) ?_
    refine v_aload_n dX4_xOf_51 rfl 1 rfl ?_
    refine v_getf 2 (ci := 2) (C := RX4) (T := TX4) (N := 4) rfl iwX4_xOf_X4 (Nat.le_of_ble_eq_true rfl) (by decide +kernel) dX4_xOf_52 (by first | with_reducible assumption) rfl ?_
    refine v_iload_n dX4_xOf_55 rfl 0 rfl ?_
    refine v_isub dX4_xOf_56 ?_
    exact v_iret rfl dX4_xOf_57 (Nat.le_of_ble_eq_true rfl) (Nat.le_of_ble_eq_true rfl) rfl ⟨by rw [iN_sub, iN_neg], rfl, rfl⟩

set_option maxHeartbeats 4000000 in
set_option maxRecDepth 100000 in
theorem c_xOf12 (G : sv_G) (h : sv_h) (z a : Nat) (x y px py : Int) (ha : h a = some (.inr (2, [.int 1, .int (nI 2), .int (iN x), .int (iN y)]))) : CT G mX4_xOf [.ref a, .int (iN px), .int (iN py)] h z (fun v h1 z1 => v = some (.int (iN (x - px))) ∧ h1 = h ∧ z1 = z) := by
  refine CT.of (by decide +kernel) rfl rfl (Nat.le_of_ble_eq_true rfl) ?_
  refine v_aload_n dX4_xOf_0 rfl 0 rfl ?_
  refine v_getf 0 (ci := 2) (C := RX4) (T := TX4) (N := 4) rfl iwX4_xOf_X4 (Nat.le_of_ble_eq_true rfl) (by decide +kernel) dX4_xOf_1 (by first | with_reducible assumption) rfl ?_
  refine v_if_eq (tgt := 12) dX4_xOf_4 (by decide) (fun c_4 => ?_) (fun c_4 => ?_)
  · exact absurd c_4 (by decide)
  · refine v_iload_n dX4_xOf_7 rfl 2 rfl ?_
    refine v_ineg dX4_xOf_8 ?_
    refine v_goto (tgt := 13) dX4_xOf_9 (by decide) ?_
    refine v_istore_n (L' := [(3, _), (0, _), (1, _), (2, _)]) dX4_xOf_13 rfl (Nat.le_of_ble_eq_true rfl) rfl ?_
    refine v_aload_n dX4_xOf_14 rfl 1 rfl ?_
    refine v_getf 1 (ci := 2) (C := RX4) (T := TX4) (N := 4) rfl iwX4_xOf_X4 (Nat.le_of_ble_eq_true rfl) (by decide +kernel) dX4_xOf_15 (by first | with_reducible assumption) rfl ?_
    refine v_tableIn (off := 40) (tgt := 58) dX4_xOf_18 (by decide) (by decide) (by decide) (by decide) ?_
    refine v_aload_n dX4_xOf_58 rfl 1 rfl ?_
    refine v_getf 2 (ci := 2) (C := RX4) (T := TX4) (N := 4) rfl iwX4_xOf_X4 (Nat.le_of_ble_eq_true rfl) (by decide +kernel) dX4_xOf_59 (by first | with_reducible assumption) rfl ?_
    refine v_iload_n dX4_xOf_62 rfl 2 rfl ?_
    refine v_isub dX4_xOf_63 ?_
    exact v_iret rfl dX4_xOf_64 (Nat.le_of_ble_eq_true rfl) (Nat.le_of_ble_eq_true rfl) rfl ⟨by rw [iN_sub], rfl, rfl⟩

set_option maxHeartbeats 4000000 in
set_option maxRecDepth 100000 in
theorem c_xOf13 (G : sv_G) (h : sv_h) (z a : Nat) (x y px py : Int) (ha : h a = some (.inr (2, [.int 1, .int (nI 3), .int (iN x), .int (iN y)]))) : CT G mX4_xOf [.ref a, .int (iN px), .int (iN py)] h z (fun v h1 z1 => v = some (.int (iN (x + -py))) ∧ h1 = h ∧ z1 = z) := by
  refine CT.of (by decide +kernel) rfl rfl (Nat.le_of_ble_eq_true rfl) ?_
  refine v_aload_n dX4_xOf_0 rfl 0 rfl ?_
  refine v_getf 0 (ci := 2) (C := RX4) (T := TX4) (N := 4) rfl iwX4_xOf_X4 (Nat.le_of_ble_eq_true rfl) (by decide +kernel) dX4_xOf_1 (by first | with_reducible assumption) rfl ?_
  refine v_if_eq (tgt := 12) dX4_xOf_4 (by decide) (fun c_4 => ?_) (fun c_4 => ?_)
  · exact absurd c_4 (by decide)
  · refine v_iload_n dX4_xOf_7 rfl 2 rfl ?_
    refine v_ineg dX4_xOf_8 ?_
    refine v_goto (tgt := 13) dX4_xOf_9 (by decide) ?_
    refine v_istore_n (L' := [(3, _), (0, _), (1, _), (2, _)]) dX4_xOf_13 rfl (Nat.le_of_ble_eq_true rfl) rfl ?_
    refine v_aload_n dX4_xOf_14 rfl 1 rfl ?_
    refine v_getf 1 (ci := 2) (C := RX4) (T := TX4) (N := 4) rfl iwX4_xOf_X4 (Nat.le_of_ble_eq_true rfl) (by decide +kernel) dX4_xOf_15 (by first | with_reducible assumption) rfl ?_
    refine v_tableOut (tgt := 65) dX4_xOf_18 (by decide) (by decide) ?_
    refine v_aload_n dX4_xOf_65 rfl 1 rfl ?_
    refine v_getf 2 (ci := 2) (C := RX4) (T := TX4) (N := 4) rfl iwX4_xOf_X4 (Nat.le_of_ble_eq_true rfl) (by decide +kernel) dX4_xOf_66 (by first | with_reducible assumption) rfl ?_
    refine v_iload_n dX4_xOf_69 rfl 0 rfl ?_
    refine v_iadd dX4_xOf_70 ?_
    exact v_iret rfl dX4_xOf_71 (Nat.le_of_ble_eq_true rfl) (Nat.le_of_ble_eq_true rfl) rfl ⟨by rw [iN_add, iN_neg], rfl, rfl⟩

theorem c_xOf (G : sv_G) (h : sv_h) (z a : Nat) (M : mvT) (hM : M.2.1 < 4) (ha : h a = mvC M) (px py : Int) : CT G mX4_xOf [.ref a, .int (iN px), .int (iN py)] h z (fun v h1 z1 => v = some (.int (iN (mvA M (px, py)).1)) ∧ h1 = h ∧ z1 = z) := by
  obtain ⟨m, q, x, y⟩ := M
  rcases sv_q4 hM with rfl | rfl | rfl | rfl <;> cases m
  · exact c_xOf00 G h z a x y px py ha
  · exact c_xOf10 G h z a x y px py ha
  · exact c_xOf01 G h z a x y px py ha
  · exact c_xOf11 G h z a x y px py ha
  · exact c_xOf02 G h z a x y px py ha
  · exact c_xOf12 G h z a x y px py ha
  · exact c_xOf03 G h z a x y px py ha
  · exact c_xOf13 G h z a x y px py ha
set_option maxHeartbeats 4000000 in
set_option maxRecDepth 100000 in
theorem c_yOf00 (G : sv_G) (h : sv_h) (z a : Nat) (x y px py : Int) (ha : h a = some (.inr (2, [.int 0, .int (nI 0), .int (iN x), .int (iN y)]))) : CT G mX4_yOf [.ref a, .int (iN px), .int (iN py)] h z (fun v h1 z1 => v = some (.int (iN (y + py))) ∧ h1 = h ∧ z1 = z) := by
  refine CT.of (by decide +kernel) rfl rfl (Nat.le_of_ble_eq_true rfl) ?_
  refine v_aload_n dX4_yOf_0 rfl 0 rfl ?_
  refine v_getf 0 (ci := 2) (C := RX4) (T := TX4) (N := 4) rfl iwX4_yOf_X4 (Nat.le_of_ble_eq_true rfl) (by decide +kernel) dX4_yOf_1 (by first | with_reducible assumption) rfl ?_
  refine v_if_eq (tgt := 12) dX4_yOf_4 (by decide) (fun c_4 => ?_) (fun c_4 => ?_)
  · refine v_iload_n dX4_yOf_12 rfl 2 rfl ?_
    refine v_istore_n (L' := [(3, _), (0, _), (1, _), (2, _)]) dX4_yOf_13 rfl (Nat.le_of_ble_eq_true rfl) rfl ?_
    refine v_aload_n dX4_yOf_14 rfl 1 rfl ?_
    refine v_getf 1 (ci := 2) (C := RX4) (T := TX4) (N := 4) rfl iwX4_yOf_X4 (Nat.le_of_ble_eq_true rfl) (by decide +kernel) dX4_yOf_15 (by first | with_reducible assumption) rfl ?_
    refine v_tableIn (off := 26) (tgt := 44) dX4_yOf_18 (by decide) (by decide) (by decide) (by decide) ?_
    refine v_aload_n dX4_yOf_44 rfl 1 rfl ?_
    refine v_getf 3 (ci := 2) (C := RX4) (T := TX4) (N := 4) rfl iwX4_yOf_X4 (Nat.le_of_ble_eq_true rfl) (by decide +kernel) dX4_yOf_45 (by first | with_reducible assumption) rfl ?_
    refine v_iload_n dX4_yOf_48 rfl 0 rfl ?_
    refine v_iadd dX4_yOf_49 ?_
    exact v_iret rfl dX4_yOf_50 (Nat.le_of_ble_eq_true rfl) (Nat.le_of_ble_eq_true rfl) rfl ⟨by rw [iN_add], rfl, rfl⟩
  · exact absurd rfl c_4

set_option maxHeartbeats 4000000 in
set_option maxRecDepth 100000 in
theorem c_yOf01 (G : sv_G) (h : sv_h) (z a : Nat) (x y px py : Int) (ha : h a = some (.inr (2, [.int 0, .int (nI 1), .int (iN x), .int (iN y)]))) : CT G mX4_yOf [.ref a, .int (iN px), .int (iN py)] h z (fun v h1 z1 => v = some (.int (iN (y + px))) ∧ h1 = h ∧ z1 = z) := by
  refine CT.of (by decide +kernel) rfl rfl (Nat.le_of_ble_eq_true rfl) ?_
  refine v_aload_n dX4_yOf_0 rfl 0 rfl ?_
  refine v_getf 0 (ci := 2) (C := RX4) (T := TX4) (N := 4) rfl iwX4_yOf_X4 (Nat.le_of_ble_eq_true rfl) (by decide +kernel) dX4_yOf_1 (by first | with_reducible assumption) rfl ?_
  refine v_if_eq (tgt := 12) dX4_yOf_4 (by decide) (fun c_4 => ?_) (fun c_4 => ?_)
  · refine v_iload_n dX4_yOf_12 rfl 2 rfl ?_
    refine v_istore_n (L' := [(3, _), (0, _), (1, _), (2, _)]) dX4_yOf_13 rfl (Nat.le_of_ble_eq_true rfl) rfl ?_
    refine v_aload_n dX4_yOf_14 rfl 1 rfl ?_
    refine v_getf 1 (ci := 2) (C := RX4) (T := TX4) (N := 4) rfl iwX4_yOf_X4 (Nat.le_of_ble_eq_true rfl) (by decide +kernel) dX4_yOf_15 (by first | with_reducible assumption) rfl ?_
    refine v_tableIn (off := 33) (tgt := 51) dX4_yOf_18 (by decide) (by decide) (by decide) (by decide) ?_
    refine v_aload_n dX4_yOf_51 rfl 1 rfl ?_
    refine v_getf 3 (ci := 2) (C := RX4) (T := TX4) (N := 4) rfl iwX4_yOf_X4 (Nat.le_of_ble_eq_true rfl) (by decide +kernel) dX4_yOf_52 (by first | with_reducible assumption) rfl ?_
    refine v_iload_n dX4_yOf_55 rfl 2 rfl ?_
    refine v_iadd dX4_yOf_56 ?_
    exact v_iret rfl dX4_yOf_57 (Nat.le_of_ble_eq_true rfl) (Nat.le_of_ble_eq_true rfl) rfl ⟨by rw [iN_add], rfl, rfl⟩
  · exact absurd rfl c_4

set_option maxHeartbeats 4000000 in
set_option maxRecDepth 100000 in
theorem c_yOf02 (G : sv_G) (h : sv_h) (z a : Nat) (x y px py : Int) (ha : h a = some (.inr (2, [.int 0, .int (nI 2), .int (iN x), .int (iN y)]))) : CT G mX4_yOf [.ref a, .int (iN px), .int (iN py)] h z (fun v h1 z1 => v = some (.int (iN (y - py))) ∧ h1 = h ∧ z1 = z) := by
  refine CT.of (by decide +kernel) rfl rfl (Nat.le_of_ble_eq_true rfl) ?_
  refine v_aload_n dX4_yOf_0 rfl 0 rfl ?_
  refine v_getf 0 (ci := 2) (C := RX4) (T := TX4) (N := 4) rfl iwX4_yOf_X4 (Nat.le_of_ble_eq_true rfl) (by decide +kernel) dX4_yOf_1 (by first | with_reducible assumption) rfl ?_
  refine v_if_eq (tgt := 12) dX4_yOf_4 (by decide) (fun c_4 => ?_) (fun c_4 => ?_)
  · refine v_iload_n dX4_yOf_12 rfl 2 rfl ?_
    refine v_istore_n (L' := [(3, _), (0, _), (1, _), (2, _)]) dX4_yOf_13 rfl (Nat.le_of_ble_eq_true rfl) rfl ?_
    refine v_aload_n dX4_yOf_14 rfl 1 rfl ?_
    refine v_getf 1 (ci := 2) (C := RX4) (T := TX4) (N := 4) rfl iwX4_yOf_X4 (Nat.le_of_ble_eq_true rfl) (by decide +kernel) dX4_yOf_15 (by first | with_reducible assumption) rfl ?_
    refine v_tableIn (off := 40) (tgt := 58) dX4_yOf_18 (by decide) (by decide) (by decide) (by decide) ?_
    refine v_aload_n dX4_yOf_58 rfl 1 rfl ?_
    refine v_getf 3 (ci := 2) (C := RX4) (T := TX4) (N := 4) rfl iwX4_yOf_X4 (Nat.le_of_ble_eq_true rfl) (by decide +kernel) dX4_yOf_59 (by first | with_reducible assumption) rfl ?_
    refine v_iload_n dX4_yOf_62 rfl 0 rfl ?_
    refine v_isub dX4_yOf_63 ?_
    exact v_iret rfl dX4_yOf_64 (Nat.le_of_ble_eq_true rfl) (Nat.le_of_ble_eq_true rfl) rfl ⟨by rw [iN_sub], rfl, rfl⟩
  · exact absurd rfl c_4

set_option maxHeartbeats 4000000 in
set_option maxRecDepth 100000 in
theorem c_yOf03 (G : sv_G) (h : sv_h) (z a : Nat) (x y px py : Int) (ha : h a = some (.inr (2, [.int 0, .int (nI 3), .int (iN x), .int (iN y)]))) : CT G mX4_yOf [.ref a, .int (iN px), .int (iN py)] h z (fun v h1 z1 => v = some (.int (iN (y - px))) ∧ h1 = h ∧ z1 = z) := by
  refine CT.of (by decide +kernel) rfl rfl (Nat.le_of_ble_eq_true rfl) ?_
  refine v_aload_n dX4_yOf_0 rfl 0 rfl ?_
  refine v_getf 0 (ci := 2) (C := RX4) (T := TX4) (N := 4) rfl iwX4_yOf_X4 (Nat.le_of_ble_eq_true rfl) (by decide +kernel) dX4_yOf_1 (by first | with_reducible assumption) rfl ?_
  refine v_if_eq (tgt := 12) dX4_yOf_4 (by decide) (fun c_4 => ?_) (fun c_4 => ?_)
  · refine v_iload_n dX4_yOf_12 rfl 2 rfl ?_
    refine v_istore_n (L' := [(3, _), (0, _), (1, _), (2, _)]) dX4_yOf_13 rfl (Nat.le_of_ble_eq_true rfl) rfl ?_
    refine v_aload_n dX4_yOf_14 rfl 1 rfl ?_
    refine v_getf 1 (ci := 2) (C := RX4) (T := TX4) (N := 4) rfl iwX4_yOf_X4 (Nat.le_of_ble_eq_true rfl) (by decide +kernel) dX4_yOf_15 (by first | with_reducible assumption) rfl ?_
    refine v_tableOut (tgt := 65) dX4_yOf_18 (by decide) (by decide) ?_
    refine v_aload_n dX4_yOf_65 rfl 1 rfl ?_
    refine v_getf 3 (ci := 2) (C := RX4) (T := TX4) (N := 4) rfl iwX4_yOf_X4 (Nat.le_of_ble_eq_true rfl) (by decide +kernel) dX4_yOf_66 (by first | with_reducible assumption) rfl ?_
    refine v_iload_n dX4_yOf_69 rfl 2 rfl ?_
    refine v_isub dX4_yOf_70 ?_
    exact v_iret rfl dX4_yOf_71 (Nat.le_of_ble_eq_true rfl) (Nat.le_of_ble_eq_true rfl) rfl ⟨by rw [iN_sub], rfl, rfl⟩
  · exact absurd rfl c_4

set_option maxHeartbeats 4000000 in
set_option maxRecDepth 100000 in
theorem c_yOf10 (G : sv_G) (h : sv_h) (z a : Nat) (x y px py : Int) (ha : h a = some (.inr (2, [.int 1, .int (nI 0), .int (iN x), .int (iN y)]))) : CT G mX4_yOf [.ref a, .int (iN px), .int (iN py)] h z (fun v h1 z1 => v = some (.int (iN (y + -py))) ∧ h1 = h ∧ z1 = z) := by
  refine CT.of (by decide +kernel) rfl rfl (Nat.le_of_ble_eq_true rfl) ?_
  refine v_aload_n dX4_yOf_0 rfl 0 rfl ?_
  refine v_getf 0 (ci := 2) (C := RX4) (T := TX4) (N := 4) rfl iwX4_yOf_X4 (Nat.le_of_ble_eq_true rfl) (by decide +kernel) dX4_yOf_1 (by first | with_reducible assumption) rfl ?_
  refine v_if_eq (tgt := 12) dX4_yOf_4 (by decide) (fun c_4 => ?_) (fun c_4 => ?_)
  · exact absurd c_4 (by decide)
  · refine v_iload_n dX4_yOf_7 rfl 2 rfl ?_
    refine v_ineg dX4_yOf_8 ?_
    refine v_goto (tgt := 13) dX4_yOf_9 (by decide) ?_
    refine v_istore_n (L' := [(3, _), (0, _), (1, _), (2, _)]) dX4_yOf_13 rfl (Nat.le_of_ble_eq_true rfl) rfl ?_
    refine v_aload_n dX4_yOf_14 rfl 1 rfl ?_
    refine v_getf 1 (ci := 2) (C := RX4) (T := TX4) (N := 4) rfl iwX4_yOf_X4 (Nat.le_of_ble_eq_true rfl) (by decide +kernel) dX4_yOf_15 (by first | with_reducible assumption) rfl ?_
    refine v_tableIn (off := 26) (tgt := 44) dX4_yOf_18 (by decide) (by decide) (by decide) (by decide) ?_
    refine v_aload_n dX4_yOf_44 rfl 1 rfl ?_
    refine v_getf 3 (ci := 2) (C := RX4) (T := TX4) (N := 4) rfl iwX4_yOf_X4 (Nat.le_of_ble_eq_true rfl) (by decide +kernel) dX4_yOf_45 (by first | with_reducible assumption) rfl ?_
    refine v_iload_n dX4_yOf_48 rfl 0 rfl ?_
    refine v_iadd dX4_yOf_49 ?_
    exact v_iret rfl dX4_yOf_50 (Nat.le_of_ble_eq_true rfl) (Nat.le_of_ble_eq_true rfl) rfl ⟨by rw [iN_add, iN_neg], rfl, rfl⟩

set_option maxHeartbeats 4000000 in
set_option maxRecDepth 100000 in
theorem c_yOf11 (G : sv_G) (h : sv_h) (z a : Nat) (x y px py : Int) (ha : h a = some (.inr (2, [.int 1, .int (nI 1), .int (iN x), .int (iN y)]))) : CT G mX4_yOf [.ref a, .int (iN px), .int (iN py)] h z (fun v h1 z1 => v = some (.int (iN (y + px))) ∧ h1 = h ∧ z1 = z) := by
  refine CT.of (by decide +kernel) rfl rfl (Nat.le_of_ble_eq_true rfl) ?_
  refine v_aload_n dX4_yOf_0 rfl 0 rfl ?_
  refine v_getf 0 (ci := 2) (C := RX4) (T := TX4) (N := 4) rfl iwX4_yOf_X4 (Nat.le_of_ble_eq_true rfl) (by decide +kernel) dX4_yOf_1 (by first | with_reducible assumption) rfl ?_
  refine v_if_eq (tgt := 12) dX4_yOf_4 (by decide) (fun c_4 => ?_) (fun c_4 => ?_)
  · exact absurd c_4 (by decide)
  · refine v_iload_n dX4_yOf_7 rfl 2 rfl ?_
    refine v_ineg dX4_yOf_8 ?_
    refine v_goto (tgt := 13) dX4_yOf_9 (by decide) ?_
    refine v_istore_n (L' := [(3, _), (0, _), (1, _), (2, _)]) dX4_yOf_13 rfl (Nat.le_of_ble_eq_true rfl) rfl ?_
    refine v_aload_n dX4_yOf_14 rfl 1 rfl ?_
    refine v_getf 1 (ci := 2) (C := RX4) (T := TX4) (N := 4) rfl iwX4_yOf_X4 (Nat.le_of_ble_eq_true rfl) (by decide +kernel) dX4_yOf_15 (by first | with_reducible assumption) rfl ?_
    refine v_tableIn (off := 33) (tgt := 51) dX4_yOf_18 (by decide) (by decide) (by decide) (by decide) ?_
    refine v_aload_n dX4_yOf_51 rfl 1 rfl ?_
    refine v_getf 3 (ci := 2) (C := RX4) (T := TX4) (N := 4) rfl iwX4_yOf_X4 (Nat.le_of_ble_eq_true rfl) (by decide +kernel) dX4_yOf_52 (by first | with_reducible assumption) rfl ?_
    refine v_iload_n dX4_yOf_55 rfl 2 rfl ?_
    refine v_iadd dX4_yOf_56 ?_
    exact v_iret rfl dX4_yOf_57 (Nat.le_of_ble_eq_true rfl) (Nat.le_of_ble_eq_true rfl) rfl ⟨by rw [iN_add], rfl, rfl⟩

set_option maxHeartbeats 4000000 in
set_option maxRecDepth 100000 in
theorem c_yOf12 (G : sv_G) (h : sv_h) (z a : Nat) (x y px py : Int) (ha : h a = some (.inr (2, [.int 1, .int (nI 2), .int (iN x), .int (iN y)]))) : CT G mX4_yOf [.ref a, .int (iN px), .int (iN py)] h z (fun v h1 z1 => v = some (.int (iN (y - -py))) ∧ h1 = h ∧ z1 = z) := by
  refine CT.of (by decide +kernel) rfl rfl (Nat.le_of_ble_eq_true rfl) ?_
  refine v_aload_n dX4_yOf_0 rfl 0 rfl ?_
  refine v_getf 0 (ci := 2) (C := RX4) (T := TX4) (N := 4) rfl iwX4_yOf_X4 (Nat.le_of_ble_eq_true rfl) (by decide +kernel) dX4_yOf_1 (by first | with_reducible assumption) rfl ?_
  refine v_if_eq (tgt := 12) dX4_yOf_4 (by decide) (fun c_4 => ?_) (fun c_4 => ?_)
  · exact absurd c_4 (by decide)
  · refine v_iload_n dX4_yOf_7 rfl 2 rfl ?_
    refine v_ineg dX4_yOf_8 ?_
    refine v_goto (tgt := 13) dX4_yOf_9 (by decide) ?_
    refine v_istore_n (L' := [(3, _), (0, _), (1, _), (2, _)]) dX4_yOf_13 rfl (Nat.le_of_ble_eq_true rfl) rfl ?_
    refine v_aload_n dX4_yOf_14 rfl 1 rfl ?_
    refine v_getf 1 (ci := 2) (C := RX4) (T := TX4) (N := 4) rfl iwX4_yOf_X4 (Nat.le_of_ble_eq_true rfl) (by decide +kernel) dX4_yOf_15 (by first | with_reducible assumption) rfl ?_
    refine v_tableIn (off := 40) (tgt := 58) dX4_yOf_18 (by decide) (by decide) (by decide) (by decide) ?_
    refine v_aload_n dX4_yOf_58 rfl 1 rfl ?_
    refine v_getf 3 (ci := 2) (C := RX4) (T := TX4) (N := 4) rfl iwX4_yOf_X4 (Nat.le_of_ble_eq_true rfl) (by decide +kernel) dX4_yOf_59 (by first | with_reducible assumption) rfl ?_
    refine v_iload_n dX4_yOf_62 rfl 0 rfl ?_
    refine v_isub dX4_yOf_63 ?_
    exact v_iret rfl dX4_yOf_64 (Nat.le_of_ble_eq_true rfl) (Nat.le_of_ble_eq_true rfl) rfl ⟨by rw [iN_sub, iN_neg], rfl, rfl⟩

set_option maxHeartbeats 4000000 in
set_option maxRecDepth 100000 in
theorem c_yOf13 (G : sv_G) (h : sv_h) (z a : Nat) (x y px py : Int) (ha : h a = some (.inr (2, [.int 1, .int (nI 3), .int (iN x), .int (iN y)]))) : CT G mX4_yOf [.ref a, .int (iN px), .int (iN py)] h z (fun v h1 z1 => v = some (.int (iN (y - px))) ∧ h1 = h ∧ z1 = z) := by
  refine CT.of (by decide +kernel) rfl rfl (Nat.le_of_ble_eq_true rfl) ?_
  refine v_aload_n dX4_yOf_0 rfl 0 rfl ?_
  refine v_getf 0 (ci := 2) (C := RX4) (T := TX4) (N := 4) rfl iwX4_yOf_X4 (Nat.le_of_ble_eq_true rfl) (by decide +kernel) dX4_yOf_1 (by first | with_reducible assumption) rfl ?_
  refine v_if_eq (tgt := 12) dX4_yOf_4 (by decide) (fun c_4 => ?_) (fun c_4 => ?_)
  · exact absurd c_4 (by decide)
  · refine v_iload_n dX4_yOf_7 rfl 2 rfl ?_
    refine v_ineg dX4_yOf_8 ?_
    refine v_goto (tgt := 13) dX4_yOf_9 (by decide) ?_
    refine v_istore_n (L' := [(3, _), (0, _), (1, _), (2, _)]) dX4_yOf_13 rfl (Nat.le_of_ble_eq_true rfl) rfl ?_
    refine v_aload_n dX4_yOf_14 rfl 1 rfl ?_
    refine v_getf 1 (ci := 2) (C := RX4) (T := TX4) (N := 4) rfl iwX4_yOf_X4 (Nat.le_of_ble_eq_true rfl) (by decide +kernel) dX4_yOf_15 (by first | with_reducible assumption) rfl ?_
    refine v_tableOut (tgt := 65) dX4_yOf_18 (by decide) (by decide) ?_
    refine v_aload_n dX4_yOf_65 rfl 1 rfl ?_
    refine v_getf 3 (ci := 2) (C := RX4) (T := TX4) (N := 4) rfl iwX4_yOf_X4 (Nat.le_of_ble_eq_true rfl) (by decide +kernel) dX4_yOf_66 (by first | with_reducible assumption) rfl ?_
    refine v_iload_n dX4_yOf_69 rfl 2 rfl ?_
    refine v_isub dX4_yOf_70 ?_
    exact v_iret rfl dX4_yOf_71 (Nat.le_of_ble_eq_true rfl) (Nat.le_of_ble_eq_true rfl) rfl ⟨by rw [iN_sub], rfl, rfl⟩

theorem c_yOf (G : sv_G) (h : sv_h) (z a : Nat) (M : mvT) (hM : M.2.1 < 4) (ha : h a = mvC M) (px py : Int) : CT G mX4_yOf [.ref a, .int (iN px), .int (iN py)] h z (fun v h1 z1 => v = some (.int (iN (mvA M (px, py)).2)) ∧ h1 = h ∧ z1 = z) := by
  obtain ⟨m, q, x, y⟩ := M
  rcases sv_q4 hM with rfl | rfl | rfl | rfl <;> cases m
  · exact c_yOf00 G h z a x y px py ha
  · exact c_yOf10 G h z a x y px py ha
  · exact c_yOf01 G h z a x y px py ha
  · exact c_yOf11 G h z a x y px py ha
  · exact c_yOf02 G h z a x y px py ha
  · exact c_yOf12 G h z a x y px py ha
  · exact c_yOf03 G h z a x y px py ha
  · exact c_yOf13 G h z a x y px py ha
set_option maxHeartbeats 4000000 in
set_option maxRecDepth 100000 in
theorem c_faceOf0 (G : sv_G) (h : sv_h) (z a q : Nat) (x y : Int) (hM : q < 4) (ha : h a = some (.inr (2, [.int 0, .int (nI q), .int (iN x), .int (iN y)]))) (f : Nat) (hf : f < 5) : CT G mX4_faceOf [.ref a, .int (nI f)] h z (fun v h1 z1 => v = some (.int (nI (((f) + q) % 4))) ∧ h1 = h ∧ z1 = z) := by
  refine CT.of (by decide +kernel) rfl rfl (Nat.le_of_ble_eq_true rfl) ?_
  refine v_aload_n dX4_faceOf_0 rfl 0 rfl ?_
  refine v_getf 0 (ci := 2) (C := RX4) (T := TX4) (N := 4) rfl iwX4_faceOf_X4 (Nat.le_of_ble_eq_true rfl) (by decide +kernel) dX4_faceOf_1 (by first | with_reducible assumption) rfl ?_
  refine v_if_eq (tgt := 12) dX4_faceOf_4 (by decide) (fun c_4 => ?_) (fun c_4 => ?_)
  · refine v_iload_n dX4_faceOf_12 rfl 1 rfl ?_
    refine v_aload_n dX4_faceOf_13 rfl 0 rfl ?_
    refine v_getf 1 (ci := 2) (C := RX4) (T := TX4) (N := 4) rfl iwX4_faceOf_X4 (Nat.le_of_ble_eq_true rfl) (by decide +kernel) dX4_faceOf_14 (by first | with_reducible assumption) rfl ?_
    refine v_iadd dX4_faceOf_17 ?_
    refine v_iconst (v := 3) dX4_faceOf_18 (by decide) ?_
    refine v_iand dX4_faceOf_19 ?_
    exact v_iret rfl dX4_faceOf_20 (Nat.le_of_ble_eq_true rfl) (Nat.le_of_ble_eq_true rfl) rfl ⟨congrArg (fun q => some (Value.int q)) (mv_f0 f hf q hM), rfl, rfl⟩
  · exact absurd rfl c_4

set_option maxHeartbeats 4000000 in
set_option maxRecDepth 100000 in
theorem c_faceOf1 (G : sv_G) (h : sv_h) (z a q : Nat) (x y : Int) (hM : q < 4) (ha : h a = some (.inr (2, [.int 1, .int (nI q), .int (iN x), .int (iN y)]))) (f : Nat) (hf : f < 5) : CT G mX4_faceOf [.ref a, .int (nI f)] h z (fun v h1 z1 => v = some (.int (nI (((8 - f) + q) % 4))) ∧ h1 = h ∧ z1 = z) := by
  refine CT.of (by decide +kernel) rfl rfl (Nat.le_of_ble_eq_true rfl) ?_
  refine v_aload_n dX4_faceOf_0 rfl 0 rfl ?_
  refine v_getf 0 (ci := 2) (C := RX4) (T := TX4) (N := 4) rfl iwX4_faceOf_X4 (Nat.le_of_ble_eq_true rfl) (by decide +kernel) dX4_faceOf_1 (by first | with_reducible assumption) rfl ?_
  refine v_if_eq (tgt := 12) dX4_faceOf_4 (by decide) (fun c_4 => ?_) (fun c_4 => ?_)
  · exact absurd c_4 (by decide)
  · refine v_iload_n dX4_faceOf_7 rfl 1 rfl ?_
    refine v_ineg dX4_faceOf_8 ?_
    refine v_goto (tgt := 13) dX4_faceOf_9 (by decide) ?_
    refine v_aload_n dX4_faceOf_13 rfl 0 rfl ?_
    refine v_getf 1 (ci := 2) (C := RX4) (T := TX4) (N := 4) rfl iwX4_faceOf_X4 (Nat.le_of_ble_eq_true rfl) (by decide +kernel) dX4_faceOf_14 (by first | with_reducible assumption) rfl ?_
    refine v_iadd dX4_faceOf_17 ?_
    refine v_iconst (v := 3) dX4_faceOf_18 (by decide) ?_
    refine v_iand dX4_faceOf_19 ?_
    exact v_iret rfl dX4_faceOf_20 (Nat.le_of_ble_eq_true rfl) (Nat.le_of_ble_eq_true rfl) rfl ⟨congrArg (fun q => some (Value.int q)) (mv_f1 f hf q hM), rfl, rfl⟩

theorem c_faceOf (G : sv_G) (h : sv_h) (z a : Nat) (M : mvT) (hM : M.2.1 < 4) (ha : h a = mvC M) (f : Nat) (hf : f < 5) : CT G mX4_faceOf [.ref a, .int (nI f)] h z (fun v h1 z1 => v = some (.int (nI (mvF M f))) ∧ h1 = h ∧ z1 = z) := by
  obtain ⟨m, q, x, y⟩ := M
  cases m
  · exact c_faceOf0 G h z a q x y hM ha f hf
  · exact c_faceOf1 G h z a q x y hM ha f hf
set_option maxHeartbeats 4000000 in
set_option maxRecDepth 100000 in
theorem c_cornerOf0 (G : sv_G) (h : sv_h) (z a q : Nat) (x y : Int) (hM : q < 4) (ha : h a = some (.inr (2, [.int 0, .int (nI q), .int (iN x), .int (iN y)]))) (f : Nat) (hf : f < 4) : CT G mX4_cornerOf [.ref a, .int (nI f)] h z (fun v h1 z1 => v = some (.int (nI (mvK (false, q, x, y) f))) ∧ h1 = h ∧ z1 = z) := by
  refine CT.of (by decide +kernel) rfl rfl (Nat.le_of_ble_eq_true rfl) ?_
  refine v_aload_n dX4_cornerOf_0 rfl 0 rfl ?_
  refine v_getf 0 (ci := 2) (C := RX4) (T := TX4) (N := 4) rfl iwX4_cornerOf_X4 (Nat.le_of_ble_eq_true rfl) (by decide +kernel) dX4_cornerOf_1 (by first | with_reducible assumption) rfl ?_
  refine v_if_eq (tgt := 17) dX4_cornerOf_4 (by decide) (fun c_4 => ?_) (fun c_4 => ?_)
  · refine v_aload_n dX4_cornerOf_17 rfl 0 rfl ?_
    refine v_iload_n dX4_cornerOf_18 rfl 1 rfl ?_
    refine v_callVq (M' := mX4_faceOf) (n := 1) (As := [_]) (ci := 2) (r := (RX4, TX4, 4)) gX4_cornerOf_X4_faceOf rfl (by decide +kernel) ⟨(Nat.le_of_ble_eq_true rfl), (Nat.le_of_ble_eq_true rfl)⟩ rfl rfl dX4_cornerOf_19 rfl ⟨(Nat.le_of_ble_eq_true rfl), (Nat.le_of_ble_eq_true rfl)⟩ (Nat.le_of_ble_eq_true rfl) (by first | with_reducible assumption) rfl (c_faceOf G _ _ _ (false, q, x, y) hM ha (f) (by omega)) (fun v h1 z1 hq => v_pq hq ?_)
    exact v_iret rfl dX4_cornerOf_22 (Nat.le_of_ble_eq_true rfl) (Nat.le_of_ble_eq_true rfl) rfl ⟨rfl, rfl, rfl⟩
  · exact absurd rfl c_4

set_option maxHeartbeats 4000000 in
set_option maxRecDepth 100000 in
theorem c_cornerOf1 (G : sv_G) (h : sv_h) (z a q : Nat) (x y : Int) (hM : q < 4) (ha : h a = some (.inr (2, [.int 1, .int (nI q), .int (iN x), .int (iN y)]))) (f : Nat) (hf : f < 4) : CT G mX4_cornerOf [.ref a, .int (nI f)] h z (fun v h1 z1 => v = some (.int (nI (mvK (true, q, x, y) f))) ∧ h1 = h ∧ z1 = z) := by
  refine CT.of (by decide +kernel) rfl rfl (Nat.le_of_ble_eq_true rfl) ?_
  refine v_aload_n dX4_cornerOf_0 rfl 0 rfl ?_
  refine v_getf 0 (ci := 2) (C := RX4) (T := TX4) (N := 4) rfl iwX4_cornerOf_X4 (Nat.le_of_ble_eq_true rfl) (by decide +kernel) dX4_cornerOf_1 (by first | with_reducible assumption) rfl ?_
  refine v_if_eq (tgt := 17) dX4_cornerOf_4 (by decide) (fun c_4 => ?_) (fun c_4 => ?_)
  · exact absurd c_4 (by decide)
  · refine v_aload_n dX4_cornerOf_7 rfl 0 rfl ?_
    refine v_iload_n dX4_cornerOf_8 rfl 1 rfl ?_
    refine v_iconst (v := 1) dX4_cornerOf_9 (by decide) ?_
    refine v_iadd dX4_cornerOf_10 ?_
    rw [nI_1]
    refine v_callVq (M' := mX4_faceOf) (n := 1) (As := [_]) (ci := 2) (r := (RX4, TX4, 4)) gX4_cornerOf_X4_faceOf rfl (by decide +kernel) ⟨(Nat.le_of_ble_eq_true rfl), (Nat.le_of_ble_eq_true rfl)⟩ rfl rfl dX4_cornerOf_11 rfl ⟨(Nat.le_of_ble_eq_true rfl), (Nat.le_of_ble_eq_true rfl)⟩ (Nat.le_of_ble_eq_true rfl) (by first | with_reducible assumption) rfl (c_faceOf G _ _ _ (true, q, x, y) hM ha (f + 1) (by omega)) (fun v h1 z1 hq => v_pq hq ?_)
    refine v_goto (tgt := 22) dX4_cornerOf_14 (by decide) ?_
    exact v_iret rfl dX4_cornerOf_22 (Nat.le_of_ble_eq_true rfl) (Nat.le_of_ble_eq_true rfl) rfl ⟨rfl, rfl, rfl⟩

theorem c_cornerOf (G : sv_G) (h : sv_h) (z a : Nat) (M : mvT) (hM : M.2.1 < 4) (ha : h a = mvC M) (f : Nat) (hf : f < 4) : CT G mX4_cornerOf [.ref a, .int (nI f)] h z (fun v h1 z1 => v = some (.int (nI (mvK M f))) ∧ h1 = h ∧ z1 = z) := by
  obtain ⟨m, q, x, y⟩ := M
  cases m
  · exact c_cornerOf0 G h z a q x y hM ha f hf
  · exact c_cornerOf1 G h z a q x y hM ha f hf
set_option maxHeartbeats 4000000 in
set_option maxRecDepth 100000 in
theorem c_copy0 (G : sv_G) (h : sv_h) (z a c q : Nat) (x y : Int) (hac : a ≠ c) (y0 y1 y2 y3 : Int32) (h0 : h a = some (.inr (2, [.int y0, .int y1, .int y2, .int y3]))) (hc : h c = some (.inr (2, [.int 0, .int (nI q), .int (iN x), .int (iN y)]))) : CT G mX4_copy [.ref a, .ref c] h z (fun v h1 z1 => v = none ∧ z1 = z ∧ h1 a = mvC (false, q, x, y) ∧ ∀ w, w ≠ a → h1 w = h w) := by
  refine CT.of (by decide +kernel) rfl rfl (Nat.le_of_ble_eq_true rfl) ?_
  refine v_aload_n dX4_copy_0 rfl 0 rfl ?_
  refine v_aload_n dX4_copy_1 rfl 1 rfl ?_
  refine v_getf 0 (ci := 2) (C := RX4) (T := TX4) (N := 4) rfl iwX4_copy_X4 (Nat.le_of_ble_eq_true rfl) (by decide +kernel) dX4_copy_2 (by repeat (first | with_reducible assumption | (with_reducible refine sv_us.trans ?_; exact rfl) | with_reducible refine (sv_un (by omega)).trans ?_)) (by exact rfl) ?_
  refine v_putf 0 (fs' := [_, _, _, _]) (ci := 2) (C := RX4) (T := TX4) (N := 4) (ty := .boolean) rfl iwX4_copy_X4 tyX4 tyX4_ok nmX4 (Nat.le_of_ble_eq_true rfl) (by decide +kernel) rfl rfl dX4_copy_5 rfl rfl (by repeat (first | with_reducible assumption | (with_reducible refine sv_us.trans ?_; exact rfl) | with_reducible refine (sv_un (by omega)).trans ?_)) (Nat.le_of_ble_eq_true rfl) rfl ?_
  refine v_aload_n dX4_copy_8 rfl 0 rfl ?_
  refine v_aload_n dX4_copy_9 rfl 1 rfl ?_
  refine v_getf 1 (ci := 2) (C := RX4) (T := TX4) (N := 4) rfl iwX4_copy_X4 (Nat.le_of_ble_eq_true rfl) (by decide +kernel) dX4_copy_10 (by repeat (first | with_reducible assumption | (with_reducible refine sv_us.trans ?_; exact rfl) | with_reducible refine (sv_un (by omega)).trans ?_)) (by exact rfl) ?_
  refine v_putf 1 (fs' := [_, _, _, _]) (ci := 2) (C := RX4) (T := TX4) (N := 4) (ty := .int) rfl iwX4_copy_X4 tyX4 tyX4_ok nmX4 (Nat.le_of_ble_eq_true rfl) (by decide +kernel) rfl rfl dX4_copy_13 rfl rfl (by repeat (first | with_reducible assumption | (with_reducible refine sv_us.trans ?_; exact rfl) | with_reducible refine (sv_un (by omega)).trans ?_)) (Nat.le_of_ble_eq_true rfl) rfl ?_
  refine v_aload_n dX4_copy_16 rfl 0 rfl ?_
  refine v_aload_n dX4_copy_17 rfl 1 rfl ?_
  refine v_getf 2 (ci := 2) (C := RX4) (T := TX4) (N := 4) rfl iwX4_copy_X4 (Nat.le_of_ble_eq_true rfl) (by decide +kernel) dX4_copy_18 (by repeat (first | with_reducible assumption | (with_reducible refine sv_us.trans ?_; exact rfl) | with_reducible refine (sv_un (by omega)).trans ?_)) (by exact rfl) ?_
  refine v_putf 2 (fs' := [_, _, _, _]) (ci := 2) (C := RX4) (T := TX4) (N := 4) (ty := .int) rfl iwX4_copy_X4 tyX4 tyX4_ok nmX4 (Nat.le_of_ble_eq_true rfl) (by decide +kernel) rfl rfl dX4_copy_21 rfl rfl (by repeat (first | with_reducible assumption | (with_reducible refine sv_us.trans ?_; exact rfl) | with_reducible refine (sv_un (by omega)).trans ?_)) (Nat.le_of_ble_eq_true rfl) rfl ?_
  refine v_aload_n dX4_copy_24 rfl 0 rfl ?_
  refine v_aload_n dX4_copy_25 rfl 1 rfl ?_
  refine v_getf 3 (ci := 2) (C := RX4) (T := TX4) (N := 4) rfl iwX4_copy_X4 (Nat.le_of_ble_eq_true rfl) (by decide +kernel) dX4_copy_26 (by repeat (first | with_reducible assumption | (with_reducible refine sv_us.trans ?_; exact rfl) | with_reducible refine (sv_un (by omega)).trans ?_)) (by exact rfl) ?_
  refine v_putf 3 (fs' := [_, _, _, _]) (ci := 2) (C := RX4) (T := TX4) (N := 4) (ty := .int) rfl iwX4_copy_X4 tyX4 tyX4_ok nmX4 (Nat.le_of_ble_eq_true rfl) (by decide +kernel) rfl rfl dX4_copy_29 rfl rfl (by repeat (first | with_reducible assumption | (with_reducible refine sv_us.trans ?_; exact rfl) | with_reducible refine (sv_un (by omega)).trans ?_)) (Nat.le_of_ble_eq_true rfl) rfl ?_
  exact v_ret rfl dX4_copy_32 (Nat.le_of_ble_eq_true rfl) (Nat.le_of_ble_eq_true rfl) ⟨rfl, rfl, sv_us, fun w p => (sv_un p).trans ((sv_un p).trans ((sv_un p).trans (sv_un p)))⟩

set_option maxHeartbeats 4000000 in
set_option maxRecDepth 100000 in
theorem c_copy1 (G : sv_G) (h : sv_h) (z a c q : Nat) (x y : Int) (hac : a ≠ c) (y0 y1 y2 y3 : Int32) (h0 : h a = some (.inr (2, [.int y0, .int y1, .int y2, .int y3]))) (hc : h c = some (.inr (2, [.int 1, .int (nI q), .int (iN x), .int (iN y)]))) : CT G mX4_copy [.ref a, .ref c] h z (fun v h1 z1 => v = none ∧ z1 = z ∧ h1 a = mvC (true, q, x, y) ∧ ∀ w, w ≠ a → h1 w = h w) := by
  refine CT.of (by decide +kernel) rfl rfl (Nat.le_of_ble_eq_true rfl) ?_
  refine v_aload_n dX4_copy_0 rfl 0 rfl ?_
  refine v_aload_n dX4_copy_1 rfl 1 rfl ?_
  refine v_getf 0 (ci := 2) (C := RX4) (T := TX4) (N := 4) rfl iwX4_copy_X4 (Nat.le_of_ble_eq_true rfl) (by decide +kernel) dX4_copy_2 (by repeat (first | with_reducible assumption | (with_reducible refine sv_us.trans ?_; exact rfl) | with_reducible refine (sv_un (by omega)).trans ?_)) (by exact rfl) ?_
  refine v_putf 0 (fs' := [_, _, _, _]) (ci := 2) (C := RX4) (T := TX4) (N := 4) (ty := .boolean) rfl iwX4_copy_X4 tyX4 tyX4_ok nmX4 (Nat.le_of_ble_eq_true rfl) (by decide +kernel) rfl rfl dX4_copy_5 rfl rfl (by repeat (first | with_reducible assumption | (with_reducible refine sv_us.trans ?_; exact rfl) | with_reducible refine (sv_un (by omega)).trans ?_)) (Nat.le_of_ble_eq_true rfl) rfl ?_
  refine v_aload_n dX4_copy_8 rfl 0 rfl ?_
  refine v_aload_n dX4_copy_9 rfl 1 rfl ?_
  refine v_getf 1 (ci := 2) (C := RX4) (T := TX4) (N := 4) rfl iwX4_copy_X4 (Nat.le_of_ble_eq_true rfl) (by decide +kernel) dX4_copy_10 (by repeat (first | with_reducible assumption | (with_reducible refine sv_us.trans ?_; exact rfl) | with_reducible refine (sv_un (by omega)).trans ?_)) (by exact rfl) ?_
  refine v_putf 1 (fs' := [_, _, _, _]) (ci := 2) (C := RX4) (T := TX4) (N := 4) (ty := .int) rfl iwX4_copy_X4 tyX4 tyX4_ok nmX4 (Nat.le_of_ble_eq_true rfl) (by decide +kernel) rfl rfl dX4_copy_13 rfl rfl (by repeat (first | with_reducible assumption | (with_reducible refine sv_us.trans ?_; exact rfl) | with_reducible refine (sv_un (by omega)).trans ?_)) (Nat.le_of_ble_eq_true rfl) rfl ?_
  refine v_aload_n dX4_copy_16 rfl 0 rfl ?_
  refine v_aload_n dX4_copy_17 rfl 1 rfl ?_
  refine v_getf 2 (ci := 2) (C := RX4) (T := TX4) (N := 4) rfl iwX4_copy_X4 (Nat.le_of_ble_eq_true rfl) (by decide +kernel) dX4_copy_18 (by repeat (first | with_reducible assumption | (with_reducible refine sv_us.trans ?_; exact rfl) | with_reducible refine (sv_un (by omega)).trans ?_)) (by exact rfl) ?_
  refine v_putf 2 (fs' := [_, _, _, _]) (ci := 2) (C := RX4) (T := TX4) (N := 4) (ty := .int) rfl iwX4_copy_X4 tyX4 tyX4_ok nmX4 (Nat.le_of_ble_eq_true rfl) (by decide +kernel) rfl rfl dX4_copy_21 rfl rfl (by repeat (first | with_reducible assumption | (with_reducible refine sv_us.trans ?_; exact rfl) | with_reducible refine (sv_un (by omega)).trans ?_)) (Nat.le_of_ble_eq_true rfl) rfl ?_
  refine v_aload_n dX4_copy_24 rfl 0 rfl ?_
  refine v_aload_n dX4_copy_25 rfl 1 rfl ?_
  refine v_getf 3 (ci := 2) (C := RX4) (T := TX4) (N := 4) rfl iwX4_copy_X4 (Nat.le_of_ble_eq_true rfl) (by decide +kernel) dX4_copy_26 (by repeat (first | with_reducible assumption | (with_reducible refine sv_us.trans ?_; exact rfl) | with_reducible refine (sv_un (by omega)).trans ?_)) (by exact rfl) ?_
  refine v_putf 3 (fs' := [_, _, _, _]) (ci := 2) (C := RX4) (T := TX4) (N := 4) (ty := .int) rfl iwX4_copy_X4 tyX4 tyX4_ok nmX4 (Nat.le_of_ble_eq_true rfl) (by decide +kernel) rfl rfl dX4_copy_29 rfl rfl (by repeat (first | with_reducible assumption | (with_reducible refine sv_us.trans ?_; exact rfl) | with_reducible refine (sv_un (by omega)).trans ?_)) (Nat.le_of_ble_eq_true rfl) rfl ?_
  exact v_ret rfl dX4_copy_32 (Nat.le_of_ble_eq_true rfl) (Nat.le_of_ble_eq_true rfl) ⟨rfl, rfl, sv_us, fun w p => (sv_un p).trans ((sv_un p).trans ((sv_un p).trans (sv_un p)))⟩

theorem c_copy (G : sv_G) (h : sv_h) (z a c : Nat) (M : mvT) (hac : a ≠ c) (y0 y1 y2 y3 : Int32) (h0 : h a = some (.inr (2, [.int y0, .int y1, .int y2, .int y3]))) (hc : h c = mvC M) : CT G mX4_copy [.ref a, .ref c] h z (fun v h1 z1 => v = none ∧ z1 = z ∧ h1 a = mvC M ∧ ∀ w, w ≠ a → h1 w = h w) := by
  obtain ⟨m, q, x, y⟩ := M
  cases m
  · exact c_copy0 G h z a c q x y hac y0 y1 y2 y3 h0 hc
  · exact c_copy1 G h z a c q x y hac y0 y1 y2 y3 h0 hc
set_option maxHeartbeats 4000000 in
set_option maxRecDepth 100000 in
theorem c_join00 (G : sv_G) (h : sv_h) (z a c e p q : Nat) (x y u s : Int) (hp : p < 4) (hq : q < 4) (hac : a ≠ c) (hae : a ≠ e) (y0 y1 y2 y3 : Int32) (h0 : h a = some (.inr (2, [.int y0, .int y1, .int y2, .int y3]))) (hc : h c = some (.inr (2, [.int 0, .int (nI p), .int (iN x), .int (iN y)]))) (he : h e = some (.inr (2, [.int 0, .int (nI q),   .int (iN u), .int (iN s)]))) : CT G mX4_join [.ref a, .ref c, .ref e] h z (fun v9 h1 z1 => v9 = none ∧ z1 = z ∧ h1 a = mvC (mvJ (false, p, x, y) (false, q, u, s)) ∧ ∀ w, w ≠ a → h1 w = h w) := by
  refine CT.of (by decide +kernel) rfl rfl (Nat.le_of_ble_eq_true rfl) ?_
  refine v_aload_n dX4_join_0 rfl 1 rfl ?_
  refine v_getf 0 (ci := 2) (C := RX4) (T := TX4) (N := 4) rfl iwX4_join_X4 (Nat.le_of_ble_eq_true rfl) (by decide +kernel) dX4_join_1 (by repeat (first | with_reducible assumption | (with_reducible refine sv_us.trans ?_; exact rfl) | with_reducible refine (sv_un (by omega)).trans ?_)) (by exact rfl) ?_
  refine v_if_eq (tgt := 19) dX4_join_4 (by decide) (fun c_4 => ?_) (fun c_4 => ?_)
  · refine v_aload_n dX4_join_19 rfl 1 rfl ?_
    refine v_getf 1 (ci := 2) (C := RX4) (T := TX4) (N := 4) rfl iwX4_join_X4 (Nat.le_of_ble_eq_true rfl) (by decide +kernel) dX4_join_20 (by repeat (first | with_reducible assumption | (with_reducible refine sv_us.trans ?_; exact rfl) | with_reducible refine (sv_un (by omega)).trans ?_)) (by exact rfl) ?_
    refine v_aload_n dX4_join_23 rfl 2 rfl ?_
    refine v_getf 1 (ci := 2) (C := RX4) (T := TX4) (N := 4) rfl iwX4_join_X4 (Nat.le_of_ble_eq_true rfl) (by decide +kernel) dX4_join_24 (by repeat (first | with_reducible assumption | (with_reducible refine sv_us.trans ?_; exact rfl) | with_reducible refine (sv_un (by omega)).trans ?_)) (by exact rfl) ?_
    refine v_iadd dX4_join_27 ?_
    refine v_istore_n (L' := [(3, _), (0, _), (1, _), (2, _)]) dX4_join_28 rfl (Nat.le_of_ble_eq_true rfl) rfl ?_
    refine v_aload_n dX4_join_29 rfl 1 rfl ?_
    refine v_aload_n dX4_join_30 rfl 2 rfl ?_
    refine v_getf 0 (ci := 2) (C := RX4) (T := TX4) (N := 4) rfl iwX4_join_X4 (Nat.le_of_ble_eq_true rfl) (by decide +kernel) dX4_join_31 (by repeat (first | with_reducible assumption | (with_reducible refine sv_us.trans ?_; exact rfl) | with_reducible refine (sv_un (by omega)).trans ?_)) (by exact rfl) ?_
    refine v_aload_n dX4_join_34 rfl 3 rfl ?_
    refine v_getf 0 (ci := 2) (C := RX4) (T := TX4) (N := 4) rfl iwX4_join_X4 (Nat.le_of_ble_eq_true rfl) (by decide +kernel) dX4_join_35 (by repeat (first | with_reducible assumption | (with_reducible refine sv_us.trans ?_; exact rfl) | with_reducible refine (sv_un (by omega)).trans ?_)) (by exact rfl) ?_
    refine v_icmp_eq (tgt := 45) dX4_join_38 (by decide) (fun c_38 => ?_) (fun c_38 => ?_)
    · refine v_iconst (v := 0) dX4_join_45 (by decide) ?_
      refine v_putf 0 (fs' := [_, _, _, _]) (ci := 2) (C := RX4) (T := TX4) (N := 4) (ty := .boolean) rfl iwX4_join_X4 tyX4 tyX4_ok nmX4 (Nat.le_of_ble_eq_true rfl) (by decide +kernel) rfl rfl dX4_join_46 rfl rfl (by repeat (first | with_reducible assumption | (with_reducible refine sv_us.trans ?_; exact rfl) | with_reducible refine (sv_un (by omega)).trans ?_)) (Nat.le_of_ble_eq_true rfl) rfl ?_
      refine v_aload_n dX4_join_49 rfl 1 rfl ?_
      refine v_iload_n dX4_join_50 rfl 0 rfl ?_
      refine v_iconst (v := 3) dX4_join_51 (by decide) ?_
      refine v_iand dX4_join_52 ?_
      rw [mv_j0 p hp q hq]
      refine v_putf 1 (fs' := [_, _, _, _]) (ci := 2) (C := RX4) (T := TX4) (N := 4) (ty := .int) rfl iwX4_join_X4 tyX4 tyX4_ok nmX4 (Nat.le_of_ble_eq_true rfl) (by decide +kernel) rfl rfl dX4_join_53 rfl rfl (by repeat (first | with_reducible assumption | (with_reducible refine sv_us.trans ?_; exact rfl) | with_reducible refine (sv_un (by omega)).trans ?_)) (Nat.le_of_ble_eq_true rfl) rfl ?_
      refine v_aload_n dX4_join_56 rfl 1 rfl ?_
      refine v_aload_n dX4_join_57 rfl 2 rfl ?_
      refine v_aload_n dX4_join_58 rfl 3 rfl ?_
      refine v_getf 2 (ci := 2) (C := RX4) (T := TX4) (N := 4) rfl iwX4_join_X4 (Nat.le_of_ble_eq_true rfl) (by decide +kernel) dX4_join_59 (by repeat (first | with_reducible assumption | (with_reducible refine sv_us.trans ?_; exact rfl) | with_reducible refine (sv_un (by omega)).trans ?_)) (by exact rfl) ?_
      refine v_aload_n dX4_join_62 rfl 3 rfl ?_
      refine v_getf 3 (ci := 2) (C := RX4) (T := TX4) (N := 4) rfl iwX4_join_X4 (Nat.le_of_ble_eq_true rfl) (by decide +kernel) dX4_join_63 (by repeat (first | with_reducible assumption | (with_reducible refine sv_us.trans ?_; exact rfl) | with_reducible refine (sv_un (by omega)).trans ?_)) (by exact rfl) ?_
      refine v_callVq (M' := mX4_xOf) (n := 2) (As := [_, _]) (ci := 2) (r := (RX4, TX4, 4)) gX4_join_X4_xOf rfl (by decide +kernel) ⟨(Nat.le_of_ble_eq_true rfl), (Nat.le_of_ble_eq_true rfl)⟩ rfl rfl dX4_join_66 rfl ⟨(Nat.le_of_ble_eq_true rfl), (Nat.le_of_ble_eq_true rfl)⟩ (Nat.le_of_ble_eq_true rfl) (by repeat (first | with_reducible assumption | (with_reducible refine sv_us.trans ?_; exact rfl) | with_reducible refine (sv_un (by omega)).trans ?_)) rfl (c_xOf G _ _ c (false, p, x, y) hp ((sv_un (by omega)).trans ((sv_un (by omega)).trans hc)  ) u s) (fun v h1 z1 hq => v_pq hq ?_)
      refine v_putf 2 (fs' := [_, _, _, _]) (ci := 2) (C := RX4) (T := TX4) (N := 4) (ty := .int) rfl iwX4_join_X4 tyX4 tyX4_ok nmX4 (Nat.le_of_ble_eq_true rfl) (by decide +kernel) rfl rfl dX4_join_69 rfl rfl (by repeat (first | with_reducible assumption | (with_reducible refine sv_us.trans ?_; exact rfl) | with_reducible refine (sv_un (by omega)).trans ?_)) (Nat.le_of_ble_eq_true rfl) rfl ?_
      refine v_aload_n dX4_join_72 rfl 1 rfl ?_
      refine v_aload_n dX4_join_73 rfl 2 rfl ?_
      refine v_aload_n dX4_join_74 rfl 3 rfl ?_
      refine v_getf 2 (ci := 2) (C := RX4) (T := TX4) (N := 4) rfl iwX4_join_X4 (Nat.le_of_ble_eq_true rfl) (by decide +kernel) dX4_join_75 (by repeat (first | with_reducible assumption | (with_reducible refine sv_us.trans ?_; exact rfl) | with_reducible refine (sv_un (by omega)).trans ?_)) (by exact rfl) ?_
      refine v_aload_n dX4_join_78 rfl 3 rfl ?_
      refine v_getf 3 (ci := 2) (C := RX4) (T := TX4) (N := 4) rfl iwX4_join_X4 (Nat.le_of_ble_eq_true rfl) (by decide +kernel) dX4_join_79 (by repeat (first | with_reducible assumption | (with_reducible refine sv_us.trans ?_; exact rfl) | with_reducible refine (sv_un (by omega)).trans ?_)) (by exact rfl) ?_
      refine v_callVq (M' := mX4_yOf) (n := 2) (As := [_, _]) (ci := 2) (r := (RX4, TX4, 4)) gX4_join_X4_yOf rfl (by decide +kernel) ⟨(Nat.le_of_ble_eq_true rfl), (Nat.le_of_ble_eq_true rfl)⟩ rfl rfl dX4_join_82 rfl ⟨(Nat.le_of_ble_eq_true rfl), (Nat.le_of_ble_eq_true rfl)⟩ (Nat.le_of_ble_eq_true rfl) (by repeat (first | with_reducible assumption | (with_reducible refine sv_us.trans ?_; exact rfl) | with_reducible refine (sv_un (by omega)).trans ?_)) rfl (c_yOf G _ _ c (false, p, x, y) hp ((sv_un (by omega)).trans ((sv_un (by omega)).trans ((sv_un (by omega)).trans hc))  ) u s) (fun v h1 z1 hq => v_pq hq ?_)
      refine v_putf 3 (fs' := [_, _, _, _]) (ci := 2) (C := RX4) (T := TX4) (N := 4) (ty := .int) rfl iwX4_join_X4 tyX4 tyX4_ok nmX4 (Nat.le_of_ble_eq_true rfl) (by decide +kernel) rfl rfl dX4_join_85 rfl rfl (by repeat (first | with_reducible assumption | (with_reducible refine sv_us.trans ?_; exact rfl) | with_reducible refine (sv_un (by omega)).trans ?_)) (Nat.le_of_ble_eq_true rfl) rfl ?_
      exact v_ret rfl dX4_join_88 (Nat.le_of_ble_eq_true rfl) (Nat.le_of_ble_eq_true rfl) ⟨rfl, rfl, sv_us, fun w p => (sv_un p).trans ((sv_un p).trans ((sv_un p).trans (sv_un p)))⟩
    · exact absurd rfl c_38
  · exact absurd rfl c_4

set_option maxHeartbeats 4000000 in
set_option maxRecDepth 100000 in
theorem c_join01 (G : sv_G) (h : sv_h) (z a c e p q : Nat) (x y u s : Int) (hp : p < 4) (hq : q < 4) (hac : a ≠ c) (hae : a ≠ e) (y0 y1 y2 y3 : Int32) (h0 : h a = some (.inr (2, [.int y0, .int y1, .int y2, .int y3]))) (hc : h c = some (.inr (2, [.int 0, .int (nI p), .int (iN x), .int (iN y)]))) (he : h e = some (.inr (2, [.int 1, .int (nI q),   .int (iN u), .int (iN s)]))) : CT G mX4_join [.ref a, .ref c, .ref e] h z (fun v9 h1 z1 => v9 = none ∧ z1 = z ∧ h1 a = mvC (mvJ (false, p, x, y) (true, q, u, s)) ∧ ∀ w, w ≠ a → h1 w = h w) := by
  refine CT.of (by decide +kernel) rfl rfl (Nat.le_of_ble_eq_true rfl) ?_
  refine v_aload_n dX4_join_0 rfl 1 rfl ?_
  refine v_getf 0 (ci := 2) (C := RX4) (T := TX4) (N := 4) rfl iwX4_join_X4 (Nat.le_of_ble_eq_true rfl) (by decide +kernel) dX4_join_1 (by repeat (first | with_reducible assumption | (with_reducible refine sv_us.trans ?_; exact rfl) | with_reducible refine (sv_un (by omega)).trans ?_)) (by exact rfl) ?_
  refine v_if_eq (tgt := 19) dX4_join_4 (by decide) (fun c_4 => ?_) (fun c_4 => ?_)
  · refine v_aload_n dX4_join_19 rfl 1 rfl ?_
    refine v_getf 1 (ci := 2) (C := RX4) (T := TX4) (N := 4) rfl iwX4_join_X4 (Nat.le_of_ble_eq_true rfl) (by decide +kernel) dX4_join_20 (by repeat (first | with_reducible assumption | (with_reducible refine sv_us.trans ?_; exact rfl) | with_reducible refine (sv_un (by omega)).trans ?_)) (by exact rfl) ?_
    refine v_aload_n dX4_join_23 rfl 2 rfl ?_
    refine v_getf 1 (ci := 2) (C := RX4) (T := TX4) (N := 4) rfl iwX4_join_X4 (Nat.le_of_ble_eq_true rfl) (by decide +kernel) dX4_join_24 (by repeat (first | with_reducible assumption | (with_reducible refine sv_us.trans ?_; exact rfl) | with_reducible refine (sv_un (by omega)).trans ?_)) (by exact rfl) ?_
    refine v_iadd dX4_join_27 ?_
    refine v_istore_n (L' := [(3, _), (0, _), (1, _), (2, _)]) dX4_join_28 rfl (Nat.le_of_ble_eq_true rfl) rfl ?_
    refine v_aload_n dX4_join_29 rfl 1 rfl ?_
    refine v_aload_n dX4_join_30 rfl 2 rfl ?_
    refine v_getf 0 (ci := 2) (C := RX4) (T := TX4) (N := 4) rfl iwX4_join_X4 (Nat.le_of_ble_eq_true rfl) (by decide +kernel) dX4_join_31 (by repeat (first | with_reducible assumption | (with_reducible refine sv_us.trans ?_; exact rfl) | with_reducible refine (sv_un (by omega)).trans ?_)) (by exact rfl) ?_
    refine v_aload_n dX4_join_34 rfl 3 rfl ?_
    refine v_getf 0 (ci := 2) (C := RX4) (T := TX4) (N := 4) rfl iwX4_join_X4 (Nat.le_of_ble_eq_true rfl) (by decide +kernel) dX4_join_35 (by repeat (first | with_reducible assumption | (with_reducible refine sv_us.trans ?_; exact rfl) | with_reducible refine (sv_un (by omega)).trans ?_)) (by exact rfl) ?_
    refine v_icmp_eq (tgt := 45) dX4_join_38 (by decide) (fun c_38 => ?_) (fun c_38 => ?_)
    · exact absurd c_38 (by decide)
    · refine v_iconst (v := 1) dX4_join_41 (by decide) ?_
      refine v_goto (tgt := 46) dX4_join_42 (by decide) ?_
      refine v_putf 0 (fs' := [_, _, _, _]) (ci := 2) (C := RX4) (T := TX4) (N := 4) (ty := .boolean) rfl iwX4_join_X4 tyX4 tyX4_ok nmX4 (Nat.le_of_ble_eq_true rfl) (by decide +kernel) rfl rfl dX4_join_46 rfl rfl (by repeat (first | with_reducible assumption | (with_reducible refine sv_us.trans ?_; exact rfl) | with_reducible refine (sv_un (by omega)).trans ?_)) (Nat.le_of_ble_eq_true rfl) rfl ?_
      refine v_aload_n dX4_join_49 rfl 1 rfl ?_
      refine v_iload_n dX4_join_50 rfl 0 rfl ?_
      refine v_iconst (v := 3) dX4_join_51 (by decide) ?_
      refine v_iand dX4_join_52 ?_
      rw [mv_j0 p hp q hq]
      refine v_putf 1 (fs' := [_, _, _, _]) (ci := 2) (C := RX4) (T := TX4) (N := 4) (ty := .int) rfl iwX4_join_X4 tyX4 tyX4_ok nmX4 (Nat.le_of_ble_eq_true rfl) (by decide +kernel) rfl rfl dX4_join_53 rfl rfl (by repeat (first | with_reducible assumption | (with_reducible refine sv_us.trans ?_; exact rfl) | with_reducible refine (sv_un (by omega)).trans ?_)) (Nat.le_of_ble_eq_true rfl) rfl ?_
      refine v_aload_n dX4_join_56 rfl 1 rfl ?_
      refine v_aload_n dX4_join_57 rfl 2 rfl ?_
      refine v_aload_n dX4_join_58 rfl 3 rfl ?_
      refine v_getf 2 (ci := 2) (C := RX4) (T := TX4) (N := 4) rfl iwX4_join_X4 (Nat.le_of_ble_eq_true rfl) (by decide +kernel) dX4_join_59 (by repeat (first | with_reducible assumption | (with_reducible refine sv_us.trans ?_; exact rfl) | with_reducible refine (sv_un (by omega)).trans ?_)) (by exact rfl) ?_
      refine v_aload_n dX4_join_62 rfl 3 rfl ?_
      refine v_getf 3 (ci := 2) (C := RX4) (T := TX4) (N := 4) rfl iwX4_join_X4 (Nat.le_of_ble_eq_true rfl) (by decide +kernel) dX4_join_63 (by repeat (first | with_reducible assumption | (with_reducible refine sv_us.trans ?_; exact rfl) | with_reducible refine (sv_un (by omega)).trans ?_)) (by exact rfl) ?_
      refine v_callVq (M' := mX4_xOf) (n := 2) (As := [_, _]) (ci := 2) (r := (RX4, TX4, 4)) gX4_join_X4_xOf rfl (by decide +kernel) ⟨(Nat.le_of_ble_eq_true rfl), (Nat.le_of_ble_eq_true rfl)⟩ rfl rfl dX4_join_66 rfl ⟨(Nat.le_of_ble_eq_true rfl), (Nat.le_of_ble_eq_true rfl)⟩ (Nat.le_of_ble_eq_true rfl) (by repeat (first | with_reducible assumption | (with_reducible refine sv_us.trans ?_; exact rfl) | with_reducible refine (sv_un (by omega)).trans ?_)) rfl (c_xOf G _ _ c (false, p, x, y) hp ((sv_un (by omega)).trans ((sv_un (by omega)).trans hc)  ) u s) (fun v h1 z1 hq => v_pq hq ?_)
      refine v_putf 2 (fs' := [_, _, _, _]) (ci := 2) (C := RX4) (T := TX4) (N := 4) (ty := .int) rfl iwX4_join_X4 tyX4 tyX4_ok nmX4 (Nat.le_of_ble_eq_true rfl) (by decide +kernel) rfl rfl dX4_join_69 rfl rfl (by repeat (first | with_reducible assumption | (with_reducible refine sv_us.trans ?_; exact rfl) | with_reducible refine (sv_un (by omega)).trans ?_)) (Nat.le_of_ble_eq_true rfl) rfl ?_
      refine v_aload_n dX4_join_72 rfl 1 rfl ?_
      refine v_aload_n dX4_join_73 rfl 2 rfl ?_
      refine v_aload_n dX4_join_74 rfl 3 rfl ?_
      refine v_getf 2 (ci := 2) (C := RX4) (T := TX4) (N := 4) rfl iwX4_join_X4 (Nat.le_of_ble_eq_true rfl) (by decide +kernel) dX4_join_75 (by repeat (first | with_reducible assumption | (with_reducible refine sv_us.trans ?_; exact rfl) | with_reducible refine (sv_un (by omega)).trans ?_)) (by exact rfl) ?_
      refine v_aload_n dX4_join_78 rfl 3 rfl ?_
      refine v_getf 3 (ci := 2) (C := RX4) (T := TX4) (N := 4) rfl iwX4_join_X4 (Nat.le_of_ble_eq_true rfl) (by decide +kernel) dX4_join_79 (by repeat (first | with_reducible assumption | (with_reducible refine sv_us.trans ?_; exact rfl) | with_reducible refine (sv_un (by omega)).trans ?_)) (by exact rfl) ?_
      refine v_callVq (M' := mX4_yOf) (n := 2) (As := [_, _]) (ci := 2) (r := (RX4, TX4, 4)) gX4_join_X4_yOf rfl (by decide +kernel) ⟨(Nat.le_of_ble_eq_true rfl), (Nat.le_of_ble_eq_true rfl)⟩ rfl rfl dX4_join_82 rfl ⟨(Nat.le_of_ble_eq_true rfl), (Nat.le_of_ble_eq_true rfl)⟩ (Nat.le_of_ble_eq_true rfl) (by repeat (first | with_reducible assumption | (with_reducible refine sv_us.trans ?_; exact rfl) | with_reducible refine (sv_un (by omega)).trans ?_)) rfl (c_yOf G _ _ c (false, p, x, y) hp ((sv_un (by omega)).trans ((sv_un (by omega)).trans ((sv_un (by omega)).trans hc))  ) u s) (fun v h1 z1 hq => v_pq hq ?_)
      refine v_putf 3 (fs' := [_, _, _, _]) (ci := 2) (C := RX4) (T := TX4) (N := 4) (ty := .int) rfl iwX4_join_X4 tyX4 tyX4_ok nmX4 (Nat.le_of_ble_eq_true rfl) (by decide +kernel) rfl rfl dX4_join_85 rfl rfl (by repeat (first | with_reducible assumption | (with_reducible refine sv_us.trans ?_; exact rfl) | with_reducible refine (sv_un (by omega)).trans ?_)) (Nat.le_of_ble_eq_true rfl) rfl ?_
      exact v_ret rfl dX4_join_88 (Nat.le_of_ble_eq_true rfl) (Nat.le_of_ble_eq_true rfl) ⟨rfl, rfl, sv_us, fun w p => (sv_un p).trans ((sv_un p).trans ((sv_un p).trans (sv_un p)))⟩
  · exact absurd rfl c_4

set_option maxHeartbeats 4000000 in
set_option maxRecDepth 100000 in
theorem c_join10 (G : sv_G) (h : sv_h) (z a c e p q : Nat) (x y u s : Int) (hp : p < 4) (hq : q < 4) (hac : a ≠ c) (hae : a ≠ e) (y0 y1 y2 y3 : Int32) (h0 : h a = some (.inr (2, [.int y0, .int y1, .int y2, .int y3]))) (hc : h c = some (.inr (2, [.int 1, .int (nI p), .int (iN x), .int (iN y)]))) (he : h e = some (.inr (2, [.int 0, .int (nI q),   .int (iN u), .int (iN s)]))) : CT G mX4_join [.ref a, .ref c, .ref e] h z (fun v9 h1 z1 => v9 = none ∧ z1 = z ∧ h1 a = mvC (mvJ (true, p, x, y) (false, q, u, s)) ∧ ∀ w, w ≠ a → h1 w = h w) := by
  refine CT.of (by decide +kernel) rfl rfl (Nat.le_of_ble_eq_true rfl) ?_
  refine v_aload_n dX4_join_0 rfl 1 rfl ?_
  refine v_getf 0 (ci := 2) (C := RX4) (T := TX4) (N := 4) rfl iwX4_join_X4 (Nat.le_of_ble_eq_true rfl) (by decide +kernel) dX4_join_1 (by repeat (first | with_reducible assumption | (with_reducible refine sv_us.trans ?_; exact rfl) | with_reducible refine (sv_un (by omega)).trans ?_)) (by exact rfl) ?_
  refine v_if_eq (tgt := 19) dX4_join_4 (by decide) (fun c_4 => ?_) (fun c_4 => ?_)
  · exact absurd c_4 (by decide)
  · refine v_aload_n dX4_join_7 rfl 1 rfl ?_
    refine v_getf 1 (ci := 2) (C := RX4) (T := TX4) (N := 4) rfl iwX4_join_X4 (Nat.le_of_ble_eq_true rfl) (by decide +kernel) dX4_join_8 (by repeat (first | with_reducible assumption | (with_reducible refine sv_us.trans ?_; exact rfl) | with_reducible refine (sv_un (by omega)).trans ?_)) (by exact rfl) ?_
    refine v_aload_n dX4_join_11 rfl 2 rfl ?_
    refine v_getf 1 (ci := 2) (C := RX4) (T := TX4) (N := 4) rfl iwX4_join_X4 (Nat.le_of_ble_eq_true rfl) (by decide +kernel) dX4_join_12 (by repeat (first | with_reducible assumption | (with_reducible refine sv_us.trans ?_; exact rfl) | with_reducible refine (sv_un (by omega)).trans ?_)) (by exact rfl) ?_
    refine v_isub dX4_join_15 ?_
    refine v_goto (tgt := 28) dX4_join_16 (by decide) ?_
    refine v_istore_n (L' := [(3, _), (0, _), (1, _), (2, _)]) dX4_join_28 rfl (Nat.le_of_ble_eq_true rfl) rfl ?_
    refine v_aload_n dX4_join_29 rfl 1 rfl ?_
    refine v_aload_n dX4_join_30 rfl 2 rfl ?_
    refine v_getf 0 (ci := 2) (C := RX4) (T := TX4) (N := 4) rfl iwX4_join_X4 (Nat.le_of_ble_eq_true rfl) (by decide +kernel) dX4_join_31 (by repeat (first | with_reducible assumption | (with_reducible refine sv_us.trans ?_; exact rfl) | with_reducible refine (sv_un (by omega)).trans ?_)) (by exact rfl) ?_
    refine v_aload_n dX4_join_34 rfl 3 rfl ?_
    refine v_getf 0 (ci := 2) (C := RX4) (T := TX4) (N := 4) rfl iwX4_join_X4 (Nat.le_of_ble_eq_true rfl) (by decide +kernel) dX4_join_35 (by repeat (first | with_reducible assumption | (with_reducible refine sv_us.trans ?_; exact rfl) | with_reducible refine (sv_un (by omega)).trans ?_)) (by exact rfl) ?_
    refine v_icmp_eq (tgt := 45) dX4_join_38 (by decide) (fun c_38 => ?_) (fun c_38 => ?_)
    · exact absurd c_38 (by decide)
    · refine v_iconst (v := 1) dX4_join_41 (by decide) ?_
      refine v_goto (tgt := 46) dX4_join_42 (by decide) ?_
      refine v_putf 0 (fs' := [_, _, _, _]) (ci := 2) (C := RX4) (T := TX4) (N := 4) (ty := .boolean) rfl iwX4_join_X4 tyX4 tyX4_ok nmX4 (Nat.le_of_ble_eq_true rfl) (by decide +kernel) rfl rfl dX4_join_46 rfl rfl (by repeat (first | with_reducible assumption | (with_reducible refine sv_us.trans ?_; exact rfl) | with_reducible refine (sv_un (by omega)).trans ?_)) (Nat.le_of_ble_eq_true rfl) rfl ?_
      refine v_aload_n dX4_join_49 rfl 1 rfl ?_
      refine v_iload_n dX4_join_50 rfl 0 rfl ?_
      refine v_iconst (v := 3) dX4_join_51 (by decide) ?_
      refine v_iand dX4_join_52 ?_
      rw [mv_j1 p hp q hq]
      refine v_putf 1 (fs' := [_, _, _, _]) (ci := 2) (C := RX4) (T := TX4) (N := 4) (ty := .int) rfl iwX4_join_X4 tyX4 tyX4_ok nmX4 (Nat.le_of_ble_eq_true rfl) (by decide +kernel) rfl rfl dX4_join_53 rfl rfl (by repeat (first | with_reducible assumption | (with_reducible refine sv_us.trans ?_; exact rfl) | with_reducible refine (sv_un (by omega)).trans ?_)) (Nat.le_of_ble_eq_true rfl) rfl ?_
      refine v_aload_n dX4_join_56 rfl 1 rfl ?_
      refine v_aload_n dX4_join_57 rfl 2 rfl ?_
      refine v_aload_n dX4_join_58 rfl 3 rfl ?_
      refine v_getf 2 (ci := 2) (C := RX4) (T := TX4) (N := 4) rfl iwX4_join_X4 (Nat.le_of_ble_eq_true rfl) (by decide +kernel) dX4_join_59 (by repeat (first | with_reducible assumption | (with_reducible refine sv_us.trans ?_; exact rfl) | with_reducible refine (sv_un (by omega)).trans ?_)) (by exact rfl) ?_
      refine v_aload_n dX4_join_62 rfl 3 rfl ?_
      refine v_getf 3 (ci := 2) (C := RX4) (T := TX4) (N := 4) rfl iwX4_join_X4 (Nat.le_of_ble_eq_true rfl) (by decide +kernel) dX4_join_63 (by repeat (first | with_reducible assumption | (with_reducible refine sv_us.trans ?_; exact rfl) | with_reducible refine (sv_un (by omega)).trans ?_)) (by exact rfl) ?_
      refine v_callVq (M' := mX4_xOf) (n := 2) (As := [_, _]) (ci := 2) (r := (RX4, TX4, 4)) gX4_join_X4_xOf rfl (by decide +kernel) ⟨(Nat.le_of_ble_eq_true rfl), (Nat.le_of_ble_eq_true rfl)⟩ rfl rfl dX4_join_66 rfl ⟨(Nat.le_of_ble_eq_true rfl), (Nat.le_of_ble_eq_true rfl)⟩ (Nat.le_of_ble_eq_true rfl) (by repeat (first | with_reducible assumption | (with_reducible refine sv_us.trans ?_; exact rfl) | with_reducible refine (sv_un (by omega)).trans ?_)) rfl (c_xOf G _ _ c (true, p, x, y) hp ((sv_un (by omega)).trans ((sv_un (by omega)).trans hc)  ) u s) (fun v h1 z1 hq => v_pq hq ?_)
      refine v_putf 2 (fs' := [_, _, _, _]) (ci := 2) (C := RX4) (T := TX4) (N := 4) (ty := .int) rfl iwX4_join_X4 tyX4 tyX4_ok nmX4 (Nat.le_of_ble_eq_true rfl) (by decide +kernel) rfl rfl dX4_join_69 rfl rfl (by repeat (first | with_reducible assumption | (with_reducible refine sv_us.trans ?_; exact rfl) | with_reducible refine (sv_un (by omega)).trans ?_)) (Nat.le_of_ble_eq_true rfl) rfl ?_
      refine v_aload_n dX4_join_72 rfl 1 rfl ?_
      refine v_aload_n dX4_join_73 rfl 2 rfl ?_
      refine v_aload_n dX4_join_74 rfl 3 rfl ?_
      refine v_getf 2 (ci := 2) (C := RX4) (T := TX4) (N := 4) rfl iwX4_join_X4 (Nat.le_of_ble_eq_true rfl) (by decide +kernel) dX4_join_75 (by repeat (first | with_reducible assumption | (with_reducible refine sv_us.trans ?_; exact rfl) | with_reducible refine (sv_un (by omega)).trans ?_)) (by exact rfl) ?_
      refine v_aload_n dX4_join_78 rfl 3 rfl ?_
      refine v_getf 3 (ci := 2) (C := RX4) (T := TX4) (N := 4) rfl iwX4_join_X4 (Nat.le_of_ble_eq_true rfl) (by decide +kernel) dX4_join_79 (by repeat (first | with_reducible assumption | (with_reducible refine sv_us.trans ?_; exact rfl) | with_reducible refine (sv_un (by omega)).trans ?_)) (by exact rfl) ?_
      refine v_callVq (M' := mX4_yOf) (n := 2) (As := [_, _]) (ci := 2) (r := (RX4, TX4, 4)) gX4_join_X4_yOf rfl (by decide +kernel) ⟨(Nat.le_of_ble_eq_true rfl), (Nat.le_of_ble_eq_true rfl)⟩ rfl rfl dX4_join_82 rfl ⟨(Nat.le_of_ble_eq_true rfl), (Nat.le_of_ble_eq_true rfl)⟩ (Nat.le_of_ble_eq_true rfl) (by repeat (first | with_reducible assumption | (with_reducible refine sv_us.trans ?_; exact rfl) | with_reducible refine (sv_un (by omega)).trans ?_)) rfl (c_yOf G _ _ c (true, p, x, y) hp ((sv_un (by omega)).trans ((sv_un (by omega)).trans ((sv_un (by omega)).trans hc))  ) u s) (fun v h1 z1 hq => v_pq hq ?_)
      refine v_putf 3 (fs' := [_, _, _, _]) (ci := 2) (C := RX4) (T := TX4) (N := 4) (ty := .int) rfl iwX4_join_X4 tyX4 tyX4_ok nmX4 (Nat.le_of_ble_eq_true rfl) (by decide +kernel) rfl rfl dX4_join_85 rfl rfl (by repeat (first | with_reducible assumption | (with_reducible refine sv_us.trans ?_; exact rfl) | with_reducible refine (sv_un (by omega)).trans ?_)) (Nat.le_of_ble_eq_true rfl) rfl ?_
      exact v_ret rfl dX4_join_88 (Nat.le_of_ble_eq_true rfl) (Nat.le_of_ble_eq_true rfl) ⟨rfl, rfl, sv_us, fun w p => (sv_un p).trans ((sv_un p).trans ((sv_un p).trans (sv_un p)))⟩

set_option maxHeartbeats 4000000 in
set_option maxRecDepth 100000 in
theorem c_join11 (G : sv_G) (h : sv_h) (z a c e p q : Nat) (x y u s : Int) (hp : p < 4) (hq : q < 4) (hac : a ≠ c) (hae : a ≠ e) (y0 y1 y2 y3 : Int32) (h0 : h a = some (.inr (2, [.int y0, .int y1, .int y2, .int y3]))) (hc : h c = some (.inr (2, [.int 1, .int (nI p), .int (iN x), .int (iN y)]))) (he : h e = some (.inr (2, [.int 1, .int (nI q),   .int (iN u), .int (iN s)]))) : CT G mX4_join [.ref a, .ref c, .ref e] h z (fun v9 h1 z1 => v9 = none ∧ z1 = z ∧ h1 a = mvC (mvJ (true, p, x, y) (true, q, u, s)) ∧ ∀ w, w ≠ a → h1 w = h w) := by
  refine CT.of (by decide +kernel) rfl rfl (Nat.le_of_ble_eq_true rfl) ?_
  refine v_aload_n dX4_join_0 rfl 1 rfl ?_
  refine v_getf 0 (ci := 2) (C := RX4) (T := TX4) (N := 4) rfl iwX4_join_X4 (Nat.le_of_ble_eq_true rfl) (by decide +kernel) dX4_join_1 (by repeat (first | with_reducible assumption | (with_reducible refine sv_us.trans ?_; exact rfl) | with_reducible refine (sv_un (by omega)).trans ?_)) (by exact rfl) ?_
  refine v_if_eq (tgt := 19) dX4_join_4 (by decide) (fun c_4 => ?_) (fun c_4 => ?_)
  · exact absurd c_4 (by decide)
  · refine v_aload_n dX4_join_7 rfl 1 rfl ?_
    refine v_getf 1 (ci := 2) (C := RX4) (T := TX4) (N := 4) rfl iwX4_join_X4 (Nat.le_of_ble_eq_true rfl) (by decide +kernel) dX4_join_8 (by repeat (first | with_reducible assumption | (with_reducible refine sv_us.trans ?_; exact rfl) | with_reducible refine (sv_un (by omega)).trans ?_)) (by exact rfl) ?_
    refine v_aload_n dX4_join_11 rfl 2 rfl ?_
    refine v_getf 1 (ci := 2) (C := RX4) (T := TX4) (N := 4) rfl iwX4_join_X4 (Nat.le_of_ble_eq_true rfl) (by decide +kernel) dX4_join_12 (by repeat (first | with_reducible assumption | (with_reducible refine sv_us.trans ?_; exact rfl) | with_reducible refine (sv_un (by omega)).trans ?_)) (by exact rfl) ?_
    refine v_isub dX4_join_15 ?_
    refine v_goto (tgt := 28) dX4_join_16 (by decide) ?_
    refine v_istore_n (L' := [(3, _), (0, _), (1, _), (2, _)]) dX4_join_28 rfl (Nat.le_of_ble_eq_true rfl) rfl ?_
    refine v_aload_n dX4_join_29 rfl 1 rfl ?_
    refine v_aload_n dX4_join_30 rfl 2 rfl ?_
    refine v_getf 0 (ci := 2) (C := RX4) (T := TX4) (N := 4) rfl iwX4_join_X4 (Nat.le_of_ble_eq_true rfl) (by decide +kernel) dX4_join_31 (by repeat (first | with_reducible assumption | (with_reducible refine sv_us.trans ?_; exact rfl) | with_reducible refine (sv_un (by omega)).trans ?_)) (by exact rfl) ?_
    refine v_aload_n dX4_join_34 rfl 3 rfl ?_
    refine v_getf 0 (ci := 2) (C := RX4) (T := TX4) (N := 4) rfl iwX4_join_X4 (Nat.le_of_ble_eq_true rfl) (by decide +kernel) dX4_join_35 (by repeat (first | with_reducible assumption | (with_reducible refine sv_us.trans ?_; exact rfl) | with_reducible refine (sv_un (by omega)).trans ?_)) (by exact rfl) ?_
    refine v_icmp_eq (tgt := 45) dX4_join_38 (by decide) (fun c_38 => ?_) (fun c_38 => ?_)
    · refine v_iconst (v := 0) dX4_join_45 (by decide) ?_
      refine v_putf 0 (fs' := [_, _, _, _]) (ci := 2) (C := RX4) (T := TX4) (N := 4) (ty := .boolean) rfl iwX4_join_X4 tyX4 tyX4_ok nmX4 (Nat.le_of_ble_eq_true rfl) (by decide +kernel) rfl rfl dX4_join_46 rfl rfl (by repeat (first | with_reducible assumption | (with_reducible refine sv_us.trans ?_; exact rfl) | with_reducible refine (sv_un (by omega)).trans ?_)) (Nat.le_of_ble_eq_true rfl) rfl ?_
      refine v_aload_n dX4_join_49 rfl 1 rfl ?_
      refine v_iload_n dX4_join_50 rfl 0 rfl ?_
      refine v_iconst (v := 3) dX4_join_51 (by decide) ?_
      refine v_iand dX4_join_52 ?_
      rw [mv_j1 p hp q hq]
      refine v_putf 1 (fs' := [_, _, _, _]) (ci := 2) (C := RX4) (T := TX4) (N := 4) (ty := .int) rfl iwX4_join_X4 tyX4 tyX4_ok nmX4 (Nat.le_of_ble_eq_true rfl) (by decide +kernel) rfl rfl dX4_join_53 rfl rfl (by repeat (first | with_reducible assumption | (with_reducible refine sv_us.trans ?_; exact rfl) | with_reducible refine (sv_un (by omega)).trans ?_)) (Nat.le_of_ble_eq_true rfl) rfl ?_
      refine v_aload_n dX4_join_56 rfl 1 rfl ?_
      refine v_aload_n dX4_join_57 rfl 2 rfl ?_
      refine v_aload_n dX4_join_58 rfl 3 rfl ?_
      refine v_getf 2 (ci := 2) (C := RX4) (T := TX4) (N := 4) rfl iwX4_join_X4 (Nat.le_of_ble_eq_true rfl) (by decide +kernel) dX4_join_59 (by repeat (first | with_reducible assumption | (with_reducible refine sv_us.trans ?_; exact rfl) | with_reducible refine (sv_un (by omega)).trans ?_)) (by exact rfl) ?_
      refine v_aload_n dX4_join_62 rfl 3 rfl ?_
      refine v_getf 3 (ci := 2) (C := RX4) (T := TX4) (N := 4) rfl iwX4_join_X4 (Nat.le_of_ble_eq_true rfl) (by decide +kernel) dX4_join_63 (by repeat (first | with_reducible assumption | (with_reducible refine sv_us.trans ?_; exact rfl) | with_reducible refine (sv_un (by omega)).trans ?_)) (by exact rfl) ?_
      refine v_callVq (M' := mX4_xOf) (n := 2) (As := [_, _]) (ci := 2) (r := (RX4, TX4, 4)) gX4_join_X4_xOf rfl (by decide +kernel) ⟨(Nat.le_of_ble_eq_true rfl), (Nat.le_of_ble_eq_true rfl)⟩ rfl rfl dX4_join_66 rfl ⟨(Nat.le_of_ble_eq_true rfl), (Nat.le_of_ble_eq_true rfl)⟩ (Nat.le_of_ble_eq_true rfl) (by repeat (first | with_reducible assumption | (with_reducible refine sv_us.trans ?_; exact rfl) | with_reducible refine (sv_un (by omega)).trans ?_)) rfl (c_xOf G _ _ c (true, p, x, y) hp ((sv_un (by omega)).trans ((sv_un (by omega)).trans hc)  ) u s) (fun v h1 z1 hq => v_pq hq ?_)
      refine v_putf 2 (fs' := [_, _, _, _]) (ci := 2) (C := RX4) (T := TX4) (N := 4) (ty := .int) rfl iwX4_join_X4 tyX4 tyX4_ok nmX4 (Nat.le_of_ble_eq_true rfl) (by decide +kernel) rfl rfl dX4_join_69 rfl rfl (by repeat (first | with_reducible assumption | (with_reducible refine sv_us.trans ?_; exact rfl) | with_reducible refine (sv_un (by omega)).trans ?_)) (Nat.le_of_ble_eq_true rfl) rfl ?_
      refine v_aload_n dX4_join_72 rfl 1 rfl ?_
      refine v_aload_n dX4_join_73 rfl 2 rfl ?_
      refine v_aload_n dX4_join_74 rfl 3 rfl ?_
      refine v_getf 2 (ci := 2) (C := RX4) (T := TX4) (N := 4) rfl iwX4_join_X4 (Nat.le_of_ble_eq_true rfl) (by decide +kernel) dX4_join_75 (by repeat (first | with_reducible assumption | (with_reducible refine sv_us.trans ?_; exact rfl) | with_reducible refine (sv_un (by omega)).trans ?_)) (by exact rfl) ?_
      refine v_aload_n dX4_join_78 rfl 3 rfl ?_
      refine v_getf 3 (ci := 2) (C := RX4) (T := TX4) (N := 4) rfl iwX4_join_X4 (Nat.le_of_ble_eq_true rfl) (by decide +kernel) dX4_join_79 (by repeat (first | with_reducible assumption | (with_reducible refine sv_us.trans ?_; exact rfl) | with_reducible refine (sv_un (by omega)).trans ?_)) (by exact rfl) ?_
      refine v_callVq (M' := mX4_yOf) (n := 2) (As := [_, _]) (ci := 2) (r := (RX4, TX4, 4)) gX4_join_X4_yOf rfl (by decide +kernel) ⟨(Nat.le_of_ble_eq_true rfl), (Nat.le_of_ble_eq_true rfl)⟩ rfl rfl dX4_join_82 rfl ⟨(Nat.le_of_ble_eq_true rfl), (Nat.le_of_ble_eq_true rfl)⟩ (Nat.le_of_ble_eq_true rfl) (by repeat (first | with_reducible assumption | (with_reducible refine sv_us.trans ?_; exact rfl) | with_reducible refine (sv_un (by omega)).trans ?_)) rfl (c_yOf G _ _ c (true, p, x, y) hp ((sv_un (by omega)).trans ((sv_un (by omega)).trans ((sv_un (by omega)).trans hc))  ) u s) (fun v h1 z1 hq => v_pq hq ?_)
      refine v_putf 3 (fs' := [_, _, _, _]) (ci := 2) (C := RX4) (T := TX4) (N := 4) (ty := .int) rfl iwX4_join_X4 tyX4 tyX4_ok nmX4 (Nat.le_of_ble_eq_true rfl) (by decide +kernel) rfl rfl dX4_join_85 rfl rfl (by repeat (first | with_reducible assumption | (with_reducible refine sv_us.trans ?_; exact rfl) | with_reducible refine (sv_un (by omega)).trans ?_)) (Nat.le_of_ble_eq_true rfl) rfl ?_
      exact v_ret rfl dX4_join_88 (Nat.le_of_ble_eq_true rfl) (Nat.le_of_ble_eq_true rfl) ⟨rfl, rfl, sv_us, fun w p => (sv_un p).trans ((sv_un p).trans ((sv_un p).trans (sv_un p)))⟩
    · exact absurd rfl c_38

theorem c_join (G : sv_G) (h : sv_h) (z a c e : Nat) (O I : mvT) (hO : O.2.1 < 4) (hI : I.2.1 < 4) (hac : a ≠ c) (hae : a ≠ e) (y0 y1 y2 y3 : Int32) (h0 : h a = some (.inr (2, [.int y0, .int y1, .int y2, .int y3]))) (hc : h c = mvC O) (he : h e = mvC I) : CT G mX4_join [.ref a, .ref c, .ref e] h z (fun v h1 z1 => v = none ∧ z1 = z ∧ h1 a = mvC (mvJ O I) ∧ ∀ w, w ≠ a → h1 w = h w) := by
  obtain ⟨om, p, x, y⟩ := O
  obtain ⟨im, q, u, s⟩ := I
  cases om <;> cases im
  · exact c_join00 G h z a c e p q x y u s hO hI hac hae y0 y1 y2 y3 h0 hc he
  · exact c_join01 G h z a c e p q x y u s hO hI hac hae y0 y1 y2 y3 h0 hc he
  · exact c_join10 G h z a c e p q x y u s hO hI hac hae y0 y1 y2 y3 h0 hc he
  · exact c_join11 G h z a c e p q x y u s hO hI hac hae y0 y1 y2 y3 h0 hc he
