theorem u_rd (μ : ab_S) (c j : Nat) (x : Int32) (d : Nat) : (ab_up μ c j x).1 d = if d = c then upd (μ.1 c) j x else μ.1 d := rfl
theorem u_2 (μ : ab_S) (c j : Nat) (x : Int32) : (ab_up μ c j x).2 = μ.2 := rfl
theorem u_at (f : Nat → Int32) (k : Nat) (x : Int32) (j : Nat) : upd f k x j = if j = k then x else f j := rfl
theorem b_res (x : Int32) (st : List ab_V) : ab_res (some x) st = .inl x :: st := rfl
theorem b_resN (st : List ab_V) : ab_res none st = st := rfl
theorem b_nm0 : ab_nm gd_mv [] = true := rfl
theorem b_nm1 (ls : ab_L) : ab_nm gd_mv (none :: ls) = ab_nm gd_mv ls := rfl
theorem b_nm2 (x : Int32) (ls : ab_L) : ab_nm gd_mv (some (.inl x) :: ls) = ab_nm gd_mv ls := rfl
theorem b_ns0 : ab_nmS gd_mv [] = true := rfl
theorem b_ns1 (x : Int32) (st : List ab_V) : ab_nmS gd_mv (.inl x :: st) = ab_nmS gd_mv st := rfl
theorem b01_0 : ((0 : Int32) = 0 ∨ (0 : Int32) = 1) = True := by simp
theorem b01_1 : ((1 : Int32) = 0 ∨ (1 : Int32) = 1) = True := by simp
theorem i10 : ((1 : Int32) = 0) = False := by decide
theorem b_l0 : Nat.ble ([] : List ab_V).length 8 = true := rfl
theorem b_l1 (a : ab_V) : Nat.ble [a].length 8 = true := rfl
theorem b_l2 (a b : ab_V) : Nat.ble [a, b].length 8 = true := rfl
theorem b_l3 (a b c : ab_V) : Nat.ble [a, b, c].length 8 = true := rfl
theorem b_l4 (a b c d : ab_V) : Nat.ble [a, b, c, d].length 8 = true := rfl
theorem b_l5 (a b c d e : ab_V) : Nat.ble [a, b, c, d, e].length 8 = true := rfl
theorem b_l6 (a b c d e f : ab_V) : Nat.ble [a, b, c, d, e, f].length 8 = true := rfl
theorem kI_m2 : ((-2) : Int32).toInt = -2 := by decide
theorem kI_m1 : ((-1) : Int32).toInt = -1 := by decide
theorem kI_0 : (0 : Int32).toInt = 0 := by decide
theorem kI_1 : (1 : Int32).toInt = 1 := by decide
theorem kI_2 : (2 : Int32).toInt = 2 := by decide
theorem kI_3 : (3 : Int32).toInt = 3 := by decide
theorem kI_4 : (4 : Int32).toInt = 4 := by decide
theorem kI_5 : (5 : Int32).toInt = 5 := by decide
theorem kI_6 : (6 : Int32).toInt = 6 := by decide
theorem kI_7 : (7 : Int32).toInt = 7 := by decide
theorem kI_8 : (8 : Int32).toInt = 8 := by decide
theorem kI_9 : (9 : Int32).toInt = 9 := by decide
theorem kI_10 : (10 : Int32).toInt = 10 := by decide
theorem kI_11 : (11 : Int32).toInt = 11 := by decide
theorem kI_12 : (12 : Int32).toInt = 12 := by decide
theorem kI_13 : (13 : Int32).toInt = 13 := by decide
theorem kI_14 : (14 : Int32).toInt = 14 := by decide
theorem kI_15 : (15 : Int32).toInt = 15 := by decide
theorem kI_16 : (16 : Int32).toInt = 16 := by decide
theorem kI_19 : (19 : Int32).toInt = 19 := by decide
theorem kI_20 : (20 : Int32).toInt = 20 := by decide
theorem kI_24 : (24 : Int32).toInt = 24 := by decide
theorem kI_29 : (29 : Int32).toInt = 29 := by decide
theorem kI_30 : (30 : Int32).toInt = 30 := by decide
theorem kI_31 : (31 : Int32).toInt = 31 := by decide
theorem kI_32 : (32 : Int32).toInt = 32 := by decide
theorem kI_48 : (48 : Int32).toInt = 48 := by decide
theorem kI_50 : (50 : Int32).toInt = 50 := by decide
theorem kI_57 : (57 : Int32).toInt = 57 := by decide
theorem kI_58 : (58 : Int32).toInt = 58 := by decide
theorem kI_59 : (59 : Int32).toInt = 59 := by decide
theorem kI_60 : (60 : Int32).toInt = 60 := by decide
theorem kI_97 : (97 : Int32).toInt = 97 := by decide
theorem kI_99 : (99 : Int32).toInt = 99 := by decide
theorem kI_100 : (100 : Int32).toInt = 100 := by decide
theorem kI_119 : (119 : Int32).toInt = 119 := by decide
theorem kI_120 : (120 : Int32).toInt = 120 := by decide
theorem kI_122 : (122 : Int32).toInt = 122 := by decide
theorem kI_149 : (149 : Int32).toInt = 149 := by decide
theorem kI_150 : (150 : Int32).toInt = 150 := by decide
theorem kI_199 : (199 : Int32).toInt = 199 := by decide
theorem kI_200 : (200 : Int32).toInt = 200 := by decide
theorem kI_255 : (255 : Int32).toInt = 255 := by decide
theorem kI_1000 : (1000 : Int32).toInt = 1000 := by decide
theorem kI_3000 : (3000 : Int32).toInt = 3000 := by decide
theorem kI_3700 : (3700 : Int32).toInt = 3700 := by decide
theorem kI_5000 : (5000 : Int32).toInt = 5000 := by decide
theorem b_nm3_0 (ls : ab_L) : ab_nm gd_mv (some (.inr 0) :: ls) = ab_nm gd_mv ls := rfl
theorem b_nm3_1 (ls : ab_L) : ab_nm gd_mv (some (.inr 1) :: ls) = ab_nm gd_mv ls := rfl
theorem b_nm3_2 (ls : ab_L) : ab_nm gd_mv (some (.inr 2) :: ls) = ab_nm gd_mv ls := rfl
theorem b_nm3_3 (ls : ab_L) : ab_nm gd_mv (some (.inr 3) :: ls) = ab_nm gd_mv ls := rfl
theorem b_nm3_4 (ls : ab_L) : ab_nm gd_mv (some (.inr 4) :: ls) = ab_nm gd_mv ls := rfl
theorem b_nm3_5 (ls : ab_L) : ab_nm gd_mv (some (.inr 5) :: ls) = ab_nm gd_mv ls := rfl
theorem b_nm3_6 (ls : ab_L) : ab_nm gd_mv (some (.inr 6) :: ls) = ab_nm gd_mv ls := rfl
theorem b_nm3_7 (ls : ab_L) : ab_nm gd_mv (some (.inr 7) :: ls) = ab_nm gd_mv ls := rfl
theorem b_nm3_8 (ls : ab_L) : ab_nm gd_mv (some (.inr 8) :: ls) = ab_nm gd_mv ls := rfl
theorem b_nm3_9 (ls : ab_L) : ab_nm gd_mv (some (.inr 9) :: ls) = ab_nm gd_mv ls := rfl
theorem b_nm3_10 (ls : ab_L) : ab_nm gd_mv (some (.inr 10) :: ls) = ab_nm gd_mv ls := rfl
theorem b_nm3_11 (ls : ab_L) : ab_nm gd_mv (some (.inr 11) :: ls) = ab_nm gd_mv ls := rfl
theorem b_nm3_100 (ls : ab_L) : ab_nm gd_mv (some (.inr 100) :: ls) = ab_nm gd_mv ls := rfl
theorem b_nm3_101 (ls : ab_L) : ab_nm gd_mv (some (.inr 101) :: ls) = ab_nm gd_mv ls := rfl
theorem b_nm3_102 (ls : ab_L) : ab_nm gd_mv (some (.inr 102) :: ls) = ab_nm gd_mv ls := rfl
theorem b_nm3_200 (ls : ab_L) : ab_nm gd_mv (some (.inr 200) :: ls) = ab_nm gd_mv ls := rfl
theorem b_nm3_201 (ls : ab_L) : ab_nm gd_mv (some (.inr 201) :: ls) = ab_nm gd_mv ls := rfl
theorem b_nm3_202 (ls : ab_L) : ab_nm gd_mv (some (.inr 202) :: ls) = ab_nm gd_mv ls := rfl
theorem b_nm3_203 (ls : ab_L) : ab_nm gd_mv (some (.inr 203) :: ls) = ab_nm gd_mv ls := rfl
theorem b_nm3_204 (ls : ab_L) : ab_nm gd_mv (some (.inr 204) :: ls) = ab_nm gd_mv ls := rfl
theorem b_nm3_205 (ls : ab_L) : ab_nm gd_mv (some (.inr 205) :: ls) = ab_nm gd_mv ls := rfl
theorem b_nm3_206 (ls : ab_L) : ab_nm gd_mv (some (.inr 206) :: ls) = ab_nm gd_mv ls := rfl
theorem b_nm3_207 (ls : ab_L) : ab_nm gd_mv (some (.inr 207) :: ls) = ab_nm gd_mv ls := rfl
theorem b_nm3_208 (ls : ab_L) : ab_nm gd_mv (some (.inr 208) :: ls) = ab_nm gd_mv ls := rfl
theorem b_ns2_0 (st : List ab_V) : ab_nmS gd_mv (.inr 0 :: st) = ab_nmS gd_mv st := rfl
theorem b_ns2_1 (st : List ab_V) : ab_nmS gd_mv (.inr 1 :: st) = ab_nmS gd_mv st := rfl
theorem b_ns2_2 (st : List ab_V) : ab_nmS gd_mv (.inr 2 :: st) = ab_nmS gd_mv st := rfl
theorem b_ns2_3 (st : List ab_V) : ab_nmS gd_mv (.inr 3 :: st) = ab_nmS gd_mv st := rfl
theorem b_ns2_4 (st : List ab_V) : ab_nmS gd_mv (.inr 4 :: st) = ab_nmS gd_mv st := rfl
theorem b_ns2_5 (st : List ab_V) : ab_nmS gd_mv (.inr 5 :: st) = ab_nmS gd_mv st := rfl
theorem b_ns2_6 (st : List ab_V) : ab_nmS gd_mv (.inr 6 :: st) = ab_nmS gd_mv st := rfl
theorem b_ns2_7 (st : List ab_V) : ab_nmS gd_mv (.inr 7 :: st) = ab_nmS gd_mv st := rfl
theorem b_ns2_8 (st : List ab_V) : ab_nmS gd_mv (.inr 8 :: st) = ab_nmS gd_mv st := rfl
theorem b_ns2_9 (st : List ab_V) : ab_nmS gd_mv (.inr 9 :: st) = ab_nmS gd_mv st := rfl
theorem b_ns2_10 (st : List ab_V) : ab_nmS gd_mv (.inr 10 :: st) = ab_nmS gd_mv st := rfl
theorem b_ns2_11 (st : List ab_V) : ab_nmS gd_mv (.inr 11 :: st) = ab_nmS gd_mv st := rfl
theorem b_ns2_12 (st : List ab_V) : ab_nmS gd_mv (.inr 12 :: st) = ab_nmS gd_mv st := rfl
theorem b_ns2_13 (st : List ab_V) : ab_nmS gd_mv (.inr 13 :: st) = ab_nmS gd_mv st := rfl
theorem b_ns2_14 (st : List ab_V) : ab_nmS gd_mv (.inr 14 :: st) = ab_nmS gd_mv st := rfl
theorem b_ns2_15 (st : List ab_V) : ab_nmS gd_mv (.inr 15 :: st) = ab_nmS gd_mv st := rfl
theorem b_ns2_16 (st : List ab_V) : ab_nmS gd_mv (.inr 16 :: st) = ab_nmS gd_mv st := rfl
theorem b_ns2_17 (st : List ab_V) : ab_nmS gd_mv (.inr 17 :: st) = ab_nmS gd_mv st := rfl
theorem b_ns2_18 (st : List ab_V) : ab_nmS gd_mv (.inr 18 :: st) = ab_nmS gd_mv st := rfl
theorem b_ns2_19 (st : List ab_V) : ab_nmS gd_mv (.inr 19 :: st) = ab_nmS gd_mv st := rfl
theorem b_ns2_20 (st : List ab_V) : ab_nmS gd_mv (.inr 20 :: st) = ab_nmS gd_mv st := rfl
theorem b_ns2_21 (st : List ab_V) : ab_nmS gd_mv (.inr 21 :: st) = ab_nmS gd_mv st := rfl
theorem b_ns2_22 (st : List ab_V) : ab_nmS gd_mv (.inr 22 :: st) = ab_nmS gd_mv st := rfl
theorem b_ns2_23 (st : List ab_V) : ab_nmS gd_mv (.inr 23 :: st) = ab_nmS gd_mv st := rfl
theorem b_ns2_24 (st : List ab_V) : ab_nmS gd_mv (.inr 24 :: st) = ab_nmS gd_mv st := rfl
theorem b_ns2_25 (st : List ab_V) : ab_nmS gd_mv (.inr 25 :: st) = ab_nmS gd_mv st := rfl
theorem b_ns2_26 (st : List ab_V) : ab_nmS gd_mv (.inr 26 :: st) = ab_nmS gd_mv st := rfl
theorem b_ns2_27 (st : List ab_V) : ab_nmS gd_mv (.inr 27 :: st) = ab_nmS gd_mv st := rfl
theorem b_ns2_28 (st : List ab_V) : ab_nmS gd_mv (.inr 28 :: st) = ab_nmS gd_mv st := rfl
theorem b_ns2_29 (st : List ab_V) : ab_nmS gd_mv (.inr 29 :: st) = ab_nmS gd_mv st := rfl
theorem b_ns2_30 (st : List ab_V) : ab_nmS gd_mv (.inr 30 :: st) = ab_nmS gd_mv st := rfl
theorem b_ns2_31 (st : List ab_V) : ab_nmS gd_mv (.inr 31 :: st) = ab_nmS gd_mv st := rfl
theorem b_ns2_32 (st : List ab_V) : ab_nmS gd_mv (.inr 32 :: st) = ab_nmS gd_mv st := rfl
theorem b_ns2_33 (st : List ab_V) : ab_nmS gd_mv (.inr 33 :: st) = ab_nmS gd_mv st := rfl
theorem b_ns2_34 (st : List ab_V) : ab_nmS gd_mv (.inr 34 :: st) = ab_nmS gd_mv st := rfl
theorem b_ns2_35 (st : List ab_V) : ab_nmS gd_mv (.inr 35 :: st) = ab_nmS gd_mv st := rfl
theorem b_ns2_36 (st : List ab_V) : ab_nmS gd_mv (.inr 36 :: st) = ab_nmS gd_mv st := rfl
theorem b_ns2_37 (st : List ab_V) : ab_nmS gd_mv (.inr 37 :: st) = ab_nmS gd_mv st := rfl
theorem b_ns2_38 (st : List ab_V) : ab_nmS gd_mv (.inr 38 :: st) = ab_nmS gd_mv st := rfl
theorem b_ns2_39 (st : List ab_V) : ab_nmS gd_mv (.inr 39 :: st) = ab_nmS gd_mv st := rfl
theorem b_ns2_40 (st : List ab_V) : ab_nmS gd_mv (.inr 40 :: st) = ab_nmS gd_mv st := rfl
theorem b_ns2_41 (st : List ab_V) : ab_nmS gd_mv (.inr 41 :: st) = ab_nmS gd_mv st := rfl
theorem b_ns2_42 (st : List ab_V) : ab_nmS gd_mv (.inr 42 :: st) = ab_nmS gd_mv st := rfl
theorem b_ns2_43 (st : List ab_V) : ab_nmS gd_mv (.inr 43 :: st) = ab_nmS gd_mv st := rfl
theorem b_ns2_44 (st : List ab_V) : ab_nmS gd_mv (.inr 44 :: st) = ab_nmS gd_mv st := rfl
theorem b_ns2_45 (st : List ab_V) : ab_nmS gd_mv (.inr 45 :: st) = ab_nmS gd_mv st := rfl
theorem b_ns2_50 (st : List ab_V) : ab_nmS gd_mv (.inr 50 :: st) = ab_nmS gd_mv st := rfl
theorem b_ns2_51 (st : List ab_V) : ab_nmS gd_mv (.inr 51 :: st) = ab_nmS gd_mv st := rfl
theorem b_ns2_52 (st : List ab_V) : ab_nmS gd_mv (.inr 52 :: st) = ab_nmS gd_mv st := rfl
theorem b_ns2_53 (st : List ab_V) : ab_nmS gd_mv (.inr 53 :: st) = ab_nmS gd_mv st := rfl
theorem b_ns2_54 (st : List ab_V) : ab_nmS gd_mv (.inr 54 :: st) = ab_nmS gd_mv st := rfl
theorem b_ns2_55 (st : List ab_V) : ab_nmS gd_mv (.inr 55 :: st) = ab_nmS gd_mv st := rfl
theorem b_ns2_56 (st : List ab_V) : ab_nmS gd_mv (.inr 56 :: st) = ab_nmS gd_mv st := rfl
theorem b_ns2_57 (st : List ab_V) : ab_nmS gd_mv (.inr 57 :: st) = ab_nmS gd_mv st := rfl
theorem b_ns2_58 (st : List ab_V) : ab_nmS gd_mv (.inr 58 :: st) = ab_nmS gd_mv st := rfl
theorem b_ns2_59 (st : List ab_V) : ab_nmS gd_mv (.inr 59 :: st) = ab_nmS gd_mv st := rfl
theorem b_ns2_60 (st : List ab_V) : ab_nmS gd_mv (.inr 60 :: st) = ab_nmS gd_mv st := rfl
theorem b_ns2_61 (st : List ab_V) : ab_nmS gd_mv (.inr 61 :: st) = ab_nmS gd_mv st := rfl
theorem b_ns2_62 (st : List ab_V) : ab_nmS gd_mv (.inr 62 :: st) = ab_nmS gd_mv st := rfl
theorem b_ns2_63 (st : List ab_V) : ab_nmS gd_mv (.inr 63 :: st) = ab_nmS gd_mv st := rfl
theorem b_ns2_64 (st : List ab_V) : ab_nmS gd_mv (.inr 64 :: st) = ab_nmS gd_mv st := rfl
theorem b_ns2_65 (st : List ab_V) : ab_nmS gd_mv (.inr 65 :: st) = ab_nmS gd_mv st := rfl
theorem b_ns2_66 (st : List ab_V) : ab_nmS gd_mv (.inr 66 :: st) = ab_nmS gd_mv st := rfl
theorem b_ns2_67 (st : List ab_V) : ab_nmS gd_mv (.inr 67 :: st) = ab_nmS gd_mv st := rfl
theorem b_ns2_68 (st : List ab_V) : ab_nmS gd_mv (.inr 68 :: st) = ab_nmS gd_mv st := rfl
theorem b_ns2_69 (st : List ab_V) : ab_nmS gd_mv (.inr 69 :: st) = ab_nmS gd_mv st := rfl
theorem b_ns2_70 (st : List ab_V) : ab_nmS gd_mv (.inr 70 :: st) = ab_nmS gd_mv st := rfl
theorem b_ns2_71 (st : List ab_V) : ab_nmS gd_mv (.inr 71 :: st) = ab_nmS gd_mv st := rfl
theorem b_ns2_72 (st : List ab_V) : ab_nmS gd_mv (.inr 72 :: st) = ab_nmS gd_mv st := rfl
theorem b_ns2_73 (st : List ab_V) : ab_nmS gd_mv (.inr 73 :: st) = ab_nmS gd_mv st := rfl
theorem b_ns2_74 (st : List ab_V) : ab_nmS gd_mv (.inr 74 :: st) = ab_nmS gd_mv st := rfl
theorem b_ns2_75 (st : List ab_V) : ab_nmS gd_mv (.inr 75 :: st) = ab_nmS gd_mv st := rfl
theorem b_ns2_76 (st : List ab_V) : ab_nmS gd_mv (.inr 76 :: st) = ab_nmS gd_mv st := rfl
theorem b_ns2_77 (st : List ab_V) : ab_nmS gd_mv (.inr 77 :: st) = ab_nmS gd_mv st := rfl
theorem b_ns2_78 (st : List ab_V) : ab_nmS gd_mv (.inr 78 :: st) = ab_nmS gd_mv st := rfl
theorem b_ns2_79 (st : List ab_V) : ab_nmS gd_mv (.inr 79 :: st) = ab_nmS gd_mv st := rfl
theorem b_ns2_80 (st : List ab_V) : ab_nmS gd_mv (.inr 80 :: st) = ab_nmS gd_mv st := rfl
theorem b_ns2_81 (st : List ab_V) : ab_nmS gd_mv (.inr 81 :: st) = ab_nmS gd_mv st := rfl
theorem b_ns2_82 (st : List ab_V) : ab_nmS gd_mv (.inr 82 :: st) = ab_nmS gd_mv st := rfl
theorem b_ns2_83 (st : List ab_V) : ab_nmS gd_mv (.inr 83 :: st) = ab_nmS gd_mv st := rfl
theorem b_ns2_84 (st : List ab_V) : ab_nmS gd_mv (.inr 84 :: st) = ab_nmS gd_mv st := rfl
theorem b_ns2_85 (st : List ab_V) : ab_nmS gd_mv (.inr 85 :: st) = ab_nmS gd_mv st := rfl
theorem b_ns2_86 (st : List ab_V) : ab_nmS gd_mv (.inr 86 :: st) = ab_nmS gd_mv st := rfl
theorem b_ns2_87 (st : List ab_V) : ab_nmS gd_mv (.inr 87 :: st) = ab_nmS gd_mv st := rfl
theorem b_ns2_88 (st : List ab_V) : ab_nmS gd_mv (.inr 88 :: st) = ab_nmS gd_mv st := rfl
