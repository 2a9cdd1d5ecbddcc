/-! ===== the cells (written by wip/whole/gen/facts.py) ===== -/
theorem ly_0 : jly 0 = (12, 9, [(2, 1), (2, 16), (2, 31), (2, 46), (2, 48), (2, 57), (2, 59), (2, 67), (0, 0)]) := by decide +kernel
theorem ly_1 : jly 1 = (6, 17, jBlkS 1) := by decide +kernel
theorem ly_2 : jly 2 = (0, 8, []) := by decide +kernel
theorem ly_3 : jly 3 = (0, 8, []) := by decide +kernel
theorem ly_4 : jly 4 = (0, 8, []) := by decide +kernel
theorem ly_5 : jly 5 = (0, 8, []) := by decide +kernel
theorem ly_6 : jly 6 = (0, 8, []) := by decide +kernel
theorem ly_7 : jly 7 = (0, 60, []) := by decide +kernel
theorem ly_8 : jly 8 = (0, 24, []) := by decide +kernel
theorem ly_9 : jly 9 = (4, 2, [(2, 10), (2, 13)]) := by decide +kernel
theorem ly_10 : jly 10 = (10, 6, jTxtS 10 1002) := by decide +kernel
theorem ly_11 : jly 11 = (0, 60, []) := by decide +kernel
theorem ly_12 : jly 12 = (5, 60, []) := by decide +kernel
theorem ly_13 : jly 13 = (10, 6, jTxtS 13 1003) := by decide +kernel
theorem ly_14 : jly 14 = (0, 60, []) := by decide +kernel
theorem ly_15 : jly 15 = (5, 60, []) := by decide +kernel
theorem ly_16 : jly 16 = (6, 17, jBlkS 16) := by decide +kernel
theorem ly_17 : jly 17 = (0, 8, []) := by decide +kernel
theorem ly_18 : jly 18 = (0, 8, []) := by decide +kernel
theorem ly_19 : jly 19 = (0, 8, []) := by decide +kernel
theorem ly_20 : jly 20 = (0, 8, []) := by decide +kernel
theorem ly_21 : jly 21 = (0, 8, []) := by decide +kernel
theorem ly_22 : jly 22 = (0, 60, []) := by decide +kernel
theorem ly_23 : jly 23 = (0, 24, []) := by decide +kernel
theorem ly_24 : jly 24 = (4, 2, [(2, 25), (2, 28)]) := by decide +kernel
theorem ly_25 : jly 25 = (10, 6, jTxtS 25 1002) := by decide +kernel
theorem ly_26 : jly 26 = (0, 60, []) := by decide +kernel
theorem ly_27 : jly 27 = (5, 60, []) := by decide +kernel
theorem ly_28 : jly 28 = (10, 6, jTxtS 28 1003) := by decide +kernel
theorem ly_29 : jly 29 = (0, 60, []) := by decide +kernel
theorem ly_30 : jly 30 = (5, 60, []) := by decide +kernel
theorem ly_31 : jly 31 = (6, 17, jBlkS 31) := by decide +kernel
theorem ly_32 : jly 32 = (0, 8, []) := by decide +kernel
theorem ly_33 : jly 33 = (0, 8, []) := by decide +kernel
theorem ly_34 : jly 34 = (0, 8, []) := by decide +kernel
theorem ly_35 : jly 35 = (0, 8, []) := by decide +kernel
theorem ly_36 : jly 36 = (0, 8, []) := by decide +kernel
theorem ly_37 : jly 37 = (0, 60, []) := by decide +kernel
theorem ly_38 : jly 38 = (0, 24, []) := by decide +kernel
theorem ly_39 : jly 39 = (4, 2, [(2, 40), (2, 43)]) := by decide +kernel
theorem ly_40 : jly 40 = (10, 6, jTxtS 40 1002) := by decide +kernel
theorem ly_41 : jly 41 = (0, 60, []) := by decide +kernel
theorem ly_42 : jly 42 = (5, 60, []) := by decide +kernel
theorem ly_43 : jly 43 = (10, 6, jTxtS 43 1003) := by decide +kernel
theorem ly_44 : jly 44 = (0, 60, []) := by decide +kernel
theorem ly_45 : jly 45 = (5, 60, []) := by decide +kernel
theorem ly_46 : jly 46 = (8, 6, [(2, 7), (2, 47), (0, 0), (0, 0), (0, 0), (3, 0)]) := by decide +kernel
theorem ly_47 : jly 47 = (0, 60, []) := by decide +kernel
theorem ly_48 : jly 48 = (7, 5, [(2, 49), (2, 54), (2, 55), (2, 56), (1, 0)]) := by decide +kernel
theorem ly_49 : jly 49 = (2, 4, [(2, 50), (2, 51), (2, 52), (2, 53)]) := by decide +kernel
theorem ly_50 : jly 50 = (1, 5, []) := by decide +kernel
theorem ly_51 : jly 51 = (1, 5, []) := by decide +kernel
theorem ly_52 : jly 52 = (1, 5, []) := by decide +kernel
theorem ly_53 : jly 53 = (1, 5, []) := by decide +kernel
theorem ly_54 : jly 54 = (1, 4, []) := by decide +kernel
theorem ly_55 : jly 55 = (0, 8, []) := by decide +kernel
theorem ly_56 : jly 56 = (0, 8, []) := by decide +kernel
theorem ly_57 : jly 57 = (11, 6, [(2, 58), (0, 0), (0, 0), (0, 0), (0, 0), (0, 0)]) := by decide +kernel
theorem ly_58 : jly 58 = (0, 30, []) := by decide +kernel
theorem ly_59 : jly 59 = (9, 3, [(2, 60), (2, 65), (2, 66)]) := by decide +kernel
theorem ly_60 : jly 60 = (3, 4, [(2, 61), (2, 62), (2, 63), (2, 64)]) := by decide +kernel
theorem ly_61 : jly 61 = (0, 24, []) := by decide +kernel
theorem ly_62 : jly 62 = (0, 24, []) := by decide +kernel
theorem ly_63 : jly 63 = (0, 24, []) := by decide +kernel
theorem ly_64 : jly 64 = (0, 24, []) := by decide +kernel
theorem ly_65 : jly 65 = (0, 4, []) := by decide +kernel
theorem ly_66 : jly 66 = (0, 4, []) := by decide +kernel
theorem ly_67 : jly 67 = (0, 7, []) := by decide +kernel
theorem ly_68 : jly 68 = (13, 24, [(2, 69), (2, 70), (2, 71), (0, 0), (2, 72), (2, 73), (2, 74), (2, 75), (2, 76), (2, 77), (2, 78), (1, 0), (2, 79), (2, 80), (2, 81), (2, 82), (0, 0), (0, 0), (0, 0), (0, 0), (0, 0), (2, 83), (0, 0), (0, 0)]) := by decide +kernel
theorem ly_69 : jly 69 = (0, 382, []) := by decide +kernel
theorem ly_70 : jly 70 = (0, 382, []) := by decide +kernel
theorem ly_71 : jly 71 = (0, 382, []) := by decide +kernel
theorem ly_72 : jly 72 = (0, 7, []) := by decide +kernel
theorem ly_73 : jly 73 = (0, 4, []) := by decide +kernel
theorem ly_74 : jly 74 = (0, 4, []) := by decide +kernel
theorem ly_75 : jly 75 = (0, 96, []) := by decide +kernel
theorem ly_76 : jly 76 = (1, 16, []) := by decide +kernel
theorem ly_77 : jly 77 = (1, 4, []) := by decide +kernel
theorem ly_78 : jly 78 = (1, 4, []) := by decide +kernel
theorem ly_79 : jly 79 = (0, 60, []) := by decide +kernel
theorem ly_80 : jly 80 = (0, 60, []) := by decide +kernel
theorem ly_81 : jly 81 = (5, 3, []) := by decide +kernel
theorem ly_82 : jly 82 = (5, 60, []) := by decide +kernel
theorem ly_83 : jly 83 = (0, 30, []) := by decide +kernel
/-- a block, a text: their numbers -/
def jB (b : Nat) : Prop := b = 1 ∨ b = 16 ∨ b = 31
def jT (t : Nat) : Prop := t = 10 ∨ t = 25 ∨ t = 40 ∨ t = 13 ∨ t = 28 ∨ t = 43
def jtn (t : Nat) : Nat := if t = 10 ∨ t = 25 ∨ t = 40 then 1002 else 1003
theorem lyb_0 {b : Nat} (h : jB b) : jly (b) = (6, 17, jBlkS b) := by rcases h with rfl | rfl | rfl <;> decide +kernel
theorem l84b_0 {b : Nat} (h : jB b) : b < 84 := by rcases h with rfl | rfl | rfl <;> decide
theorem lyb_1 {b : Nat} (h : jB b) : jly (b + 1) = (0, 8, []) := by rcases h with rfl | rfl | rfl <;> decide +kernel
theorem l84b_1 {b : Nat} (h : jB b) : b + 1 < 84 := by rcases h with rfl | rfl | rfl <;> decide
theorem lyb_2 {b : Nat} (h : jB b) : jly (b + 2) = (0, 8, []) := by rcases h with rfl | rfl | rfl <;> decide +kernel
theorem l84b_2 {b : Nat} (h : jB b) : b + 2 < 84 := by rcases h with rfl | rfl | rfl <;> decide
theorem lyb_3 {b : Nat} (h : jB b) : jly (b + 3) = (0, 8, []) := by rcases h with rfl | rfl | rfl <;> decide +kernel
theorem l84b_3 {b : Nat} (h : jB b) : b + 3 < 84 := by rcases h with rfl | rfl | rfl <;> decide
theorem lyb_4 {b : Nat} (h : jB b) : jly (b + 4) = (0, 8, []) := by rcases h with rfl | rfl | rfl <;> decide +kernel
theorem l84b_4 {b : Nat} (h : jB b) : b + 4 < 84 := by rcases h with rfl | rfl | rfl <;> decide
theorem lyb_5 {b : Nat} (h : jB b) : jly (b + 5) = (0, 8, []) := by rcases h with rfl | rfl | rfl <;> decide +kernel
theorem l84b_5 {b : Nat} (h : jB b) : b + 5 < 84 := by rcases h with rfl | rfl | rfl <;> decide
theorem lyb_6 {b : Nat} (h : jB b) : jly (b + 6) = (0, 60, []) := by rcases h with rfl | rfl | rfl <;> decide +kernel
theorem l84b_6 {b : Nat} (h : jB b) : b + 6 < 84 := by rcases h with rfl | rfl | rfl <;> decide
theorem lyb_7 {b : Nat} (h : jB b) : jly (b + 7) = (0, 24, []) := by rcases h with rfl | rfl | rfl <;> decide +kernel
theorem l84b_7 {b : Nat} (h : jB b) : b + 7 < 84 := by rcases h with rfl | rfl | rfl <;> decide
theorem lyb_8 {b : Nat} (h : jB b) : jly (b + 8) = (4, 2, [(2, b + 9), (2, b + 12)]) := by rcases h with rfl | rfl | rfl <;> decide +kernel
theorem l84b_8 {b : Nat} (h : jB b) : b + 8 < 84 := by rcases h with rfl | rfl | rfl <;> decide
theorem lyb_9 {b : Nat} (h : jB b) : jly (b + 9) = (10, 6, jTxtS (b + 9) 1002) := by rcases h with rfl | rfl | rfl <;> decide +kernel
theorem l84b_9 {b : Nat} (h : jB b) : b + 9 < 84 := by rcases h with rfl | rfl | rfl <;> decide
theorem lyb_10 {b : Nat} (h : jB b) : jly (b + 10) = (0, 60, []) := by rcases h with rfl | rfl | rfl <;> decide +kernel
theorem l84b_10 {b : Nat} (h : jB b) : b + 10 < 84 := by rcases h with rfl | rfl | rfl <;> decide
theorem lyb_11 {b : Nat} (h : jB b) : jly (b + 11) = (5, 60, []) := by rcases h with rfl | rfl | rfl <;> decide +kernel
theorem l84b_11 {b : Nat} (h : jB b) : b + 11 < 84 := by rcases h with rfl | rfl | rfl <;> decide
theorem lyb_12 {b : Nat} (h : jB b) : jly (b + 12) = (10, 6, jTxtS (b + 12) 1003) := by rcases h with rfl | rfl | rfl <;> decide +kernel
theorem l84b_12 {b : Nat} (h : jB b) : b + 12 < 84 := by rcases h with rfl | rfl | rfl <;> decide
theorem lyb_13 {b : Nat} (h : jB b) : jly (b + 13) = (0, 60, []) := by rcases h with rfl | rfl | rfl <;> decide +kernel
theorem l84b_13 {b : Nat} (h : jB b) : b + 13 < 84 := by rcases h with rfl | rfl | rfl <;> decide
theorem lyb_14 {b : Nat} (h : jB b) : jly (b + 14) = (5, 60, []) := by rcases h with rfl | rfl | rfl <;> decide +kernel
theorem l84b_14 {b : Nat} (h : jB b) : b + 14 < 84 := by rcases h with rfl | rfl | rfl <;> decide
theorem jTb_0 {b : Nat} (h : jB b) : jT (b + 9) := by rcases h with rfl | rfl | rfl <;> simp [jT]
theorem jTb_1 {b : Nat} (h : jB b) : jT (b + 12) := by rcases h with rfl | rfl | rfl <;> simp [jT]
theorem lyt_0 {t : Nat} (h : jT t) : jly (t) = (10, 6, jTxtS t (jtn t)) := by rcases h with rfl | rfl | rfl | rfl | rfl | rfl <;> decide +kernel
theorem l84t_0 {t : Nat} (h : jT t) : t < 84 := by rcases h with rfl | rfl | rfl | rfl | rfl | rfl <;> decide
theorem lyt_1 {t : Nat} (h : jT t) : jly (t + 1) = (0, 60, []) := by rcases h with rfl | rfl | rfl | rfl | rfl | rfl <;> decide +kernel
theorem l84t_1 {t : Nat} (h : jT t) : t + 1 < 84 := by rcases h with rfl | rfl | rfl | rfl | rfl | rfl <;> decide
theorem lyt_2 {t : Nat} (h : jT t) : jly (t + 2) = (5, 60, []) := by rcases h with rfl | rfl | rfl | rfl | rfl | rfl <;> decide +kernel
theorem l84t_2 {t : Nat} (h : jT t) : t + 2 < 84 := by rcases h with rfl | rfl | rfl | rfl | rfl | rfl <;> decide
