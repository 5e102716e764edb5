/-! the two objects are made -/
def kT (a : Nat) : Nat × Nat := (kdT.getD a (0, 99, 0)).2
theorem kT_0 : kT 0 = (6, 0) := by decide
theorem kn_0 {g : Nat → Nat × Nat} : va_up (fl kT g 0) 0 (6, 0) = fl kT g 1 := fl_succ kT_0.symm
theorem kT_1 : kT 1 = (4, 0) := by decide
theorem kn_1 {g : Nat → Nat × Nat} : va_up (fl kT g 1) 1 (4, 0) = fl kT g 2 := fl_succ kT_1.symm
theorem kT_2 : kT 2 = (8, 200) := by decide
theorem kn_2 {g : Nat → Nat × Nat} : va_up (fl kT g 2) 2 (8, 200) = fl kT g 3 := fl_succ kT_2.symm
theorem kT_3 : kT 3 = (0, 0) := by decide
theorem kn_3 {g : Nat → Nat × Nat} : va_up (fl kT g 3) 3 (0, 0) = fl kT g 4 := fl_succ kT_3.symm
theorem kT_4 : kT 4 = (8, 10) := by decide
theorem kn_4 {g : Nat → Nat × Nat} : va_up (fl kT g 4) 4 (8, 10) = fl kT g 5 := fl_succ kT_4.symm
theorem kT_5 : kT 5 = (8, 10) := by decide
theorem kn_5 {g : Nat → Nat × Nat} : va_up (fl kT g 5) 5 (8, 10) = fl kT g 6 := fl_succ kT_5.symm
theorem kT_6 : kT 6 = (8, 10) := by decide
theorem kn_6 {g : Nat → Nat × Nat} : va_up (fl kT g 6) 6 (8, 10) = fl kT g 7 := fl_succ kT_6.symm
theorem kT_7 : kT 7 = (8, 10) := by decide
theorem kn_7 {g : Nat → Nat × Nat} : va_up (fl kT g 7) 7 (8, 10) = fl kT g 8 := fl_succ kT_7.symm
theorem kT_8 : kT 8 = (0, 0) := by decide
theorem kn_8 {g : Nat → Nat × Nat} : va_up (fl kT g 8) 8 (0, 0) = fl kT g 9 := fl_succ kT_8.symm
theorem kT_9 : kT 9 = (8, 10) := by decide
theorem kn_9 {g : Nat → Nat × Nat} : va_up (fl kT g 9) 9 (8, 10) = fl kT g 10 := fl_succ kT_9.symm
theorem kT_10 : kT 10 = (8, 10) := by decide
theorem kn_10 {g : Nat → Nat × Nat} : va_up (fl kT g 10) 10 (8, 10) = fl kT g 11 := fl_succ kT_10.symm
theorem kT_11 : kT 11 = (8, 10) := by decide
theorem kn_11 {g : Nat → Nat × Nat} : va_up (fl kT g 11) 11 (8, 10) = fl kT g 12 := fl_succ kT_11.symm
theorem kT_12 : kT 12 = (8, 10) := by decide
theorem kn_12 {g : Nat → Nat × Nat} : va_up (fl kT g 12) 12 (8, 10) = fl kT g 13 := fl_succ kT_12.symm
theorem kT_13 : kT 13 = (2, 0) := by decide
theorem kn_13 {g : Nat → Nat × Nat} : va_up (fl kT g 13) 13 (2, 0) = fl kT g 14 := fl_succ kT_13.symm
theorem kT_14 : kT 14 = (10, 10) := by decide
theorem kn_14 {g : Nat → Nat × Nat} : va_up (fl kT g 14) 14 (10, 10) = fl kT g 15 := fl_succ kT_14.symm
theorem kT_15 : kT 15 = (8, 10) := by decide
theorem kn_15 {g : Nat → Nat × Nat} : va_up (fl kT g 15) 15 (8, 10) = fl kT g 16 := fl_succ kT_15.symm
theorem kT_16 : kT 16 = (9, 10) := by decide
theorem kn_16 {g : Nat → Nat × Nat} : va_up (fl kT g 16) 16 (9, 10) = fl kT g 17 := fl_succ kT_16.symm
theorem kT_17 : kT 17 = (11, 2) := by decide
theorem kn_17 {g : Nat → Nat × Nat} : va_up (fl kT g 17) 17 (11, 2) = fl kT g 18 := fl_succ kT_17.symm
theorem kT_18 : kT 18 = (2, 0) := by decide
theorem kn_18 {g : Nat → Nat × Nat} : va_up (fl kT g 18) 18 (2, 0) = fl kT g 19 := fl_succ kT_18.symm
theorem kT_19 : kT 19 = (10, 10) := by decide
theorem kn_19 {g : Nat → Nat × Nat} : va_up (fl kT g 19) 19 (10, 10) = fl kT g 20 := fl_succ kT_19.symm
theorem kT_20 : kT 20 = (8, 10) := by decide
theorem kn_20 {g : Nat → Nat × Nat} : va_up (fl kT g 20) 20 (8, 10) = fl kT g 21 := fl_succ kT_20.symm
theorem kT_21 : kT 21 = (9, 10) := by decide
theorem kn_21 {g : Nat → Nat × Nat} : va_up (fl kT g 21) 21 (9, 10) = fl kT g 22 := fl_succ kT_21.symm
theorem kT_22 : kT 22 = (2, 0) := by decide
theorem kn_22 {g : Nat → Nat × Nat} : va_up (fl kT g 22) 22 (2, 0) = fl kT g 23 := fl_succ kT_22.symm
theorem kT_23 : kT 23 = (10, 10) := by decide
theorem kn_23 {g : Nat → Nat × Nat} : va_up (fl kT g 23) 23 (10, 10) = fl kT g 24 := fl_succ kT_23.symm
theorem kT_24 : kT 24 = (8, 10) := by decide
theorem kn_24 {g : Nat → Nat × Nat} : va_up (fl kT g 24) 24 (8, 10) = fl kT g 25 := fl_succ kT_24.symm
theorem kT_25 : kT 25 = (9, 10) := by decide
theorem kn_25 {g : Nat → Nat × Nat} : va_up (fl kT g 25) 25 (9, 10) = fl kT g 26 := fl_succ kT_25.symm
theorem kT_26 : kT 26 = (9, 2) := by decide
theorem kn_26 {g : Nat → Nat × Nat} : va_up (fl kT g 26) 26 (9, 2) = fl kT g 27 := fl_succ kT_26.symm
theorem kT_27 : kT 27 = (3, 0) := by decide
theorem kn_27 {g : Nat → Nat × Nat} : va_up (fl kT g 27) 27 (3, 0) = fl kT g 28 := fl_succ kT_27.symm
theorem kT_28 : kT 28 = (8, 8) := by decide
theorem kn_28 {g : Nat → Nat × Nat} : va_up (fl kT g 28) 28 (8, 8) = fl kT g 29 := fl_succ kT_28.symm
theorem kT_29 : kT 29 = (9, 8) := by decide
theorem kn_29 {g : Nat → Nat × Nat} : va_up (fl kT g 29) 29 (9, 8) = fl kT g 30 := fl_succ kT_29.symm
theorem kT_30 : kT 30 = (1, 0) := by decide
theorem kn_30 {g : Nat → Nat × Nat} : va_up (fl kT g 30) 30 (1, 0) = fl kT g 31 := fl_succ kT_30.symm
theorem kT_31 : kT 31 = (0, 0) := by decide
theorem kn_31 {g : Nat → Nat × Nat} : va_up (fl kT g 31) 31 (0, 0) = fl kT g 32 := fl_succ kT_31.symm
theorem kT_32 : kT 32 = (8, 10) := by decide
theorem kn_32 {g : Nat → Nat × Nat} : va_up (fl kT g 32) 32 (8, 10) = fl kT g 33 := fl_succ kT_32.symm
theorem kT_33 : kT 33 = (8, 10) := by decide
theorem kn_33 {g : Nat → Nat × Nat} : va_up (fl kT g 33) 33 (8, 10) = fl kT g 34 := fl_succ kT_33.symm
theorem kT_34 : kT 34 = (8, 10) := by decide
theorem kn_34 {g : Nat → Nat × Nat} : va_up (fl kT g 34) 34 (8, 10) = fl kT g 35 := fl_succ kT_34.symm
theorem kT_35 : kT 35 = (8, 10) := by decide
theorem kn_35 {g : Nat → Nat × Nat} : va_up (fl kT g 35) 35 (8, 10) = fl kT g 36 := fl_succ kT_35.symm
theorem kT_36 : kT 36 = (5, 0) := by decide
theorem kn_36 {g : Nat → Nat × Nat} : va_up (fl kT g 36) 36 (5, 0) = fl kT g 37 := fl_succ kT_36.symm
theorem kT_37 : kT 37 = (5, 0) := by decide
theorem kn_37 {g : Nat → Nat × Nat} : va_up (fl kT g 37) 37 (5, 0) = fl kT g 38 := fl_succ kT_37.symm
theorem kT_38 : kT 38 = (7, 0) := by decide
theorem kn_38 {g : Nat → Nat × Nat} : va_up (fl kT g 38) 38 (7, 0) = fl kT g 39 := fl_succ kT_38.symm
theorem kT_39 : kT 39 = (8, 10) := by decide
theorem kn_39 {g : Nat → Nat × Nat} : va_up (fl kT g 39) 39 (8, 10) = fl kT g 40 := fl_succ kT_39.symm
theorem kT_40 : kT 40 = (8, 10) := by decide
theorem kn_40 {g : Nat → Nat × Nat} : va_up (fl kT g 40) 40 (8, 10) = fl kT g 41 := fl_succ kT_40.symm
theorem kT_41 : kT 41 = (8, 10) := by decide
theorem kn_41 {g : Nat → Nat × Nat} : va_up (fl kT g 41) 41 (8, 10) = fl kT g 42 := fl_succ kT_41.symm
theorem kT_42 : kT 42 = (8, 10) := by decide
theorem kn_42 {g : Nat → Nat × Nat} : va_up (fl kT g 42) 42 (8, 10) = fl kT g 43 := fl_succ kT_42.symm
theorem kT_43 : kT 43 = (8, 200) := by decide
theorem kn_43 {g : Nat → Nat × Nat} : va_up (fl kT g 43) 43 (8, 200) = fl kT g 44 := fl_succ kT_43.symm
theorem kT_44 : kT 44 = (8, 48) := by decide
theorem kn_44 {g : Nat → Nat × Nat} : va_up (fl kT g 44) 44 (8, 48) = fl kT g 45 := fl_succ kT_44.symm
theorem kT_45 : kT 45 = (10, 10) := by decide
theorem kn_45 {g : Nat → Nat × Nat} : va_up (fl kT g 45) 45 (10, 10) = fl kT g 46 := fl_succ kT_45.symm
theorem kT_46 : kT 46 = (8, 10) := by decide
theorem kn_46 {g : Nat → Nat × Nat} : va_up (fl kT g 46) 46 (8, 10) = fl kT g 47 := fl_succ kT_46.symm
theorem kT_47 : kT 47 = (10, 46) := by decide
theorem kn_47 {g : Nat → Nat × Nat} : va_up (fl kT g 47) 47 (10, 46) = fl kT g 48 := fl_succ kT_47.symm
theorem kT_48 : kT 48 = (9, 2) := by decide
theorem kn_48 {g : Nat → Nat × Nat} : va_up (fl kT g 48) 48 (9, 2) = fl kT g 49 := fl_succ kT_48.symm
theorem kT_49 : kT 49 = (8, 16) := by decide
theorem kn_49 {g : Nat → Nat × Nat} : va_up (fl kT g 49) 49 (8, 16) = fl kT g 50 := fl_succ kT_49.symm
theorem kT_50 : kT 50 = (8, 10) := by decide
theorem kn_50 {g : Nat → Nat × Nat} : va_up (fl kT g 50) 50 (8, 10) = fl kT g 51 := fl_succ kT_50.symm
theorem kT_51 : kT 51 = (8, 10) := by decide
theorem kn_51 {g : Nat → Nat × Nat} : va_up (fl kT g 51) 51 (8, 10) = fl kT g 52 := fl_succ kT_51.symm
theorem kT_52 : kT 52 = (8, 100) := by decide
theorem kn_52 {g : Nat → Nat × Nat} : va_up (fl kT g 52) 52 (8, 100) = fl kT g 53 := fl_succ kT_52.symm
def RF_0 : Nat → Nat → Option Nat := fun _ _ => none
def RF_1 : Nat → Nat → Option Nat := va_up RF_0 1 (va_up (RF_0 1) 0 (some 2))
theorem rp_0 : va_up RF_0 1 (va_up (RF_0 1) 0 (some 2)) = RF_1 := rfl
def RF_2 : Nat → Nat → Option Nat := va_up RF_1 0 (va_up (RF_1 0) 0 (some 1))
theorem rp_1 : va_up RF_1 0 (va_up (RF_1 0) 0 (some 1)) = RF_2 := rfl
def RF_3 : Nat → Nat → Option Nat := va_up RF_2 3 (va_up (RF_2 3) 0 (some 4))
theorem rp_2 : va_up RF_2 3 (va_up (RF_2 3) 0 (some 4)) = RF_3 := rfl
def RF_4 : Nat → Nat → Option Nat := va_up RF_3 3 (va_up (RF_3 3) 1 (some 5))
theorem rp_3 : va_up RF_3 3 (va_up (RF_3 3) 1 (some 5)) = RF_4 := rfl
def RF_5 : Nat → Nat → Option Nat := va_up RF_4 3 (va_up (RF_4 3) 2 (some 6))
theorem rp_4 : va_up RF_4 3 (va_up (RF_4 3) 2 (some 6)) = RF_5 := rfl
def RF_6 : Nat → Nat → Option Nat := va_up RF_5 3 (va_up (RF_5 3) 3 (some 7))
theorem rp_5 : va_up RF_5 3 (va_up (RF_5 3) 3 (some 7)) = RF_6 := rfl
def RF_7 : Nat → Nat → Option Nat := va_up RF_6 0 (va_up (RF_6 0) 1 (some 3))
theorem rp_6 : va_up RF_6 0 (va_up (RF_6 0) 1 (some 3)) = RF_7 := rfl
def RF_8 : Nat → Nat → Option Nat := va_up RF_7 8 (va_up (RF_7 8) 0 (some 9))
theorem rp_7 : va_up RF_7 8 (va_up (RF_7 8) 0 (some 9)) = RF_8 := rfl
def RF_9 : Nat → Nat → Option Nat := va_up RF_8 8 (va_up (RF_8 8) 1 (some 10))
theorem rp_8 : va_up RF_8 8 (va_up (RF_8 8) 1 (some 10)) = RF_9 := rfl
def RF_10 : Nat → Nat → Option Nat := va_up RF_9 8 (va_up (RF_9 8) 2 (some 11))
theorem rp_9 : va_up RF_9 8 (va_up (RF_9 8) 2 (some 11)) = RF_10 := rfl
def RF_11 : Nat → Nat → Option Nat := va_up RF_10 8 (va_up (RF_10 8) 3 (some 12))
theorem rp_10 : va_up RF_10 8 (va_up (RF_10 8) 3 (some 12)) = RF_11 := rfl
def RF_12 : Nat → Nat → Option Nat := va_up RF_11 0 (va_up (RF_11 0) 2 (some 8))
theorem rp_11 : va_up RF_11 0 (va_up (RF_11 0) 2 (some 8)) = RF_12 := rfl
def RF_13 : Nat → Nat → Option Nat := va_up RF_12 13 (va_up (RF_12 13) 0 (some 14))
theorem rp_12 : va_up RF_12 13 (va_up (RF_12 13) 0 (some 14)) = RF_13 := rfl
def RF_14 : Nat → Nat → Option Nat := va_up RF_13 13 (va_up (RF_13 13) 1 (some 15))
theorem rp_13 : va_up RF_13 13 (va_up (RF_13 13) 1 (some 15)) = RF_14 := rfl
def RF_15 : Nat → Nat → Option Nat := va_up RF_14 13 (va_up (RF_14 13) 2 (some 16))
theorem rp_14 : va_up RF_14 13 (va_up (RF_14 13) 2 (some 16)) = RF_15 := rfl
def RF_16 : Nat → Nat → Option Nat := va_up RF_15 0 (va_up (RF_15 0) 3 (some 13))
theorem rp_15 : va_up RF_15 0 (va_up (RF_15 0) 3 (some 13)) = RF_16 := rfl
def RF_17 : Nat → Nat → Option Nat := va_up RF_16 0 (va_up (RF_16 0) 4 (some 17))
theorem rp_16 : va_up RF_16 0 (va_up (RF_16 0) 4 (some 17)) = RF_17 := rfl
def RF_18 : Nat → Nat → Option Nat := va_up RF_17 18 (va_up (RF_17 18) 0 (some 19))
theorem rp_17 : va_up RF_17 18 (va_up (RF_17 18) 0 (some 19)) = RF_18 := rfl
def RF_19 : Nat → Nat → Option Nat := va_up RF_18 18 (va_up (RF_18 18) 1 (some 20))
theorem rp_18 : va_up RF_18 18 (va_up (RF_18 18) 1 (some 20)) = RF_19 := rfl
def RF_20 : Nat → Nat → Option Nat := va_up RF_19 18 (va_up (RF_19 18) 2 (some 21))
theorem rp_19 : va_up RF_19 18 (va_up (RF_19 18) 2 (some 21)) = RF_20 := rfl
def RF_21 : Nat → Nat → Option Nat := va_up RF_20 17 (va_up (RF_20 17) 0 (some 18))
theorem rp_20 : va_up RF_20 17 (va_up (RF_20 17) 0 (some 18)) = RF_21 := rfl
def RF_22 : Nat → Nat → Option Nat := va_up RF_21 22 (va_up (RF_21 22) 0 (some 23))
theorem rp_21 : va_up RF_21 22 (va_up (RF_21 22) 0 (some 23)) = RF_22 := rfl
def RF_23 : Nat → Nat → Option Nat := va_up RF_22 22 (va_up (RF_22 22) 1 (some 24))
theorem rp_22 : va_up RF_22 22 (va_up (RF_22 22) 1 (some 24)) = RF_23 := rfl
def RF_24 : Nat → Nat → Option Nat := va_up RF_23 22 (va_up (RF_23 22) 2 (some 25))
theorem rp_23 : va_up RF_23 22 (va_up (RF_23 22) 2 (some 25)) = RF_24 := rfl
def RF_25 : Nat → Nat → Option Nat := va_up RF_24 17 (va_up (RF_24 17) 1 (some 22))
theorem rp_24 : va_up RF_24 17 (va_up (RF_24 17) 1 (some 22)) = RF_25 := rfl
def RF_26 : Nat → Nat → Option Nat := va_up RF_25 0 (va_up (RF_25 0) 5 (some 26))
theorem rp_25 : va_up RF_25 0 (va_up (RF_25 0) 5 (some 26)) = RF_26 := rfl
def RF_27 : Nat → Nat → Option Nat := va_up RF_26 27 (va_up (RF_26 27) 0 (some 28))
theorem rp_26 : va_up RF_26 27 (va_up (RF_26 27) 0 (some 28)) = RF_27 := rfl
def RF_28 : Nat → Nat → Option Nat := va_up RF_27 27 (va_up (RF_27 27) 1 (some 29))
theorem rp_27 : va_up RF_27 27 (va_up (RF_27 27) 1 (some 29)) = RF_28 := rfl
def RF_29 : Nat → Nat → Option Nat := va_up RF_28 0 (va_up (RF_28 0) 6 (some 27))
theorem rp_28 : va_up RF_28 0 (va_up (RF_28 0) 6 (some 27)) = RF_29 := rfl
def RF_30 : Nat → Nat → Option Nat := va_up RF_29 31 (va_up (RF_29 31) 0 (some 32))
theorem rp_29 : va_up RF_29 31 (va_up (RF_29 31) 0 (some 32)) = RF_30 := rfl
def RF_31 : Nat → Nat → Option Nat := va_up RF_30 31 (va_up (RF_30 31) 1 (some 33))
theorem rp_30 : va_up RF_30 31 (va_up (RF_30 31) 1 (some 33)) = RF_31 := rfl
def RF_32 : Nat → Nat → Option Nat := va_up RF_31 31 (va_up (RF_31 31) 2 (some 34))
theorem rp_31 : va_up RF_31 31 (va_up (RF_31 31) 2 (some 34)) = RF_32 := rfl
def RF_33 : Nat → Nat → Option Nat := va_up RF_32 31 (va_up (RF_32 31) 3 (some 35))
theorem rp_32 : va_up RF_32 31 (va_up (RF_32 31) 3 (some 35)) = RF_33 := rfl
def RF_34 : Nat → Nat → Option Nat := va_up RF_33 30 (va_up (RF_33 30) 0 (some 31))
theorem rp_33 : va_up RF_33 30 (va_up (RF_33 30) 0 (some 31)) = RF_34 := rfl
def RF_35 : Nat → Nat → Option Nat := va_up RF_34 30 (va_up (RF_34 30) 1 (some 36))
theorem rp_34 : va_up RF_34 30 (va_up (RF_34 30) 1 (some 36)) = RF_35 := rfl
def RF_36 : Nat → Nat → Option Nat := va_up RF_35 30 (va_up (RF_35 30) 2 (some 37))
theorem rp_35 : va_up RF_35 30 (va_up (RF_35 30) 2 (some 37)) = RF_36 := rfl
def RF_37 : Nat → Nat → Option Nat := va_up RF_36 0 (va_up (RF_36 0) 7 (some 30))
theorem rp_36 : va_up RF_36 0 (va_up (RF_36 0) 7 (some 30)) = RF_37 := rfl
def RF_38 : Nat → Nat → Option Nat := va_up RF_37 38 (va_up (RF_37 38) 1 (some 39))
theorem rp_37 : va_up RF_37 38 (va_up (RF_37 38) 1 (some 39)) = RF_38 := rfl
def RF_39 : Nat → Nat → Option Nat := va_up RF_38 38 (va_up (RF_38 38) 2 (some 40))
theorem rp_38 : va_up RF_38 38 (va_up (RF_38 38) 2 (some 40)) = RF_39 := rfl
def RF_40 : Nat → Nat → Option Nat := va_up RF_39 38 (va_up (RF_39 38) 3 (some 41))
theorem rp_39 : va_up RF_39 38 (va_up (RF_39 38) 3 (some 41)) = RF_40 := rfl
def RF_41 : Nat → Nat → Option Nat := va_up RF_40 38 (va_up (RF_40 38) 4 (some 42))
theorem rp_40 : va_up RF_40 38 (va_up (RF_40 38) 4 (some 42)) = RF_41 := rfl
def RF_42 : Nat → Nat → Option Nat := va_up RF_41 38 (va_up (RF_41 38) 8 (some 43))
theorem rp_41 : va_up RF_41 38 (va_up (RF_41 38) 8 (some 43)) = RF_42 := rfl
def RF_43 : Nat → Nat → Option Nat := va_up RF_42 38 (va_up (RF_42 38) 17 (some 44))
theorem rp_42 : va_up RF_42 38 (va_up (RF_42 38) 17 (some 44)) = RF_43 := rfl
def RF_44 : Nat → Nat → Option Nat := va_up RF_43 38 (va_up (RF_43 38) 18 (some 45))
theorem rp_43 : va_up RF_43 38 (va_up (RF_43 38) 18 (some 45)) = RF_44 := rfl
def RF_45 : Nat → Nat → Option Nat := va_up RF_44 38 (va_up (RF_44 38) 19 (some 46))
theorem rp_44 : va_up RF_44 38 (va_up (RF_44 38) 19 (some 46)) = RF_45 := rfl
def RF_46 : Nat → Nat → Option Nat := va_up RF_45 38 (va_up (RF_45 38) 22 (some 47))
theorem rp_45 : va_up RF_45 38 (va_up (RF_45 38) 22 (some 47)) = RF_46 := rfl
def RF_47 : Nat → Nat → Option Nat := va_up RF_46 38 (va_up (RF_46 38) 23 (some 48))
theorem rp_46 : va_up RF_46 38 (va_up (RF_46 38) 23 (some 48)) = RF_47 := rfl
def RF_48 : Nat → Nat → Option Nat := va_up RF_47 38 (va_up (RF_47 38) 25 (some 49))
theorem rp_47 : va_up RF_47 38 (va_up (RF_47 38) 25 (some 49)) = RF_48 := rfl
def RF_49 : Nat → Nat → Option Nat := va_up RF_48 38 (va_up (RF_48 38) 26 (some 50))
theorem rp_48 : va_up RF_48 38 (va_up (RF_48 38) 26 (some 50)) = RF_49 := rfl
def RF_50 : Nat → Nat → Option Nat := va_up RF_49 38 (va_up (RF_49 38) 28 (some 51))
theorem rp_49 : va_up RF_49 38 (va_up (RF_49 38) 28 (some 51)) = RF_50 := rfl
def RF_51 : Nat → Nat → Option Nat := va_up RF_50 38 (va_up (RF_50 38) 29 (some 52))
theorem rp_50 : va_up RF_50 38 (va_up (RF_50 38) 29 (some 52)) = RF_51 := rfl
theorem rn_0 : va_up RF_0 0 (fun _ => none) = RF_0 := up_id rfl
theorem rn_1 : va_up RF_0 1 (fun _ => none) = RF_0 := up_id rfl
theorem rn_2 : va_up RF_0 2 (fun _ => none) = RF_0 := up_id rfl
theorem rn_3 : va_up RF_2 3 (fun _ => none) = RF_2 := up_id rfl
theorem rn_4 : va_up RF_2 4 (fun _ => none) = RF_2 := up_id rfl
theorem rn_5 : va_up RF_3 5 (fun _ => none) = RF_3 := up_id rfl
theorem rn_6 : va_up RF_4 6 (fun _ => none) = RF_4 := up_id rfl
theorem rn_7 : va_up RF_5 7 (fun _ => none) = RF_5 := up_id rfl
theorem rn_8 : va_up RF_7 8 (fun _ => none) = RF_7 := up_id rfl
theorem rn_9 : va_up RF_7 9 (fun _ => none) = RF_7 := up_id rfl
theorem rn_10 : va_up RF_8 10 (fun _ => none) = RF_8 := up_id rfl
theorem rn_11 : va_up RF_9 11 (fun _ => none) = RF_9 := up_id rfl
theorem rn_12 : va_up RF_10 12 (fun _ => none) = RF_10 := up_id rfl
theorem rn_13 : va_up RF_12 13 (fun _ => none) = RF_12 := up_id rfl
theorem rn_14 : va_up RF_12 14 (fun _ => none) = RF_12 := up_id rfl
theorem rn_15 : va_up RF_13 15 (fun _ => none) = RF_13 := up_id rfl
theorem rn_16 : va_up RF_14 16 (fun _ => none) = RF_14 := up_id rfl
theorem rn_17 : va_up RF_16 17 (fun _ => none) = RF_16 := up_id rfl
theorem rn_18 : va_up RF_17 18 (fun _ => none) = RF_17 := up_id rfl
theorem rn_19 : va_up RF_17 19 (fun _ => none) = RF_17 := up_id rfl
theorem rn_20 : va_up RF_18 20 (fun _ => none) = RF_18 := up_id rfl
theorem rn_21 : va_up RF_19 21 (fun _ => none) = RF_19 := up_id rfl
theorem rn_22 : va_up RF_21 22 (fun _ => none) = RF_21 := up_id rfl
theorem rn_23 : va_up RF_21 23 (fun _ => none) = RF_21 := up_id rfl
theorem rn_24 : va_up RF_22 24 (fun _ => none) = RF_22 := up_id rfl
theorem rn_25 : va_up RF_23 25 (fun _ => none) = RF_23 := up_id rfl
theorem rn_26 : va_up RF_25 26 (fun _ => none) = RF_25 := up_id rfl
theorem rn_27 : va_up RF_26 27 (fun _ => none) = RF_26 := up_id rfl
theorem rn_28 : va_up RF_26 28 (fun _ => none) = RF_26 := up_id rfl
theorem rn_29 : va_up RF_27 29 (fun _ => none) = RF_27 := up_id rfl
theorem rn_30 : va_up RF_29 30 (fun _ => none) = RF_29 := up_id rfl
theorem rn_31 : va_up RF_29 31 (fun _ => none) = RF_29 := up_id rfl
theorem rn_32 : va_up RF_29 32 (fun _ => none) = RF_29 := up_id rfl
theorem rn_33 : va_up RF_30 33 (fun _ => none) = RF_30 := up_id rfl
theorem rn_34 : va_up RF_31 34 (fun _ => none) = RF_31 := up_id rfl
theorem rn_35 : va_up RF_32 35 (fun _ => none) = RF_32 := up_id rfl
theorem rn_36 : va_up RF_34 36 (fun _ => none) = RF_34 := up_id rfl
theorem rn_37 : va_up RF_35 37 (fun _ => none) = RF_35 := up_id rfl
theorem rn_38 : va_up RF_37 38 (fun _ => none) = RF_37 := up_id rfl
theorem rn_39 : va_up RF_37 39 (fun _ => none) = RF_37 := up_id rfl
theorem rn_40 : va_up RF_38 40 (fun _ => none) = RF_38 := up_id rfl
theorem rn_41 : va_up RF_39 41 (fun _ => none) = RF_39 := up_id rfl
theorem rn_42 : va_up RF_40 42 (fun _ => none) = RF_40 := up_id rfl
theorem rn_43 : va_up RF_41 43 (fun _ => none) = RF_41 := up_id rfl
theorem rn_44 : va_up RF_42 44 (fun _ => none) = RF_42 := up_id rfl
theorem rn_45 : va_up RF_43 45 (fun _ => none) = RF_43 := up_id rfl
theorem rn_46 : va_up RF_44 46 (fun _ => none) = RF_44 := up_id rfl
theorem rn_47 : va_up RF_45 47 (fun _ => none) = RF_45 := up_id rfl
theorem rn_48 : va_up RF_46 48 (fun _ => none) = RF_46 := up_id rfl
theorem rn_49 : va_up RF_47 49 (fun _ => none) = RF_47 := up_id rfl
theorem rn_50 : va_up RF_48 50 (fun _ => none) = RF_48 := up_id rfl
theorem rn_51 : va_up RF_49 51 (fun _ => none) = RF_49 := up_id rfl
theorem rn_52 : va_up RF_50 52 (fun _ => none) = RF_50 := up_id rfl
theorem rg_6_3_0 : RF_6 3 0 = some 4 := by decide
theorem rg_6_3_1 : RF_6 3 1 = some 5 := by decide
theorem rg_6_3_2 : RF_6 3 2 = some 6 := by decide
theorem rg_6_3_3 : RF_6 3 3 = some 7 := by decide
theorem rg_11_8_0 : RF_11 8 0 = some 9 := by decide
theorem rg_11_8_1 : RF_11 8 1 = some 10 := by decide
theorem rg_11_8_2 : RF_11 8 2 = some 11 := by decide
theorem rg_11_8_3 : RF_11 8 3 = some 12 := by decide
theorem rg_33_31_0 : RF_33 31 0 = some 32 := by decide
theorem rg_33_31_1 : RF_33 31 1 = some 33 := by decide
theorem rg_33_31_2 : RF_33 31 2 = some 34 := by decide
theorem rg_33_31_3 : RF_33 31 3 = some 35 := by decide
theorem rg_17_0_4 : RF_17 0 4 = some 17 := by decide
theorem rg_21_0_4 : RF_21 0 4 = some 17 := by decide
theorem kl {g : Nat → Nat × Nat} {z a : Nat} (h : a < z) : fl kT g z a = kT a := fl_lt h
section
variable {I : gI} {J : gJ}
theorem gKd_t {a b : Nat} {k : Nat → Nat × Nat} {r : Nat → Nat → Option Nat} {x : Nat} : gKd (a, b, k, r) x = k x := rfl
theorem gRs_t {a b : Nat} {k : Nat → Nat × Nat} {r : Nat → Nat → Option Nat} {x y : Nat} : gRs (a, b, k, r) x y = (r x y).isSome := rfl
theorem gRq_t {a b : Nat} {k : Nat → Nat × Nat} {r : Nat → Nat → Option Nat} {x y : Nat} : gRq (a, b, k, r) x y = (r x y).getD 0 := rfl
theorem cn_0 : Int32.toNatClampNeg 0 = 0 := by decide
theorem cn_1 : Int32.toNatClampNeg 1 = 1 := by decide
theorem cn_2 : Int32.toNatClampNeg 2 = 2 := by decide
theorem cn_8 : Int32.toNatClampNeg 8 = 8 := by decide
theorem cn_10 : Int32.toNatClampNeg 10 = 10 := by decide
theorem cn_16 : Int32.toNatClampNeg 16 = 16 := by decide
theorem cn_46 : Int32.toNatClampNeg 46 = 46 := by decide
theorem cn_48 : Int32.toNatClampNeg 48 = 48 := by decide
theorem cn_100 : Int32.toNatClampNeg 100 = 100 := by decide
theorem cn_200 : Int32.toNatClampNeg 200 = 200 := by decide
theorem mC_3 {g : Nat → Nat × Nat} {m : Nat} : g_at 0 0 [.ref 3] [] (4, m, fl kT g 4, RF_2) I J = some (none, (8, m + 10 + 10 + 10 + 10, fl kT g 8, RF_6), va_up (va_up (va_up (va_up (va_up I 3 (va_up (va_up (I 3) 4 4) 5 0)) 4 (fl (fun _ => -1) (fun _ => 0) 10)) 5 (fun _ => 0)) 6 (fun _ => 0)) 7 (fl (fun _ => 1) (fun _ => 0) 10), va_up (va_up (va_up (va_up J 4 (fun _ => 0)) 5 (fun _ => 0)) 6 (fun _ => 0)) 7 (fun _ => 0)) := by
  simp (decide := true) only [gN1_int, gN1_ref, gN1_null, gN1_long, gTg8_8, gTg8_14, gTg9_9, gTg9_13, gTgA_8, gTgA_9, gTgA_10, gTgA_11, gTgA_13, gTgA_14, gB01_0, gB01_1, gB01_b, List.cons_append, List.nil_append, Option.toList_some, Option.toList_none, Option.bind_some, ↓reduceIte, eq_self, not_true_eq_false, not_false_eq_true, b2i_0, b2i_1, up_eq, up_ne, up_up, up_sort, up_self, fl_at, nI_s, q_0_0, q_0_1, q_0_4, q_0_5, q_0_7, q_0_9, q_0_12, q_0_13, q_0_15, q_0_17, q_0_20, q_0_21, q_0_23, q_0_25, q_0_28, q_0_29, q_0_31, q_0_33, q_0_36, q_0_37, q_0_38, q_0_41, q_1_0, q_1_1, q_1_2, q_1_5, q_1_6, q_1_9, q_1_10, q_1_13, q_1_14, q_1_17, q_1_18, q_1_21, q_1_22, q_1_25, q_1_26, q_1_29, q_1_30, q_1_33, q_1_34, q_1_37, q_1_38, q_1_39, q_1_42, J7_fill, Nat.reduceAdd, gKd_t, gRs_t, gRq_t, kl, cn_0, cn_1, cn_2, cn_8, cn_10, cn_16, cn_46, cn_48, cn_100, cn_200, Option.isSome_some, Option.getD_some, show (0 : Int32) + 1 = 1 from rfl, show (1 : Int32) + 1 = 2 from rfl, kn_3, kT_3, kn_4, kT_4, kn_5, kT_5, kn_6, kT_6, kn_7, kT_7, rn_4, rn_5, rn_6, rn_7, rp_2, rp_3, rp_4, rp_5, rg_6_3_0, rg_6_3_1, rg_6_3_2, rg_6_3_3, rg_11_8_0, rg_11_8_1, rg_11_8_2, rg_11_8_3, rg_33_31_0, rg_33_31_1, rg_33_31_2, rg_33_31_3, rg_17_0_4, rg_21_0_4, fl_self]
theorem mC_8 {g : Nat → Nat × Nat} {m : Nat} : g_at 0 0 [.ref 8] [] (9, m, fl kT g 9, RF_7) I J = some (none, (13, m + 10 + 10 + 10 + 10, fl kT g 13, RF_11), va_up (va_up (va_up (va_up (va_up I 8 (va_up (va_up (I 8) 4 4) 5 0)) 9 (fl (fun _ => -1) (fun _ => 0) 10)) 10 (fun _ => 0)) 11 (fun _ => 0)) 12 (fl (fun _ => 1) (fun _ => 0) 10), va_up (va_up (va_up (va_up J 9 (fun _ => 0)) 10 (fun _ => 0)) 11 (fun _ => 0)) 12 (fun _ => 0)) := by
  simp (decide := true) only [gN1_int, gN1_ref, gN1_null, gN1_long, gTg8_8, gTg8_14, gTg9_9, gTg9_13, gTgA_8, gTgA_9, gTgA_10, gTgA_11, gTgA_13, gTgA_14, gB01_0, gB01_1, gB01_b, List.cons_append, List.nil_append, Option.toList_some, Option.toList_none, Option.bind_some, ↓reduceIte, eq_self, not_true_eq_false, not_false_eq_true, b2i_0, b2i_1, up_eq, up_ne, up_up, up_sort, up_self, fl_at, nI_s, q_0_0, q_0_1, q_0_4, q_0_5, q_0_7, q_0_9, q_0_12, q_0_13, q_0_15, q_0_17, q_0_20, q_0_21, q_0_23, q_0_25, q_0_28, q_0_29, q_0_31, q_0_33, q_0_36, q_0_37, q_0_38, q_0_41, q_1_0, q_1_1, q_1_2, q_1_5, q_1_6, q_1_9, q_1_10, q_1_13, q_1_14, q_1_17, q_1_18, q_1_21, q_1_22, q_1_25, q_1_26, q_1_29, q_1_30, q_1_33, q_1_34, q_1_37, q_1_38, q_1_39, q_1_42, J7_fill, Nat.reduceAdd, gKd_t, gRs_t, gRq_t, kl, cn_0, cn_1, cn_2, cn_8, cn_10, cn_16, cn_46, cn_48, cn_100, cn_200, Option.isSome_some, Option.getD_some, show (0 : Int32) + 1 = 1 from rfl, show (1 : Int32) + 1 = 2 from rfl, kn_8, kT_8, kn_9, kT_9, kn_10, kT_10, kn_11, kT_11, kn_12, kT_12, rn_9, rn_10, rn_11, rn_12, rp_7, rp_8, rp_9, rp_10, rg_6_3_0, rg_6_3_1, rg_6_3_2, rg_6_3_3, rg_11_8_0, rg_11_8_1, rg_11_8_2, rg_11_8_3, rg_33_31_0, rg_33_31_1, rg_33_31_2, rg_33_31_3, rg_17_0_4, rg_21_0_4, fl_self]
theorem mC_31 {g : Nat → Nat × Nat} {m : Nat} : g_at 0 0 [.ref 31] [] (32, m, fl kT g 32, RF_29) I J = some (none, (36, m + 10 + 10 + 10 + 10, fl kT g 36, RF_33), va_up (va_up (va_up (va_up (va_up I 31 (va_up (va_up (I 31) 4 4) 5 0)) 32 (fl (fun _ => -1) (fun _ => 0) 10)) 33 (fun _ => 0)) 34 (fun _ => 0)) 35 (fl (fun _ => 1) (fun _ => 0) 10), va_up (va_up (va_up (va_up J 32 (fun _ => 0)) 33 (fun _ => 0)) 34 (fun _ => 0)) 35 (fun _ => 0)) := by
  simp (decide := true) only [gN1_int, gN1_ref, gN1_null, gN1_long, gTg8_8, gTg8_14, gTg9_9, gTg9_13, gTgA_8, gTgA_9, gTgA_10, gTgA_11, gTgA_13, gTgA_14, gB01_0, gB01_1, gB01_b, List.cons_append, List.nil_append, Option.toList_some, Option.toList_none, Option.bind_some, ↓reduceIte, eq_self, not_true_eq_false, not_false_eq_true, b2i_0, b2i_1, up_eq, up_ne, up_up, up_sort, up_self, fl_at, nI_s, q_0_0, q_0_1, q_0_4, q_0_5, q_0_7, q_0_9, q_0_12, q_0_13, q_0_15, q_0_17, q_0_20, q_0_21, q_0_23, q_0_25, q_0_28, q_0_29, q_0_31, q_0_33, q_0_36, q_0_37, q_0_38, q_0_41, q_1_0, q_1_1, q_1_2, q_1_5, q_1_6, q_1_9, q_1_10, q_1_13, q_1_14, q_1_17, q_1_18, q_1_21, q_1_22, q_1_25, q_1_26, q_1_29, q_1_30, q_1_33, q_1_34, q_1_37, q_1_38, q_1_39, q_1_42, J7_fill, Nat.reduceAdd, gKd_t, gRs_t, gRq_t, kl, cn_0, cn_1, cn_2, cn_8, cn_10, cn_16, cn_46, cn_48, cn_100, cn_200, Option.isSome_some, Option.getD_some, show (0 : Int32) + 1 = 1 from rfl, show (1 : Int32) + 1 = 2 from rfl, kn_31, kT_31, kn_32, kT_32, kn_33, kT_33, kn_34, kT_34, kn_35, kT_35, rn_32, rn_33, rn_34, rn_35, rp_29, rp_30, rp_31, rp_32, rg_6_3_0, rg_6_3_1, rg_6_3_2, rg_6_3_3, rg_11_8_0, rg_11_8_1, rg_11_8_2, rg_11_8_3, rg_33_31_0, rg_33_31_1, rg_33_31_2, rg_33_31_3, rg_17_0_4, rg_21_0_4, fl_self]
theorem mM_13 {g : Nat → Nat × Nat} {m : Nat} : g_at 22 0 [.ref 13] [] (14, m, fl kT g 14, RF_12) I J = some (none, (17, m + 10 + 10 + 10, fl kT g 17, RF_15), va_up (va_up (va_up I 14 (fun _ => 0)) 15 (fun _ => 0)) 16 (fun _ => 0), va_up (va_up (va_up J 14 (fun _ => 0)) 15 (fun _ => 0)) 16 (fun _ => 0)) := by
  simp (decide := true) only [gN1_int, gN1_ref, gN1_null, gN1_long, gTg8_8, gTg8_14, gTg9_9, gTg9_13, gTgA_8, gTgA_9, gTgA_10, gTgA_11, gTgA_13, gTgA_14, gB01_0, gB01_1, gB01_b, List.cons_append, List.nil_append, Option.toList_some, Option.toList_none, Option.bind_some, ↓reduceIte, eq_self, not_true_eq_false, not_false_eq_true, b2i_0, b2i_1, up_eq, up_ne, up_up, up_sort, up_self, fl_at, nI_s, q_22_0, q_22_1, q_22_4, q_22_5, q_22_7, q_22_9, q_22_12, q_22_13, q_22_15, q_22_17, q_22_20, q_22_21, q_22_23, q_22_25, q_22_28, Nat.reduceAdd, gKd_t, gRs_t, gRq_t, kl, cn_0, cn_1, cn_2, cn_8, cn_10, cn_16, cn_46, cn_48, cn_100, cn_200, Option.isSome_some, Option.getD_some, show (0 : Int32) + 1 = 1 from rfl, show (1 : Int32) + 1 = 2 from rfl, kn_13, kT_13, kn_14, kT_14, kn_15, kT_15, kn_16, kT_16, rn_14, rn_15, rn_16, rp_12, rp_13, rp_14]
theorem mM_18 {g : Nat → Nat × Nat} {m : Nat} : g_at 22 0 [.ref 18] [] (19, m, fl kT g 19, RF_17) I J = some (none, (22, m + 10 + 10 + 10, fl kT g 22, RF_20), va_up (va_up (va_up I 19 (fun _ => 0)) 20 (fun _ => 0)) 21 (fun _ => 0), va_up (va_up (va_up J 19 (fun _ => 0)) 20 (fun _ => 0)) 21 (fun _ => 0)) := by
  simp (decide := true) only [gN1_int, gN1_ref, gN1_null, gN1_long, gTg8_8, gTg8_14, gTg9_9, gTg9_13, gTgA_8, gTgA_9, gTgA_10, gTgA_11, gTgA_13, gTgA_14, gB01_0, gB01_1, gB01_b, List.cons_append, List.nil_append, Option.toList_some, Option.toList_none, Option.bind_some, ↓reduceIte, eq_self, not_true_eq_false, not_false_eq_true, b2i_0, b2i_1, up_eq, up_ne, up_up, up_sort, up_self, fl_at, nI_s, q_22_0, q_22_1, q_22_4, q_22_5, q_22_7, q_22_9, q_22_12, q_22_13, q_22_15, q_22_17, q_22_20, q_22_21, q_22_23, q_22_25, q_22_28, Nat.reduceAdd, gKd_t, gRs_t, gRq_t, kl, cn_0, cn_1, cn_2, cn_8, cn_10, cn_16, cn_46, cn_48, cn_100, cn_200, Option.isSome_some, Option.getD_some, show (0 : Int32) + 1 = 1 from rfl, show (1 : Int32) + 1 = 2 from rfl, kn_18, kT_18, kn_19, kT_19, kn_20, kT_20, kn_21, kT_21, rn_19, rn_20, rn_21, rp_17, rp_18, rp_19]
theorem mM_22 {g : Nat → Nat × Nat} {m : Nat} : g_at 22 0 [.ref 22] [] (23, m, fl kT g 23, RF_21) I J = some (none, (26, m + 10 + 10 + 10, fl kT g 26, RF_24), va_up (va_up (va_up I 23 (fun _ => 0)) 24 (fun _ => 0)) 25 (fun _ => 0), va_up (va_up (va_up J 23 (fun _ => 0)) 24 (fun _ => 0)) 25 (fun _ => 0)) := by
  simp (decide := true) only [gN1_int, gN1_ref, gN1_null, gN1_long, gTg8_8, gTg8_14, gTg9_9, gTg9_13, gTgA_8, gTgA_9, gTgA_10, gTgA_11, gTgA_13, gTgA_14, gB01_0, gB01_1, gB01_b, List.cons_append, List.nil_append, Option.toList_some, Option.toList_none, Option.bind_some, ↓reduceIte, eq_self, not_true_eq_false, not_false_eq_true, b2i_0, b2i_1, up_eq, up_ne, up_up, up_sort, up_self, fl_at, nI_s, q_22_0, q_22_1, q_22_4, q_22_5, q_22_7, q_22_9, q_22_12, q_22_13, q_22_15, q_22_17, q_22_20, q_22_21, q_22_23, q_22_25, q_22_28, Nat.reduceAdd, gKd_t, gRs_t, gRq_t, kl, cn_0, cn_1, cn_2, cn_8, cn_10, cn_16, cn_46, cn_48, cn_100, cn_200, Option.isSome_some, Option.getD_some, show (0 : Int32) + 1 = 1 from rfl, show (1 : Int32) + 1 = 2 from rfl, kn_22, kT_22, kn_23, kT_23, kn_24, kT_24, kn_25, kT_25, rn_23, rn_24, rn_25, rp_21, rp_22, rp_23]
theorem mT_1 {g : Nat → Nat × Nat} {m : Nat} : g_at 34 0 [.ref 1] [] (2, m, fl kT g 2, RF_0) I J = some (none, (3, m + 200, fl kT g 3, RF_1), va_up I 2 (fun _ => 0), va_up J 2 (fun _ => 0)) := by
  simp (decide := true) only [gN1_int, gN1_ref, gN1_null, gN1_long, gTg8_8, gTg8_14, gTg9_9, gTg9_13, gTgA_8, gTgA_9, gTgA_10, gTgA_11, gTgA_13, gTgA_14, gB01_0, gB01_1, gB01_b, List.cons_append, List.nil_append, Option.toList_some, Option.toList_none, Option.bind_some, ↓reduceIte, eq_self, not_true_eq_false, not_false_eq_true, b2i_0, b2i_1, up_eq, up_ne, up_up, up_sort, up_self, fl_at, nI_s, q_34_0, q_34_1, q_34_4, q_34_5, q_34_8, q_34_10, q_34_13, Nat.reduceAdd, gKd_t, gRs_t, gRq_t, kl, cn_0, cn_1, cn_2, cn_8, cn_10, cn_16, cn_46, cn_48, cn_100, cn_200, Option.isSome_some, Option.getD_some, show (0 : Int32) + 1 = 1 from rfl, show (1 : Int32) + 1 = 2 from rfl, kn_1, kT_1, kn_2, kT_2, rn_2, rp_0]
theorem mS_27 {g : Nat → Nat × Nat} {m : Nat} : g_at 31 0 [.ref 27] [] (28, m, fl kT g 28, RF_26) I J = some (none, (30, m + 8 + 8, fl kT g 30, RF_28), va_up (va_up I 28 (fun _ => 0)) 29 (fun _ => 0), va_up (va_up J 28 (fun _ => 0)) 29 (fun _ => 0)) := by
  simp (decide := true) only [gN1_int, gN1_ref, gN1_null, gN1_long, gTg8_8, gTg8_14, gTg9_9, gTg9_13, gTgA_8, gTgA_9, gTgA_10, gTgA_11, gTgA_13, gTgA_14, gB01_0, gB01_1, gB01_b, List.cons_append, List.nil_append, Option.toList_some, Option.toList_none, Option.bind_some, ↓reduceIte, eq_self, not_true_eq_false, not_false_eq_true, b2i_0, b2i_1, up_eq, up_ne, up_up, up_sort, up_self, fl_at, nI_s, q_31_0, q_31_1, q_31_4, q_31_5, q_31_7, q_31_9, q_31_12, q_31_13, q_31_15, q_31_17, q_31_20, Nat.reduceAdd, gKd_t, gRs_t, gRq_t, kl, cn_0, cn_1, cn_2, cn_8, cn_10, cn_16, cn_46, cn_48, cn_100, cn_200, Option.isSome_some, Option.getD_some, show (0 : Int32) + 1 = 1 from rfl, show (1 : Int32) + 1 = 2 from rfl, kn_27, kT_27, kn_28, kT_28, kn_29, kT_29, rn_28, rn_29, rp_26, rp_27]
theorem mF_30 {g : Nat → Nat × Nat} {m : Nat} : ∃ I' J', g_at 8 0 [.ref 30] [] (31, m, fl kT g 31, RF_29) I J = some (none, (38, m + 6 + 10 + 10 + 10 + 10 + 3 + 3, fl kT g 38, RF_36), I', J') ∧ (∀ a, a < 31 ∨ 37 < a → I' a = I a) ∧ (∀ a, a < 31 ∨ 37 < a → J' a = J a) := by
  apply Exists.intro
  apply Exists.intro
  refine ⟨?eq, ?pa, ?pb⟩
  case eq =>
    simp (decide := true) only [gN1_int, gN1_ref, gN1_null, gN1_long, gTg8_8, gTg8_14, gTg9_9, gTg9_13, gTgA_8, gTgA_9, gTgA_10, gTgA_11, gTgA_13, gTgA_14, gB01_0, gB01_1, gB01_b, List.cons_append, List.nil_append, Option.toList_some, Option.toList_none, Option.bind_some, ↓reduceIte, eq_self, not_true_eq_false, not_false_eq_true, b2i_0, b2i_1, up_eq, up_ne, up_up, up_sort, up_self, fl_at, nI_s, q_8_0, q_8_1, q_8_4, q_8_5, q_8_8, q_8_9, q_8_12, q_8_15, q_8_16, q_8_19, q_8_20, q_8_23, q_8_26, q_8_27, q_8_30, q_8_31, q_8_34, q_8_37, q_50_0, q_50_1, q_50_4, mC_31, Nat.reduceAdd, gKd_t, gRs_t, gRq_t, kl, cn_0, cn_1, cn_2, cn_8, cn_10, cn_16, cn_46, cn_48, cn_100, cn_200, Option.isSome_some, Option.getD_some, show (0 : Int32) + 1 = 1 from rfl, show (1 : Int32) + 1 = 2 from rfl, kn_30, kT_30, kn_31, kT_31, kn_32, kT_32, kn_33, kT_33, kn_34, kT_34, kn_35, kT_35, kn_36, kT_36, kn_37, kT_37, rn_31, rn_32, rn_33, rn_34, rn_35, rn_36, rn_37, rp_29, rp_30, rp_31, rp_32, rp_33, rp_34, rp_35]
    rfl
  case pa =>
    intro a ha
    repeat rw [up_ne (by omega)]
  case pb =>
    intro a ha
    repeat rw [up_ne (by omega)]
end
