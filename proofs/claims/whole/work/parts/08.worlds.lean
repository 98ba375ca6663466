def cellsW (cA : ClassId) (n : Nat) (h : Nat → Nat) (M : St) : va_W := [(h 0, .inr (1, [.ref (h 1), .int (M 0 1)])), (h 1, .inl (cA, n, .inl (M 1)))]
def cells2W (cA : ClassId) (n : Nat) (k : Nat) (h : Nat → Nat) (M : St) : va_W := [(h 0, .inr (1, [.ref (h 1), .int (M 0 1)])), (h 1, .inl (cA, n, .inl (M 1))), (h 2, .inr (1, [.ref (h 3), .int (M 2 1)])), (h 3, .inl (cA, k, .inl (M 3)))]
def hoursW (cA : ClassId) (h : Nat → Nat) (M : St) : va_W := [(h 0, .inr (2, [.ref (h 1), .ref (h 3), .ref (h 5)])), (h 1, .inr (1, [.ref (h 2), .int (M 1 1)])), (h 2, .inl (cA, 20, .inl (M 2))), (h 3, .inr (1, [.ref (h 4), .int (M 3 1)])), (h 4, .inl (cA, 20, .inl (M 4))), (h 5, .inr (1, [.ref (h 6), .int (M 5 1)])), (h 6, .inl (cA, 20, .inl (M 6)))]
def hours2W (cA : ClassId) (h : Nat → Nat) (M : St) : va_W := [(h 0, .inr (2, [.ref (h 1), .ref (h 3), .ref (h 5)])), (h 1, .inr (1, [.ref (h 2), .int (M 1 1)])), (h 2, .inl (cA, 20, .inl (M 2))), (h 3, .inr (1, [.ref (h 4), .int (M 3 1)])), (h 4, .inl (cA, 20, .inl (M 4))), (h 5, .inr (1, [.ref (h 6), .int (M 5 1)])), (h 6, .inl (cA, 20, .inl (M 6))), (h 7, .inr (2, [.ref (h 8), .ref (h 10), .ref (h 12)])), (h 8, .inr (1, [.ref (h 9), .int (M 8 1)])), (h 9, .inl (cA, 20, .inl (M 9))), (h 10, .inr (1, [.ref (h 11), .int (M 10 1)])), (h 11, .inl (cA, 20, .inl (M 11))), (h 12, .inr (1, [.ref (h 13), .int (M 12 1)])), (h 13, .inl (cA, 20, .inl (M 13)))]
def birdW (cA : ClassId) (h : Nat → Nat) (M : St) : va_W := [(h 0, .inr (0, [.ref (h 1), .ref (h 3), .ref (h 10), .int (M 0 3), .int (M 0 4), .int (M 0 5), .int (M 0 6), .int (M 0 7), .int (M 0 8), .int (M 0 9), .int (M 0 10), .int (M 0 11), .int (M 0 12), .int (M 0 13), .int (M 0 14), .int (M 0 15), .int (M 0 16), .int (M 0 17)])), (h 1, .inr (1, [.ref (h 2), .int (M 1 1)])), (h 2, .inl (cA, 15, .inl (M 2))), (h 3, .inr (2, [.ref (h 4), .ref (h 6), .ref (h 8)])), (h 4, .inr (1, [.ref (h 5), .int (M 4 1)])), (h 5, .inl (cA, 20, .inl (M 5))), (h 6, .inr (1, [.ref (h 7), .int (M 6 1)])), (h 7, .inl (cA, 20, .inl (M 7))), (h 8, .inr (1, [.ref (h 9), .int (M 8 1)])), (h 9, .inl (cA, 20, .inl (M 9))), (h 10, .inr (1, [.ref (h 11), .int (M 10 1)])), (h 11, .inl (cA, 60, .inl (M 11)))]
def bird2W (cA : ClassId) (h : Nat → Nat) (M : St) : va_W := [(h 0, .inr (0, [.ref (h 1), .ref (h 3), .ref (h 10), .int (M 0 3), .int (M 0 4), .int (M 0 5), .int (M 0 6), .int (M 0 7), .int (M 0 8), .int (M 0 9), .int (M 0 10), .int (M 0 11), .int (M 0 12), .int (M 0 13), .int (M 0 14), .int (M 0 15), .int (M 0 16), .int (M 0 17)])), (h 1, .inr (1, [.ref (h 2), .int (M 1 1)])), (h 2, .inl (cA, 15, .inl (M 2))), (h 3, .inr (2, [.ref (h 4), .ref (h 6), .ref (h 8)])), (h 4, .inr (1, [.ref (h 5), .int (M 4 1)])), (h 5, .inl (cA, 20, .inl (M 5))), (h 6, .inr (1, [.ref (h 7), .int (M 6 1)])), (h 7, .inl (cA, 20, .inl (M 7))), (h 8, .inr (1, [.ref (h 9), .int (M 8 1)])), (h 9, .inl (cA, 20, .inl (M 9))), (h 10, .inr (1, [.ref (h 11), .int (M 10 1)])), (h 11, .inl (cA, 60, .inl (M 11))), (h 12, .inr (0, [.ref (h 13), .ref (h 15), .ref (h 22), .int (M 12 3), .int (M 12 4), .int (M 12 5), .int (M 12 6), .int (M 12 7), .int (M 12 8), .int (M 12 9), .int (M 12 10), .int (M 12 11), .int (M 12 12), .int (M 12 13), .int (M 12 14), .int (M 12 15), .int (M 12 16), .int (M 12 17)])), (h 13, .inr (1, [.ref (h 14), .int (M 13 1)])), (h 14, .inl (cA, 15, .inl (M 14))), (h 15, .inr (2, [.ref (h 16), .ref (h 18), .ref (h 20)])), (h 16, .inr (1, [.ref (h 17), .int (M 16 1)])), (h 17, .inl (cA, 20, .inl (M 17))), (h 18, .inr (1, [.ref (h 19), .int (M 18 1)])), (h 19, .inl (cA, 20, .inl (M 19))), (h 20, .inr (1, [.ref (h 21), .int (M 20 1)])), (h 21, .inl (cA, 20, .inl (M 21))), (h 22, .inr (1, [.ref (h 23), .int (M 22 1)])), (h 23, .inl (cA, 60, .inl (M 23)))]
def tapeW (cA : ClassId) (h : Nat → Nat) (M : St) : va_W := [(h 0, .inr (3, [.ref (h 1), .int (M 0 1), .int (M 0 2), .int (M 0 3), .int (M 0 4), .int (M 0 5)])), (h 1, .inr (1, [.ref (h 2), .int (M 1 1)])), (h 2, .inl (cA, 64, .inl (M 2)))]
def tapehW (cA : ClassId) (h : Nat → Nat) (M : St) : va_W := [(h 0, .inr (3, [.ref (h 1), .int (M 0 1), .int (M 0 2), .int (M 0 3), .int (M 0 4), .int (M 0 5)])), (h 1, .inr (1, [.ref (h 2), .int (M 1 1)])), (h 2, .inl (cA, 64, .inl (M 2))), (h 3, .inr (2, [.ref (h 4), .ref (h 6), .ref (h 8)])), (h 4, .inr (1, [.ref (h 5), .int (M 4 1)])), (h 5, .inl (cA, 20, .inl (M 5))), (h 6, .inr (1, [.ref (h 7), .int (M 6 1)])), (h 7, .inl (cA, 20, .inl (M 7))), (h 8, .inr (1, [.ref (h 9), .int (M 8 1)])), (h 9, .inl (cA, 20, .inl (M 9)))]
def mainW (cA : ClassId) (h : Nat → Nat) (M : St) : va_W := [(h 0, .inr (4, [.ref (h 1), .ref (h 13), .ref (h 25), .ref (h 37), .ref (h 49), .ref (h 52), .ref (h 54), .int (M 0 7)])), (h 1, .inr (0, [.ref (h 2), .ref (h 4), .ref (h 11), .int (M 1 3), .int (M 1 4), .int (M 1 5), .int (M 1 6), .int (M 1 7), .int (M 1 8), .int (M 1 9), .int (M 1 10), .int (M 1 11), .int (M 1 12), .int (M 1 13), .int (M 1 14), .int (M 1 15), .int (M 1 16), .int (M 1 17)])), (h 2, .inr (1, [.ref (h 3), .int (M 2 1)])), (h 3, .inl (cA, 15, .inl (M 3))), (h 4, .inr (2, [.ref (h 5), .ref (h 7), .ref (h 9)])), (h 5, .inr (1, [.ref (h 6), .int (M 5 1)])), (h 6, .inl (cA, 20, .inl (M 6))), (h 7, .inr (1, [.ref (h 8), .int (M 7 1)])), (h 8, .inl (cA, 20, .inl (M 8))), (h 9, .inr (1, [.ref (h 10), .int (M 9 1)])), (h 10, .inl (cA, 20, .inl (M 10))), (h 11, .inr (1, [.ref (h 12), .int (M 11 1)])), (h 12, .inl (cA, 60, .inl (M 12))), (h 13, .inr (0, [.ref (h 14), .ref (h 16), .ref (h 23), .int (M 13 3), .int (M 13 4), .int (M 13 5), .int (M 13 6), .int (M 13 7), .int (M 13 8), .int (M 13 9), .int (M 13 10), .int (M 13 11), .int (M 13 12), .int (M 13 13), .int (M 13 14), .int (M 13 15), .int (M 13 16), .int (M 13 17)])), (h 14, .inr (1, [.ref (h 15), .int (M 14 1)])), (h 15, .inl (cA, 15, .inl (M 15))), (h 16, .inr (2, [.ref (h 17), .ref (h 19), .ref (h 21)])), (h 17, .inr (1, [.ref (h 18), .int (M 17 1)])), (h 18, .inl (cA, 20, .inl (M 18))), (h 19, .inr (1, [.ref (h 20), .int (M 19 1)])), (h 20, .inl (cA, 20, .inl (M 20))), (h 21, .inr (1, [.ref (h 22), .int (M 21 1)])), (h 22, .inl (cA, 20, .inl (M 22))), (h 23, .inr (1, [.ref (h 24), .int (M 23 1)])), (h 24, .inl (cA, 60, .inl (M 24))), (h 25, .inr (0, [.ref (h 26), .ref (h 28), .ref (h 35), .int (M 25 3), .int (M 25 4), .int (M 25 5), .int (M 25 6), .int (M 25 7), .int (M 25 8), .int (M 25 9), .int (M 25 10), .int (M 25 11), .int (M 25 12), .int (M 25 13), .int (M 25 14), .int (M 25 15), .int (M 25 16), .int (M 25 17)])), (h 26, .inr (1, [.ref (h 27), .int (M 26 1)])), (h 27, .inl (cA, 15, .inl (M 27))), (h 28, .inr (2, [.ref (h 29), .ref (h 31), .ref (h 33)])), (h 29, .inr (1, [.ref (h 30), .int (M 29 1)])), (h 30, .inl (cA, 20, .inl (M 30))), (h 31, .inr (1, [.ref (h 32), .int (M 31 1)])), (h 32, .inl (cA, 20, .inl (M 32))), (h 33, .inr (1, [.ref (h 34), .int (M 33 1)])), (h 34, .inl (cA, 20, .inl (M 34))), (h 35, .inr (1, [.ref (h 36), .int (M 35 1)])), (h 36, .inl (cA, 60, .inl (M 36))), (h 37, .inr (0, [.ref (h 38), .ref (h 40), .ref (h 47), .int (M 37 3), .int (M 37 4), .int (M 37 5), .int (M 37 6), .int (M 37 7), .int (M 37 8), .int (M 37 9), .int (M 37 10), .int (M 37 11), .int (M 37 12), .int (M 37 13), .int (M 37 14), .int (M 37 15), .int (M 37 16), .int (M 37 17)])), (h 38, .inr (1, [.ref (h 39), .int (M 38 1)])), (h 39, .inl (cA, 15, .inl (M 39))), (h 40, .inr (2, [.ref (h 41), .ref (h 43), .ref (h 45)])), (h 41, .inr (1, [.ref (h 42), .int (M 41 1)])), (h 42, .inl (cA, 20, .inl (M 42))), (h 43, .inr (1, [.ref (h 44), .int (M 43 1)])), (h 44, .inl (cA, 20, .inl (M 44))), (h 45, .inr (1, [.ref (h 46), .int (M 45 1)])), (h 46, .inl (cA, 20, .inl (M 46))), (h 47, .inr (1, [.ref (h 48), .int (M 47 1)])), (h 48, .inl (cA, 60, .inl (M 48))), (h 49, .inr (3, [.ref (h 50), .int (M 49 1), .int (M 49 2), .int (M 49 3), .int (M 49 4), .int (M 49 5)])), (h 50, .inr (1, [.ref (h 51), .int (M 50 1)])), (h 51, .inl (cA, 64, .inl (M 51))), (h 52, .inr (1, [.ref (h 53), .int (M 52 1)])), (h 53, .inl (cA, 10, .inl (M 53))), (h 54, .inr (1, [.ref (h 55), .int (M 54 1)])), (h 55, .inl (cA, 7, .inl (M 55)))]
def Zcells (n : Nat) (M : St) : Prop := cz n (sh 0 M)
def Zcells2 (n : Nat) (k : Nat) (M : St) : Prop := cz n (sh 0 M) ∧ cz k (sh 2 M)
def Zhours (M : St) : Prop := cz 20 (sh 1 M) ∧ cz 20 (sh 3 M) ∧ cz 20 (sh 5 M)
def Zhours2 (M : St) : Prop := cz 20 (sh 1 M) ∧ cz 20 (sh 3 M) ∧ cz 20 (sh 5 M) ∧ cz 20 (sh 8 M) ∧ cz 20 (sh 10 M) ∧ cz 20 (sh 12 M)
def Zbird (M : St) : Prop := cz 15 (sh 1 M) ∧ cz 20 (sh 4 M) ∧ cz 20 (sh 6 M) ∧ cz 20 (sh 8 M) ∧ cz 60 (sh 10 M)
def Zbird2 (M : St) : Prop := cz 15 (sh 1 M) ∧ cz 20 (sh 4 M) ∧ cz 20 (sh 6 M) ∧ cz 20 (sh 8 M) ∧ cz 60 (sh 10 M) ∧ cz 15 (sh 13 M) ∧ cz 20 (sh 16 M) ∧ cz 20 (sh 18 M) ∧ cz 20 (sh 20 M) ∧ cz 60 (sh 22 M)
def Ztape (M : St) : Prop := cz 64 (sh 1 M)
def Ztapeh (M : St) : Prop := cz 64 (sh 1 M) ∧ cz 20 (sh 4 M) ∧ cz 20 (sh 6 M) ∧ cz 20 (sh 8 M)
def Zmain (M : St) : Prop := cz 15 (sh 2 M) ∧ cz 20 (sh 5 M) ∧ cz 20 (sh 7 M) ∧ cz 20 (sh 9 M) ∧ cz 60 (sh 11 M) ∧ cz 15 (sh 14 M) ∧ cz 20 (sh 17 M) ∧ cz 20 (sh 19 M) ∧ cz 20 (sh 21 M) ∧ cz 60 (sh 23 M) ∧ cz 15 (sh 26 M) ∧ cz 20 (sh 29 M) ∧ cz 20 (sh 31 M) ∧ cz 20 (sh 33 M) ∧ cz 60 (sh 35 M) ∧ cz 15 (sh 38 M) ∧ cz 20 (sh 41 M) ∧ cz 20 (sh 43 M) ∧ cz 20 (sh 45 M) ∧ cz 60 (sh 47 M) ∧ cz 64 (sh 50 M) ∧ cz 10 (sh 52 M) ∧ cz 7 (sh 54 M)
theorem cI_m1 : Int32.ofInt (-1) = ((-1) : Int32) := by decide +kernel
theorem cI_0 : Int32.ofInt 0 = (0 : Int32) := by decide +kernel
theorem cI_1 : Int32.ofInt 1 = (1 : Int32) := by decide +kernel
theorem cI_2 : Int32.ofInt 2 = (2 : Int32) := by decide +kernel
theorem cI_3 : Int32.ofInt 3 = (3 : Int32) := by decide +kernel
theorem cI_4 : Int32.ofInt 4 = (4 : Int32) := by decide +kernel
theorem cI_5 : Int32.ofInt 5 = (5 : Int32) := by decide +kernel
theorem cI_10 : Int32.ofInt 10 = (10 : Int32) := by decide +kernel
theorem cI_50 : Int32.ofInt 50 = (50 : Int32) := by decide +kernel
theorem cB_m9 : (Int8.ofInt (-9)).toInt32 = ((-9) : Int32) := by decide +kernel
theorem cB_m6 : (Int8.ofInt (-6)).toInt32 = ((-6) : Int32) := by decide +kernel
theorem cB_m4 : (Int8.ofInt (-4)).toInt32 = ((-4) : Int32) := by decide +kernel
theorem cB_m3 : (Int8.ofInt (-3)).toInt32 = ((-3) : Int32) := by decide +kernel
theorem cB_m2 : (Int8.ofInt (-2)).toInt32 = ((-2) : Int32) := by decide +kernel
theorem cB_6 : (Int8.ofInt 6).toInt32 = (6 : Int32) := by decide +kernel
theorem cB_7 : (Int8.ofInt 7).toInt32 = (7 : Int32) := by decide +kernel
theorem cB_8 : (Int8.ofInt 8).toInt32 = (8 : Int32) := by decide +kernel
theorem cB_9 : (Int8.ofInt 9).toInt32 = (9 : Int32) := by decide +kernel
theorem cB_10 : (Int8.ofInt 10).toInt32 = (10 : Int32) := by decide +kernel
theorem cB_11 : (Int8.ofInt 11).toInt32 = (11 : Int32) := by decide +kernel
theorem cB_12 : (Int8.ofInt 12).toInt32 = (12 : Int32) := by decide +kernel
theorem cB_13 : (Int8.ofInt 13).toInt32 = (13 : Int32) := by decide +kernel
theorem cB_14 : (Int8.ofInt 14).toInt32 = (14 : Int32) := by decide +kernel
theorem cB_15 : (Int8.ofInt 15).toInt32 = (15 : Int32) := by decide +kernel
theorem cB_16 : (Int8.ofInt 16).toInt32 = (16 : Int32) := by decide +kernel
theorem cB_20 : (Int8.ofInt 20).toInt32 = (20 : Int32) := by decide +kernel
theorem cB_48 : (Int8.ofInt 48).toInt32 = (48 : Int32) := by decide +kernel
theorem cB_50 : (Int8.ofInt 50).toInt32 = (50 : Int32) := by decide +kernel
theorem cB_57 : (Int8.ofInt 57).toInt32 = (57 : Int32) := by decide +kernel
theorem cB_58 : (Int8.ofInt 58).toInt32 = (58 : Int32) := by decide +kernel
theorem cB_59 : (Int8.ofInt 59).toInt32 = (59 : Int32) := by decide +kernel
theorem cB_60 : (Int8.ofInt 60).toInt32 = (60 : Int32) := by decide +kernel
theorem cB_63 : (Int8.ofInt 63).toInt32 = (63 : Int32) := by decide +kernel
theorem cB_64 : (Int8.ofInt 64).toInt32 = (64 : Int32) := by decide +kernel
theorem cB_88 : (Int8.ofInt 88).toInt32 = (88 : Int32) := by decide +kernel
theorem cB_90 : (Int8.ofInt 90).toInt32 = (90 : Int32) := by decide +kernel
theorem cB_95 : (Int8.ofInt 95).toInt32 = (95 : Int32) := by decide +kernel
theorem cB_99 : (Int8.ofInt 99).toInt32 = (99 : Int32) := by decide +kernel
theorem cB_100 : (Int8.ofInt 100).toInt32 = (100 : Int32) := by decide +kernel
theorem cS_m2000 : (Int16.ofInt (-2000)).toInt32 = ((-2000) : Int32) := by decide +kernel
theorem cS_m1000 : (Int16.ofInt (-1000)).toInt32 = ((-1000) : Int32) := by decide +kernel
theorem cS_256 : (Int16.ofInt 256).toInt32 = (256 : Int32) := by decide +kernel
theorem cS_300 : (Int16.ofInt 300).toInt32 = (300 : Int32) := by decide +kernel
theorem cS_400 : (Int16.ofInt 400).toInt32 = (400 : Int32) := by decide +kernel
theorem cS_500 : (Int16.ofInt 500).toInt32 = (500 : Int32) := by decide +kernel
theorem cS_999 : (Int16.ofInt 999).toInt32 = (999 : Int32) := by decide +kernel
theorem cS_1000 : (Int16.ofInt 1000).toInt32 = (1000 : Int32) := by decide +kernel
theorem cS_3000 : (Int16.ofInt 3000).toInt32 = (3000 : Int32) := by decide +kernel
theorem cS_9900 : (Int16.ofInt 9900).toInt32 = (9900 : Int32) := by decide +kernel
theorem cS_9999 : (Int16.ofInt 9999).toInt32 = (9999 : Int32) := by decide +kernel
theorem cS_10000 : (Int16.ofInt 10000).toInt32 = (10000 : Int32) := by decide +kernel
theorem inb_8_151 : vp_in (8 : Int32) 151 := by unfold vp_in; decide +kernel
theorem inb_9_151 : vp_in (9 : Int32) 151 := by unfold vp_in; decide +kernel
theorem inb_10_151 : vp_in (10 : Int32) 151 := by unfold vp_in; decide +kernel
theorem inb_11_151 : vp_in (11 : Int32) 151 := by unfold vp_in; decide +kernel
theorem inb_15_151 : vp_in (15 : Int32) 151 := by unfold vp_in; decide +kernel
theorem inb_18_151 : vp_in (18 : Int32) 151 := by unfold vp_in; decide +kernel
theorem nz_2 : ¬ (2 : Int32) = 0 := by decide +kernel
theorem nz_3 : ¬ (3 : Int32) = 0 := by decide +kernel
theorem nz_4 : ¬ (4 : Int32) = 0 := by decide +kernel
theorem nz_8 : ¬ (8 : Int32) = 0 := by decide +kernel
theorem nz_10 : ¬ (10 : Int32) = 0 := by decide +kernel
theorem nz_20 : ¬ (20 : Int32) = 0 := by decide +kernel
theorem nz_100 : ¬ (100 : Int32) = 0 := by decide +kernel
theorem nz_256 : ¬ (256 : Int32) = 0 := by decide +kernel
theorem nz_1000 : ¬ (1000 : Int32) = 0 := by decide +kernel
theorem nzL_10 : ¬ (10 : Int64) = 0 := by decide +kernel
theorem hdV_X0_airOf : yX0_airOf.cls = RX0 ∧ yX0_airOf.cls ≠ "java/lang/invoke/MethodHandle" ∧ yX0_airOf.cls ≠ "java/lang/invoke/VarHandle" ∧ (parseMethodDescriptor yX0_airOf.desc).map (fun d => d.parameters.length) = some 1 := by decide +kernel
theorem hdV_X0_become : yX0_become.cls = RX0 ∧ yX0_become.cls ≠ "java/lang/invoke/MethodHandle" ∧ yX0_become.cls ≠ "java/lang/invoke/VarHandle" ∧ (parseMethodDescriptor yX0_become.desc).map (fun d => d.parameters.length) = some 1 := by decide +kernel
theorem hdV_X0_empty : yX0_empty.cls = RX0 ∧ yX0_empty.cls ≠ "java/lang/invoke/MethodHandle" ∧ yX0_empty.cls ≠ "java/lang/invoke/VarHandle" ∧ (parseMethodDescriptor yX0_empty.desc).map (fun d => d.parameters.length) = some 0 := by decide +kernel
theorem hdV_X0_gapAt : yX0_gapAt.cls = RX0 ∧ yX0_gapAt.cls ≠ "java/lang/invoke/MethodHandle" ∧ yX0_gapAt.cls ≠ "java/lang/invoke/VarHandle" ∧ (parseMethodDescriptor yX0_gapAt.desc).map (fun d => d.parameters.length) = some 1 := by decide +kernel
theorem hdV_X0_gaps : yX0_gaps.cls = RX0 ∧ yX0_gaps.cls ≠ "java/lang/invoke/MethodHandle" ∧ yX0_gaps.cls ≠ "java/lang/invoke/VarHandle" ∧ (parseMethodDescriptor yX0_gaps.desc).map (fun d => d.parameters.length) = some 0 := by decide +kernel
theorem hdV_X0_goingOff : yX0_goingOff.cls = RX0 ∧ yX0_goingOff.cls ≠ "java/lang/invoke/MethodHandle" ∧ yX0_goingOff.cls ≠ "java/lang/invoke/VarHandle" ∧ (parseMethodDescriptor yX0_goingOff.desc).map (fun d => d.parameters.length) = some 2 := by decide +kernel
theorem hdV_X0_hatch : yX0_hatch.cls = RX0 ∧ yX0_hatch.cls ≠ "java/lang/invoke/MethodHandle" ∧ yX0_hatch.cls ≠ "java/lang/invoke/VarHandle" ∧ (parseMethodDescriptor yX0_hatch.desc).map (fun d => d.parameters.length) = some 3 := by decide +kernel
theorem hdV_X0_height : yX0_height.cls = RX0 ∧ yX0_height.cls ≠ "java/lang/invoke/MethodHandle" ∧ yX0_height.cls ≠ "java/lang/invoke/VarHandle" ∧ (parseMethodDescriptor yX0_height.desc).map (fun d => d.parameters.length) = some 0 := by decide +kernel
theorem hdV_X0_lastNodIn : yX0_lastNodIn.cls = RX0 ∧ yX0_lastNodIn.cls ≠ "java/lang/invoke/MethodHandle" ∧ yX0_lastNodIn.cls ≠ "java/lang/invoke/VarHandle" ∧ (parseMethodDescriptor yX0_lastNodIn.desc).map (fun d => d.parameters.length) = some 1 := by decide +kernel
theorem hdV_X0_mostWet : yX0_mostWet.cls = RX0 ∧ yX0_mostWet.cls ≠ "java/lang/invoke/MethodHandle" ∧ yX0_mostWet.cls ≠ "java/lang/invoke/VarHandle" ∧ (parseMethodDescriptor yX0_mostWet.desc).map (fun d => d.parameters.length) = some 0 := by decide +kernel
theorem hdV_X0_nodsIn : yX0_nodsIn.cls = RX0 ∧ yX0_nodsIn.cls ≠ "java/lang/invoke/MethodHandle" ∧ yX0_nodsIn.cls ≠ "java/lang/invoke/VarHandle" ∧ (parseMethodDescriptor yX0_nodsIn.desc).map (fun d => d.parameters.length) = some 1 := by decide +kernel
theorem hdV_X0_nodsWithin : yX0_nodsWithin.cls = RX0 ∧ yX0_nodsWithin.cls ≠ "java/lang/invoke/MethodHandle" ∧ yX0_nodsWithin.cls ≠ "java/lang/invoke/VarHandle" ∧ (parseMethodDescriptor yX0_nodsWithin.desc).map (fun d => d.parameters.length) = some 1 := by decide +kernel
theorem hdV_X0_pressure : yX0_pressure.cls = RX0 ∧ yX0_pressure.cls ≠ "java/lang/invoke/MethodHandle" ∧ yX0_pressure.cls ≠ "java/lang/invoke/VarHandle" ∧ (parseMethodDescriptor yX0_pressure.desc).map (fun d => d.parameters.length) = some 0 := by decide +kernel
theorem hdV_X0_rise : yX0_rise.cls = RX0 ∧ yX0_rise.cls ≠ "java/lang/invoke/MethodHandle" ∧ yX0_rise.cls ≠ "java/lang/invoke/VarHandle" ∧ (parseMethodDescriptor yX0_rise.desc).map (fun d => d.parameters.length) = some 0 := by decide +kernel
theorem hdV_X0_riseNoMore : yX0_riseNoMore.cls = RX0 ∧ yX0_riseNoMore.cls ≠ "java/lang/invoke/MethodHandle" ∧ yX0_riseNoMore.cls ≠ "java/lang/invoke/VarHandle" ∧ (parseMethodDescriptor yX0_riseNoMore.desc).map (fun d => d.parameters.length) = some 1 := by decide +kernel
theorem hdV_X0_swingOn : yX0_swingOn.cls = RX0 ∧ yX0_swingOn.cls ≠ "java/lang/invoke/MethodHandle" ∧ yX0_swingOn.cls ≠ "java/lang/invoke/VarHandle" ∧ (parseMethodDescriptor yX0_swingOn.desc).map (fun d => d.parameters.length) = some 0 := by decide +kernel
theorem hdV_X0_tenth : yX0_tenth.cls = RX0 ∧ yX0_tenth.cls ≠ "java/lang/invoke/MethodHandle" ∧ yX0_tenth.cls ≠ "java/lang/invoke/VarHandle" ∧ (parseMethodDescriptor yX0_tenth.desc).map (fun d => d.parameters.length) = some 0 := by decide +kernel
theorem hdV_X0_tip : yX0_tip.cls = RX0 ∧ yX0_tip.cls ≠ "java/lang/invoke/MethodHandle" ∧ yX0_tip.cls ≠ "java/lang/invoke/VarHandle" ∧ (parseMethodDescriptor yX0_tip.desc).map (fun d => d.parameters.length) = some 0 := by decide +kernel
theorem hdV_X0_turn : yX0_turn.cls = RX0 ∧ yX0_turn.cls ≠ "java/lang/invoke/MethodHandle" ∧ yX0_turn.cls ≠ "java/lang/invoke/VarHandle" ∧ (parseMethodDescriptor yX0_turn.desc).map (fun d => d.parameters.length) = some 1 := by decide +kernel
theorem hdV_X0_with : yX0_with.cls = RX0 ∧ yX0_with.cls ≠ "java/lang/invoke/MethodHandle" ∧ yX0_with.cls ≠ "java/lang/invoke/VarHandle" ∧ (parseMethodDescriptor yX0_with.desc).map (fun d => d.parameters.length) = some 2 := by decide +kernel
theorem hdV_X1_add : yX1_add.cls = RX1 ∧ yX1_add.cls ≠ "java/lang/invoke/MethodHandle" ∧ yX1_add.cls ≠ "java/lang/invoke/VarHandle" ∧ (parseMethodDescriptor yX1_add.desc).map (fun d => d.parameters.length) = some 1 := by decide +kernel
theorem hdV_X1_at : yX1_at.cls = RX1 ∧ yX1_at.cls ≠ "java/lang/invoke/MethodHandle" ∧ yX1_at.cls ≠ "java/lang/invoke/VarHandle" ∧ (parseMethodDescriptor yX1_at.desc).map (fun d => d.parameters.length) = some 1 := by decide +kernel
theorem hdV_X1_become : yX1_become.cls = RX1 ∧ yX1_become.cls ≠ "java/lang/invoke/MethodHandle" ∧ yX1_become.cls ≠ "java/lang/invoke/VarHandle" ∧ (parseMethodDescriptor yX1_become.desc).map (fun d => d.parameters.length) = some 1 := by decide +kernel
theorem hdV_X1_clear : yX1_clear.cls = RX1 ∧ yX1_clear.cls ≠ "java/lang/invoke/MethodHandle" ∧ yX1_clear.cls ≠ "java/lang/invoke/VarHandle" ∧ (parseMethodDescriptor yX1_clear.desc).map (fun d => d.parameters.length) = some 0 := by decide +kernel
theorem hdV_X1_cutTo : yX1_cutTo.cls = RX1 ∧ yX1_cutTo.cls ≠ "java/lang/invoke/MethodHandle" ∧ yX1_cutTo.cls ≠ "java/lang/invoke/VarHandle" ∧ (parseMethodDescriptor yX1_cutTo.desc).map (fun d => d.parameters.length) = some 1 := by decide +kernel
theorem hdV_X1_fillUp : yX1_fillUp.cls = RX1 ∧ yX1_fillUp.cls ≠ "java/lang/invoke/MethodHandle" ∧ yX1_fillUp.cls ≠ "java/lang/invoke/VarHandle" ∧ (parseMethodDescriptor yX1_fillUp.desc).map (fun d => d.parameters.length) = some 0 := by decide +kernel
theorem hdV_X1_put : yX1_put.cls = RX1 ∧ yX1_put.cls ≠ "java/lang/invoke/MethodHandle" ∧ yX1_put.cls ≠ "java/lang/invoke/VarHandle" ∧ (parseMethodDescriptor yX1_put.desc).map (fun d => d.parameters.length) = some 2 := by decide +kernel
theorem hdV_X1_size : yX1_size.cls = RX1 ∧ yX1_size.cls ≠ "java/lang/invoke/MethodHandle" ∧ yX1_size.cls ≠ "java/lang/invoke/VarHandle" ∧ (parseMethodDescriptor yX1_size.desc).map (fun d => d.parameters.length) = some 0 := by decide +kernel
theorem hdV_X2_add : yX2_add.cls = RX2 ∧ yX2_add.cls ≠ "java/lang/invoke/MethodHandle" ∧ yX2_add.cls ≠ "java/lang/invoke/VarHandle" ∧ (parseMethodDescriptor yX2_add.desc).map (fun d => d.parameters.length) = some 3 := by decide +kernel
theorem hdV_X2_become : yX2_become.cls = RX2 ∧ yX2_become.cls ≠ "java/lang/invoke/MethodHandle" ∧ yX2_become.cls ≠ "java/lang/invoke/VarHandle" ∧ (parseMethodDescriptor yX2_become.desc).map (fun d => d.parameters.length) = some 1 := by decide +kernel
theorem hdV_X2_cutTo : yX2_cutTo.cls = RX2 ∧ yX2_cutTo.cls ≠ "java/lang/invoke/MethodHandle" ∧ yX2_cutTo.cls ≠ "java/lang/invoke/VarHandle" ∧ (parseMethodDescriptor yX2_cutTo.desc).map (fun d => d.parameters.length) = some 1 := by decide +kernel
theorem hdV_X2_size : yX2_size.cls = RX2 ∧ yX2_size.cls ≠ "java/lang/invoke/MethodHandle" ∧ yX2_size.cls ≠ "java/lang/invoke/VarHandle" ∧ (parseMethodDescriptor yX2_size.desc).map (fun d => d.parameters.length) = some 0 := by decide +kernel
theorem hdV_X2_valueOf : yX2_valueOf.cls = RX2 ∧ yX2_valueOf.cls ≠ "java/lang/invoke/MethodHandle" ∧ yX2_valueOf.cls ≠ "java/lang/invoke/VarHandle" ∧ (parseMethodDescriptor yX2_valueOf.desc).map (fun d => d.parameters.length) = some 3 := by decide +kernel
theorem hdV_X3_hasForm : yX3_hasForm.cls = RX3 ∧ yX3_hasForm.cls ≠ "java/lang/invoke/MethodHandle" ∧ yX3_hasForm.cls ≠ "java/lang/invoke/VarHandle" ∧ (parseMethodDescriptor yX3_hasForm.desc).map (fun d => d.parameters.length) = some 0 := by decide +kernel
theorem hdV_X3_readInto : yX3_readInto.cls = RX3 ∧ yX3_readInto.cls ≠ "java/lang/invoke/MethodHandle" ∧ yX3_readInto.cls ≠ "java/lang/invoke/VarHandle" ∧ (parseMethodDescriptor yX3_readInto.desc).map (fun d => d.parameters.length) = some 1 := by decide +kernel
theorem hdV_X3_readNumber : yX3_readNumber.cls = RX3 ∧ yX3_readNumber.cls ≠ "java/lang/invoke/MethodHandle" ∧ yX3_readNumber.cls ≠ "java/lang/invoke/VarHandle" ∧ (parseMethodDescriptor yX3_readNumber.desc).map (fun d => d.parameters.length) = some 1 := by decide +kernel
theorem hdV_X3_readSign : yX3_readSign.cls = RX3 ∧ yX3_readSign.cls ≠ "java/lang/invoke/MethodHandle" ∧ yX3_readSign.cls ≠ "java/lang/invoke/VarHandle" ∧ (parseMethodDescriptor yX3_readSign.desc).map (fun d => d.parameters.length) = some 1 := by decide +kernel
theorem hdV_X3_readStatement : yX3_readStatement.cls = RX3 ∧ yX3_readStatement.cls ≠ "java/lang/invoke/MethodHandle" ∧ yX3_readStatement.cls ≠ "java/lang/invoke/VarHandle" ∧ (parseMethodDescriptor yX3_readStatement.desc).map (fun d => d.parameters.length) = some 0 := by decide +kernel
theorem hdV_X4_airsFor : yX4_airsFor.cls = RX4 ∧ yX4_airsFor.cls ≠ "java/lang/invoke/MethodHandle" ∧ yX4_airsFor.cls ≠ "java/lang/invoke/VarHandle" ∧ (parseMethodDescriptor yX4_airsFor.desc).map (fun d => d.parameters.length) = some 2 := by decide +kernel
theorem hdV_X4_fitsTheRow : yX4_fitsTheRow.cls = RX4 ∧ yX4_fitsTheRow.cls ≠ "java/lang/invoke/MethodHandle" ∧ yX4_fitsTheRow.cls ≠ "java/lang/invoke/VarHandle" ∧ (parseMethodDescriptor yX4_fitsTheRow.desc).map (fun d => d.parameters.length) = some 2 := by decide +kernel
theorem hdV_X4_freshWith : yX4_freshWith.cls = RX4 ∧ yX4_freshWith.cls ≠ "java/lang/invoke/MethodHandle" ∧ yX4_freshWith.cls ≠ "java/lang/invoke/VarHandle" ∧ (parseMethodDescriptor yX4_freshWith.desc).map (fun d => d.parameters.length) = some 2 := by decide +kernel
theorem hdV_X4_judged : yX4_judged.cls = RX4 ∧ yX4_judged.cls ≠ "java/lang/invoke/MethodHandle" ∧ yX4_judged.cls ≠ "java/lang/invoke/VarHandle" ∧ (parseMethodDescriptor yX4_judged.desc).map (fun d => d.parameters.length) = some 1 := by decide +kernel
theorem hdV_X4_outside : yX4_outside.cls = RX4 ∧ yX4_outside.cls ≠ "java/lang/invoke/MethodHandle" ∧ yX4_outside.cls ≠ "java/lang/invoke/VarHandle" ∧ (parseMethodDescriptor yX4_outside.desc).map (fun d => d.parameters.length) = some 2 := by decide +kernel
theorem hdV_X4_pairsThatNod : yX4_pairsThatNod.cls = RX4 ∧ yX4_pairsThatNod.cls ≠ "java/lang/invoke/MethodHandle" ∧ yX4_pairsThatNod.cls ≠ "java/lang/invoke/VarHandle" ∧ (parseMethodDescriptor yX4_pairsThatNod.desc).map (fun d => d.parameters.length) = some 2 := by decide +kernel
theorem hdV_X4_refuse : yX4_refuse.cls = RX4 ∧ yX4_refuse.cls ≠ "java/lang/invoke/MethodHandle" ∧ yX4_refuse.cls ≠ "java/lang/invoke/VarHandle" ∧ (parseMethodDescriptor yX4_refuse.desc).map (fun d => d.parameters.length) = some 1 := by decide +kernel
theorem hdV_X4_sortBits : yX4_sortBits.cls = RX4 ∧ yX4_sortBits.cls ≠ "java/lang/invoke/MethodHandle" ∧ yX4_sortBits.cls ≠ "java/lang/invoke/VarHandle" ∧ (parseMethodDescriptor yX4_sortBits.desc).map (fun d => d.parameters.length) = some 2 := by decide +kernel
theorem hdS_J6_bitCount_0f7a4 : yJ6_bitCount_0f7a4.cls ≠ "java/lang/invoke/MethodHandle" ∧ yJ6_bitCount_0f7a4.cls ≠ "java/lang/invoke/VarHandle" ∧ (parseMethodDescriptor yJ6_bitCount_0f7a4.desc).map (fun d => d.parameters.length) = some 1 := by decide +kernel
theorem hdS_X0_init : yX0_init.cls ≠ "java/lang/invoke/MethodHandle" ∧ yX0_init.cls ≠ "java/lang/invoke/VarHandle" ∧ (parseMethodDescriptor yX0_init.desc).map (fun d => d.parameters.length) = some 0 := by decide +kernel
theorem hdS_X1_init : yX1_init.cls ≠ "java/lang/invoke/MethodHandle" ∧ yX1_init.cls ≠ "java/lang/invoke/VarHandle" ∧ (parseMethodDescriptor yX1_init.desc).map (fun d => d.parameters.length) = some 1 := by decide +kernel
theorem hdS_X2_init : yX2_init.cls ≠ "java/lang/invoke/MethodHandle" ∧ yX2_init.cls ≠ "java/lang/invoke/VarHandle" ∧ (parseMethodDescriptor yX2_init.desc).map (fun d => d.parameters.length) = some 0 := by decide +kernel
theorem hdS_X3_init : yX3_init.cls ≠ "java/lang/invoke/MethodHandle" ∧ yX3_init.cls ≠ "java/lang/invoke/VarHandle" ∧ (parseMethodDescriptor yX3_init.desc).map (fun d => d.parameters.length) = some 0 := by decide +kernel
theorem hdS_X3_thingOf : yX3_thingOf.cls ≠ "java/lang/invoke/MethodHandle" ∧ yX3_thingOf.cls ≠ "java/lang/invoke/VarHandle" ∧ (parseMethodDescriptor yX3_thingOf.desc).map (fun d => d.parameters.length) = some 1 := by decide +kernel
theorem hdS_X4_commonDivisor : yX4_commonDivisor.cls ≠ "java/lang/invoke/MethodHandle" ∧ yX4_commonDivisor.cls ≠ "java/lang/invoke/VarHandle" ∧ (parseMethodDescriptor yX4_commonDivisor.desc).map (fun d => d.parameters.length) = some 2 := by decide +kernel
theorem hdS_X4_isInRange : yX4_isInRange.cls ≠ "java/lang/invoke/MethodHandle" ∧ yX4_isInRange.cls ≠ "java/lang/invoke/VarHandle" ∧ (parseMethodDescriptor yX4_isInRange.desc).map (fun d => d.parameters.length) = some 2 := by decide +kernel
theorem hdS_X4_numberIn : yX4_numberIn.cls ≠ "java/lang/invoke/MethodHandle" ∧ yX4_numberIn.cls ≠ "java/lang/invoke/VarHandle" ∧ (parseMethodDescriptor yX4_numberIn.desc).map (fun d => d.parameters.length) = some 2 := by decide +kernel
