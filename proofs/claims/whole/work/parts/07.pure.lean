-- 10.checks
def f_J9_max_7cf53 (x0 : Int32) (x1 : Int32) : Option Int32 := if x0 < x1 then (some x1) else (some x0)

def f_J9_floorMod_7cf53 (x0 : Int32) (x1 : Int32) : Option Int32 := gd (decide (¬ x1 = 0)) (if 0 ≤ (x0 ^^^ x1) then (some (x0 - x0 / x1 * x1)) else (if (x0 - x0 / x1 * x1) = 0 then (some (x0 - x0 / x1 * x1)) else (some ((x0 - x0 / x1 * x1) + x1))))

def f_X1_make_20  (x0 : Int32) (x1 : Int32) (t0 : Int32) : Option Int32 := if 5 ≤ x0 then (if 5 ≤ x1 then (if (0 : Int32) = 0 then (some t0) else (some (5 + t0))) else (if (0 : Int32) = 1 then (some t0) else (some (5 + t0)))) else (if 5 ≤ x1 then (if (1 : Int32) = 0 then (some t0) else (some (5 + t0))) else (if (1 : Int32) = 1 then (some t0) else (some (5 + t0))))
def f_X1_make (x0 : Int32) (x1 : Int32) : Option Int32 := if 5 ≤ x0 then (f_X1_make_20 x0 x1 (((x0 - x1) + 5) - ((x0 - x1) + 5) / 5 * 5)) else (f_X1_make_20 x0 x1 ((x0 + x1) - (x0 + x1) / 5 * 5))

def f_X7_isFromTo (x0 : Int32) (x1 : Int32) (x2 : Int32) : Option Bool := if x0 < x1 then (some false) else (if x2 < x0 then (some false) else (some true))

def f_X1_turned_4  : Nat → Int32 → Int32 → Int32 → Option Int32
  | 0, _, _, _ => none
  | n + 1, x1, x2, x3 => if x1 ≤ x3 then (some x2) else ((f_X7_isFromTo x2 0 9).bind fun r2 => if (bI r2) = 0 then (f_X1_turned_4 n x1 0 (x3 + 1)) else (gd (inb x2 10) (f_X1_turned_4 n x1 (turnT x2.toNatClampNeg) (x3 + 1))))
def f_X1_turned (x0 : Int32) (x1 : Int32) : Option Int32 := f_X1_turned_4 1000 x1 x0 0

def f_X1_byTurns (x0 : Int32) (x1 : Int32) (x2 : Int32) (x3 : Int32) : Option Int32 := (f_X1_turned x1 1).bind fun r1 => (f_X1_make (x0 - x0 / 10 * 10) r1).bind fun r2 => (f_X1_turned x2 2).bind fun r3 => (f_X1_make r2 r3).bind fun r4 => (f_X1_turned x3 3).bind fun r5 => (f_X1_make r4 r5).bind fun r6 => if 5 ≤ r6 then (some r6) else (some ((5 - r6) - (5 - r6) / 5 * 5))

def f_X1_ofFigures (x0 : Int32) (x1 : Int32) (x2 : Int32) (x3 : Int32) (x4 : Int32) : Option Int32 := if x0 = 0 then ((f_J9_floorMod_7cf53 (-(((x1 + x2) + x3) + x4)) 9).bind fun r5 => some r5) else (if x0 = 1 then ((f_J9_floorMod_7cf53 (-((((5 * x1) + (4 * x2)) + (3 * x3)) + (2 * x4))) 11).bind fun r4 => some r4) else ((f_X1_byTurns x1 x2 x3 x4).bind fun r3 => some r3))

def f_X1_ofNumber (x0 : Int32) (x1 : Int32) (x2 : Int32) : Option Int32 := (f_X1_ofFigures x0 x1 (x2 / 100) ((x2 / 10) - (x2 / 10) / 10 * 10) (x2 - x2 / 10 * 10)).bind fun r1 => some r1

def f_X1_ofStar (x0 : Int32) : Option Int32 := (f_X1_ofNumber 1 0 x0).bind fun r1 => some r1

def f_X1_missedFigures_95 (K38 : Int32 → Int32 → Int32 → Int32 → Int32 → Int32 → Int32 → Int32 → Option Int32) (x0 : Int32) (x1 : Int32) (x3 : Int32) (x4 : Int32) (x5 : Int32) (x6 : Int32) (x7 : Int32) (x8 : Int32) : Option Int32 := if x8 = x5 then (K38 x0 x1 x3 x4 x5 x6 x7 (x8 + 1)) else ((f_X1_ofFigures x0 x1 x3 x4 x8).bind fun r2 => if r2 = x6 then (K38 x0 x1 x3 x4 x5 x6 (x7 + 1) (x8 + 1)) else (K38 x0 x1 x3 x4 x5 x6 x7 (x8 + 1)))
def f_X1_missedFigures_70 (K38 : Int32 → Int32 → Int32 → Int32 → Int32 → Int32 → Int32 → Int32 → Option Int32) (x0 : Int32) (x1 : Int32) (x3 : Int32) (x4 : Int32) (x5 : Int32) (x6 : Int32) (x7 : Int32) (x8 : Int32) : Option Int32 := if x8 = x4 then (f_X1_missedFigures_95 K38 x0 x1 x3 x4 x5 x6 x7 x8) else ((f_X1_ofFigures x0 x1 x3 x8 x5).bind fun r5 => if r5 = x6 then (f_X1_missedFigures_95 K38 x0 x1 x3 x4 x5 x6 (x7 + 1) x8) else (f_X1_missedFigures_95 K38 x0 x1 x3 x4 x5 x6 x7 x8))
def f_X1_missedFigures_38  : Nat → Int32 → Int32 → Int32 → Int32 → Int32 → Int32 → Int32 → Int32 → Option Int32
  | 0, _, _, _, _, _, _, _, _ => none
  | n + 1, x0, x1, x3, x4, x5, x6, x7, x8 => if 9 < x8 then (some x7) else (if x8 = x3 then (f_X1_missedFigures_70 (f_X1_missedFigures_38 n) x0 x1 x3 x4 x5 x6 x7 x8) else ((f_X1_ofFigures x0 x1 x8 x4 x5).bind fun r9 => if r9 = x6 then (f_X1_missedFigures_70 (f_X1_missedFigures_38 n) x0 x1 x3 x4 x5 x6 (x7 + 1) x8) else (f_X1_missedFigures_70 (f_X1_missedFigures_38 n) x0 x1 x3 x4 x5 x6 x7 x8)))
def f_X1_missedFigures (x0 : Int32) (x1 : Int32) (x2 : Int32) : Option Int32 := (f_X1_ofFigures x0 x1 (x2 / 100) ((x2 / 10) - (x2 / 10) / 10 * 10) (x2 - x2 / 10 * 10)).bind fun r11 => f_X1_missedFigures_38 1000 x0 x1 (x2 / 100) ((x2 / 10) - (x2 / 10) / 10 * 10) (x2 - x2 / 10 * 10) r11 0 0

def f_X1_missedSwaps_59  (x0 : Int32) (x1 : Int32) (x3 : Int32) (x4 : Int32) (x5 : Int32) (x6 : Int32) (x7 : Int32) : Option Int32 := if x4 = x5 then (some x7) else ((f_X1_ofFigures x0 x1 x3 x5 x4).bind fun r2 => if r2 = x6 then (some (x7 + 1)) else (some x7))
def f_X1_missedSwaps (x0 : Int32) (x1 : Int32) (x2 : Int32) : Option Int32 := (f_X1_ofFigures x0 x1 (x2 / 100) ((x2 / 10) - (x2 / 10) / 10 * 10) (x2 - x2 / 10 * 10)).bind fun r4 => if (x2 / 100) = ((x2 / 10) - (x2 / 10) / 10 * 10) then (f_X1_missedSwaps_59 x0 x1 (x2 / 100) ((x2 / 10) - (x2 / 10) / 10 * 10) (x2 - x2 / 10 * 10) r4 0) else ((f_X1_ofFigures x0 x1 ((x2 / 10) - (x2 / 10) / 10 * 10) (x2 / 100) (x2 - x2 / 10 * 10)).bind fun r6 => if r6 = r4 then (f_X1_missedSwaps_59 x0 x1 (x2 / 100) ((x2 / 10) - (x2 / 10) / 10 * 10) (x2 - x2 / 10 * 10) r4 (0 + 1)) else (f_X1_missedSwaps_59 x0 x1 (x2 / 100) ((x2 / 10) - (x2 / 10) / 10 * 10) (x2 - x2 / 10 * 10) r4 0))

def f_J9_min_7cf53 (x0 : Int32) (x1 : Int32) : Option Int32 := if x1 < x0 then (some x1) else (some x0)
-- 11.plan
def f_X2_clear (σ : Me) (k0 : Nat) : Option Me := some (up (up (up σ k0 2 0) k0 3 0) k0 4 20)

def f_X2_addPress (σ : Me) (k0 : Nat) (x1 : Int32) : Option (Me × Bool) := if 4 ≤ (σ k0 2) then (some (σ, false)) else (if (σ k0 3) ≤ 0 then (gd (inb (σ k0 2) 4) (some (up (up σ (k0 + 1) (σ k0 2).toNatClampNeg x1) k0 2 (((up σ (k0 + 1) (σ k0 2).toNatClampNeg x1) k0 2) + 1), true))) else (some (σ, false)))

def f_X2_nextSeries (σ : Me) (k0 : Nat) : Option (Option Nat) := if 3 ≤ (σ k0 3) then (some none) else (gd (inb (σ k0 3) 3) (some (some ((k0 + 2) + 1 + 6 * (σ k0 3).toNatClampNeg))))

def f_X2_keepNextSeries (σ : Me) (k0 : Nat) : Option Me := if 3 ≤ (σ k0 3) then (some σ) else (some (up σ k0 3 ((σ k0 3) + 1)))

def f_X2_seriesAt (σ : Me) (k0 : Nat) (x1 : Int32) : Option (Option Nat) := (f_X7_isFromTo x1 0 ((σ k0 3) - 1)).bind fun r1 => if (bI r1) = 0 then (some none) else (gd (inb x1 3) (some (some ((k0 + 2) + 1 + 6 * x1.toNatClampNeg))))

def f_X3_shareAt (σ : Me) (k0 : Nat) (x1 : Int32) : Option (Option Nat) := (f_X7_isFromTo x1 0 ((σ k0 1) - 1)).bind fun r1 => if (bI r1) = 0 then (some none) else (gd (inb x1 4) (some (some ((k0 + 1) + 1 + x1.toNatClampNeg))))

def f_X2_shareAt (σ : Me) (k0 : Nat) (x1 : Int32) (x2 : Int32) : Option (Option Nat) := (f_X2_seriesAt σ k0 x1).bind fun r1 => oc r1 (some none) (fun k901 => gd (decide (kd k901 = 12)) ((f_X3_shareAt σ k901 x2).bind fun r2 => oc r2 (some none) (fun k902 => gd (decide (kd k902 = 14)) (some (some k902)))))

def f_X2_seriesOfLetter_2  : Nat → Me → Nat → Int32 → Int32 → Option Int32
  | 0, _, _, _, _ => none
  | n + 1, σ, k0, x1, x2 => if (σ k0 3) ≤ x2 then (some (-4)) else (gd (inb x2 3) (if (σ ((k0 + 2) + 1 + 6 * x2.toNatClampNeg) 2) = x1 then (some x2) else (f_X2_seriesOfLetter_2 n σ k0 x1 (x2 + 1))))
def f_X2_seriesOfLetter (σ : Me) (k0 : Nat) (x1 : Int32) : Option Int32 := f_X2_seriesOfLetter_2 1000 σ k0 x1 0

def f_X3_notesPrinted_4  : Nat → Me → Nat → Int32 → Int32 → Option Int32
  | 0, _, _, _, _ => none
  | n + 1, σ, k0, x1, x2 => if (σ k0 1) ≤ x2 then (some x1) else (gd (inb x2 4) (gd (inb x2 4) (f_X3_notesPrinted_4 n σ k0 (x1 + ((σ ((k0 + 1) + 1 + x2.toNatClampNeg) 3) * (σ ((k0 + 1) + 1 + x2.toNatClampNeg) 0))) (x2 + 1))))
def f_X3_notesPrinted (σ : Me) (k0 : Nat) : Option Int32 := f_X3_notesPrinted_4 1000 σ k0 0 0

def f_X2_notesPrinted_4  : Nat → Me → Nat → Int32 → Int32 → Option Int32
  | 0, _, _, _, _ => none
  | n + 1, σ, k0, x1, x2 => if (σ k0 3) ≤ x2 then (some x1) else (gd (inb x2 3) ((f_X3_notesPrinted σ ((k0 + 2) + 1 + 6 * x2.toNatClampNeg)).bind fun r3 => f_X2_notesPrinted_4 n σ k0 (x1 + r3) (x2 + 1)))
def f_X2_notesPrinted (σ : Me) (k0 : Nat) : Option Int32 := f_X2_notesPrinted_4 1000 σ k0 0 0

def f_X3_sheetsRun_4  : Nat → Me → Nat → Int32 → Int32 → Option Int32
  | 0, _, _, _, _ => none
  | n + 1, σ, k0, x1, x2 => if (σ k0 1) ≤ x2 then (some x1) else (gd (inb x2 4) (f_X3_sheetsRun_4 n σ k0 (x1 + (σ ((k0 + 1) + 1 + x2.toNatClampNeg) 3)) (x2 + 1)))
def f_X3_sheetsRun (σ : Me) (k0 : Nat) : Option Int32 := f_X3_sheetsRun_4 1000 σ k0 0 0

def f_X2_sheetsRun_4  : Nat → Me → Nat → Int32 → Int32 → Option Int32
  | 0, _, _, _, _ => none
  | n + 1, σ, k0, x1, x2 => if (σ k0 3) ≤ x2 then (some x1) else (gd (inb x2 3) ((f_X3_sheetsRun σ ((k0 + 2) + 1 + 6 * x2.toNatClampNeg)).bind fun r3 => f_X2_sheetsRun_4 n σ k0 (x1 + r3) (x2 + 1)))
def f_X2_sheetsRun (σ : Me) (k0 : Nat) : Option Int32 := f_X2_sheetsRun_4 1000 σ k0 0 0

def f_X4_hasNumber (σ : Me) (k0 : Nat) (x1 : Int32) : Option Bool := if x1 < (σ k0 2) then (some false) else (if ((σ k0 2) + ((σ k0 0) * (σ k0 1))) ≤ x1 then (some false) else (some true))

def f_X3_pressOf_2  : Nat → Me → Nat → Int32 → Int32 → Option Int32
  | 0, _, _, _, _ => none
  | n + 1, σ, k0, x1, x2 => if (σ k0 1) ≤ x2 then (some (-4)) else (gd (inb x2 4) ((f_X4_hasNumber σ ((k0 + 1) + 1 + x2.toNatClampNeg) x1).bind fun r3 => if (bI r3) = 0 then (f_X3_pressOf_2 n σ k0 x1 (x2 + 1)) else (some x2)))
def f_X3_pressOf (σ : Me) (k0 : Nat) (x1 : Int32) : Option Int32 := f_X3_pressOf_2 1000 σ k0 x1 0

def f_X4_sheetOf (σ : Me) (k0 : Nat) (x1 : Int32) : Option Int32 := if 1 ≤ (σ k0 1) then (gd (decide (¬ (σ k0 1) = 0)) (some ((x1 - (σ k0 2)) - (x1 - (σ k0 2)) / (σ k0 1) * (σ k0 1)))) else (some (-4))

def f_X3_isPrinted (σ : Me) (k0 : Nat) (x1 : Int32) : Option Bool := (f_X3_pressOf σ k0 x1).bind fun r1 => (f_X3_shareAt σ k0 r1).bind fun r2 => oc r2 (some false) (fun k902 => gd (decide (kd k902 = 14)) ((f_X4_sheetOf σ k902 x1).bind fun r3 => if (σ k902 3) ≤ r3 then (some false) else (some true)))

def f_X3_isWhole_20  : Nat → Me → Nat → Int32 → Int32 → Option Bool
  | 0, _, _, _, _ => none
  | n + 1, σ, k0, x2, x3 => if x2 ≤ x3 then (some true) else ((f_X3_isPrinted σ k0 x3).bind fun r2 => if (bI r2) = 0 then (some false) else (f_X3_isWhole_20 n σ k0 x2 (x3 + 1)))
def f_X3_isWhole (σ : Me) (k0 : Nat) (x1 : Int32) : Option Bool := (f_J9_min_7cf53 ((10 * x1) + 10) (σ k0 4)).bind fun r4 => f_X3_isWhole_20 1000 σ k0 r4 (10 * x1)

def f_X3_packs (σ : Me) (k0 : Nat) : Option Int32 := some ((((σ k0 4) + 10) - 1) / 10)

def f_X3_wholePacks_4  : Nat → Me → Nat → Int32 → Int32 → Option Int32
  | 0, _, _, _, _ => none
  | n + 1, σ, k0, x1, x2 => (f_X3_packs σ k0).bind fun r1 => if r1 ≤ x2 then (some x1) else ((f_X3_isWhole σ k0 x2).bind fun r3 => if (bI r3) = 0 then (f_X3_wholePacks_4 n σ k0 x1 (x2 + 1)) else (f_X3_wholePacks_4 n σ k0 (x1 + 1) (x2 + 1)))
def f_X3_wholePacks (σ : Me) (k0 : Nat) : Option Int32 := f_X3_wholePacks_4 1000 σ k0 0 0

def f_X2_wholePacks_4  : Nat → Me → Nat → Int32 → Int32 → Option Int32
  | 0, _, _, _, _ => none
  | n + 1, σ, k0, x1, x2 => if (σ k0 3) ≤ x2 then (some x1) else (gd (inb x2 3) ((f_X3_wholePacks σ ((k0 + 2) + 1 + 6 * x2.toNatClampNeg)).bind fun r3 => f_X2_wholePacks_4 n σ k0 (x1 + r3) (x2 + 1)))
def f_X2_wholePacks (σ : Me) (k0 : Nat) : Option Int32 := f_X2_wholePacks_4 1000 σ k0 0 0

def f_X3_begin (σ : Me) (k0 : Nat) (x1 : Int32) (x2 : Int32) : Option Me := some (up (up (up (up σ k0 2 x1) k0 3 x2) k0 1 0) k0 4 0)

def f_X4_begin (σ : Me) (k0 : Nat) (x1 : Int32) (x2 : Int32) (x3 : Int32) : Option Me := some (up (up (up (up σ k0 0 x1) k0 1 x2) k0 2 x3) k0 3 0)

def f_X3_addShare (σ : Me) (k0 : Nat) (x1 : Int32) (x2 : Int32) : Option Me := if (σ k0 1) < 4 then (gd (inb (σ k0 1) 4) ((f_X4_begin σ ((k0 + 1) + 1 + (σ k0 1).toNatClampNeg) x1 x2 (σ k0 4)).bind fun s3 => some (up (up s3 k0 4 ((s3 k0 4) + (x1 * x2))) k0 1 (((up s3 k0 4 ((s3 k0 4) + (x1 * x2))) k0 1) + 1)))) else (some σ)

def f_X3_hasNumber (σ : Me) (k0 : Nat) (x1 : Int32) : Option Bool := (f_X7_isFromTo x1 0 ((σ k0 4) - 1)).bind fun r1 => some r1

def f_X4_sheetsLeft (σ : Me) (k0 : Nat) : Option Int32 := some ((σ k0 1) - (σ k0 3))

def f_X3_sheetsLeft_4  : Nat → Me → Nat → Int32 → Int32 → Option Int32
  | 0, _, _, _, _ => none
  | n + 1, σ, k0, x1, x2 => if (σ k0 1) ≤ x2 then (some x1) else (gd (inb x2 4) ((f_X4_sheetsLeft σ ((k0 + 1) + 1 + x2.toNatClampNeg)).bind fun r3 => f_X3_sheetsLeft_4 n σ k0 (x1 + r3) (x2 + 1)))
def f_X3_sheetsLeft (σ : Me) (k0 : Nat) : Option Int32 := f_X3_sheetsLeft_4 1000 σ k0 0 0

def f_X4_hasSheet (σ : Me) (k0 : Nat) (x1 : Int32) : Option Bool := (f_X7_isFromTo x1 0 ((σ k0 1) - 1)).bind fun r1 => some r1

def f_X4_numberAt (σ : Me) (k0 : Nat) (x1 : Int32) (x2 : Int32) : Option Int32 := some (((σ k0 2) + (x2 * (σ k0 1))) + x1)

def f_X4_placeOf (σ : Me) (k0 : Nat) (x1 : Int32) : Option Int32 := if 1 ≤ (σ k0 1) then (gd (decide (¬ (σ k0 1) = 0)) (some ((x1 - (σ k0 2)) / (σ k0 1)))) else (some (-4))
-- 12.stars
def f_X0_clear (σ : Me) : Option Me := some (up σ 6 2 0)

def f_X0_forgetOldest_2  : Nat → Me → Int32 → Option Me
  | 0, _, _ => none
  | n + 1, σ, x1 => if 6 ≤ x1 then (some (up σ 6 2 5)) else (gd (inb x1 6) (oc (rf (σ 7 x1.toNatClampNeg)) (gd (inb (x1 - 1) 6) (gd (inb x1 6) (gd (inb (x1 - 1) 6) (f_X0_forgetOldest_2 n (up (up σ 7 (x1 - 1).toNatClampNeg (-1)) 8 (x1 - 1).toNatClampNeg ((up σ 7 (x1 - 1).toNatClampNeg (-1)) 8 x1.toNatClampNeg)) (x1 + 1))))) (fun k93 => gd (decide (kd k93 = 14)) (gd (inb (x1 - 1) 6) (gd (inb x1 6) (gd (inb (x1 - 1) 6) (f_X0_forgetOldest_2 n (up (up σ 7 (x1 - 1).toNatClampNeg (nI k93)) 8 (x1 - 1).toNatClampNeg ((up σ 7 (x1 - 1).toNatClampNeg (nI k93)) 8 x1.toNatClampNeg)) (x1 + 1))))))))
def f_X0_forgetOldest (σ : Me) : Option Me := f_X0_forgetOldest_2 1000 σ 1

def f_X0_remember_n_13  (σ : Me) (x2 : Int32) : Option Me := gd (inb (σ 6 2) 6) (gd (inb ((up σ 7 (σ 6 2).toNatClampNeg (-1)) 6 2) 6) (some (up (up (up σ 7 (σ 6 2).toNatClampNeg (-1)) 8 ((up σ 7 (σ 6 2).toNatClampNeg (-1)) 6 2).toNatClampNeg x2) 6 2 (((up (up σ 7 (σ 6 2).toNatClampNeg (-1)) 8 ((up σ 7 (σ 6 2).toNatClampNeg (-1)) 6 2).toNatClampNeg x2) 6 2) + 1))))
def f_X0_remember_n (σ : Me) (x2 : Int32) : Option Me := if (σ 6 2) < 6 then (f_X0_remember_n_13 σ x2) else ((f_X0_forgetOldest σ).bind fun s4 => f_X0_remember_n_13 s4 x2)

def f_X0_remember_s_13  (σ : Me) (k1 : Nat) (x2 : Int32) : Option Me := gd (inb (σ 6 2) 6) (gd (inb ((up σ 7 (σ 6 2).toNatClampNeg (nI k1)) 6 2) 6) (some (up (up (up σ 7 (σ 6 2).toNatClampNeg (nI k1)) 8 ((up σ 7 (σ 6 2).toNatClampNeg (nI k1)) 6 2).toNatClampNeg x2) 6 2 (((up (up σ 7 (σ 6 2).toNatClampNeg (nI k1)) 8 ((up σ 7 (σ 6 2).toNatClampNeg (nI k1)) 6 2).toNatClampNeg x2) 6 2) + 1))))
def f_X0_remember_s (σ : Me) (k1 : Nat) (x2 : Int32) : Option Me := if (σ 6 2) < 6 then (f_X0_remember_s_13 σ k1 x2) else ((f_X0_forgetOldest σ).bind fun s4 => f_X0_remember_s_13 s4 k1 x2)

def f_X0_rememberRun (σ : Me) (k1 : Nat) (x2 : Int32) : Option Me := (f_X0_remember_s σ k1 x2).bind fun s1 => some s1

def f_X0_rememberSpoiled (σ : Me) (x1 : Int32) : Option Me := (f_X0_remember_n σ x1).bind fun s1 => some s1

def f_X0_latestShare (σ : Me) : Option (Option Nat) := if 1 ≤ (σ 6 2) then (gd (inb ((σ 6 2) - 1) 6) (oc (rf (σ 7 ((σ 6 2) - 1).toNatClampNeg)) (some none) (fun k93 => gd (decide (kd k93 = 14)) (some (some k93))))) else (some none)

def f_X0_latestAmount (σ : Me) : Option Int32 := if 1 ≤ (σ 6 2) then (gd (inb ((σ 6 2) - 1) 6) (some (σ 8 ((σ 6 2) - 1).toNatClampNeg))) else (some 0)

def f_X0_forgetLatest (σ : Me) : Option Me := (f_J9_max_7cf53 ((σ 6 2) - 1) 0).bind fun r1 => some (up σ 6 2 r1)

def f_X5_begin (σ : Me) (x1 : Int32) : Option Me := (f_J9_min_7cf53 x1 99).bind fun r1 => some (up (up σ 3 2 r1) 3 3 0)

def f_X5_left (σ : Me) : Option Int32 := some ((σ 3 2) - (σ 3 3))

def f_X5_standFor (σ : Me) (x1 : Int32) (x2 : Int32) : Option Me := if (σ 3 3) < (σ 3 2) then (gd (inb (σ 3 3) 99) (gd (inb ((up σ 4 (σ 3 3).toNatClampNeg x1) 3 3) 99) (some (up (up (up σ 4 (σ 3 3).toNatClampNeg x1) 5 ((up σ 4 (σ 3 3).toNatClampNeg x1) 3 3).toNatClampNeg x2) 3 3 (((up (up σ 4 (σ 3 3).toNatClampNeg x1) 5 ((up σ 4 (σ 3 3).toNatClampNeg x1) 3 3).toNatClampNeg x2) 3 3) + 1))))) else (some σ)

def f_X5_takeBack (σ : Me) (x1 : Int32) : Option Me := (f_J9_max_7cf53 ((σ 3 3) - x1) 0).bind fun r1 => some (up σ 3 3 r1)

def f_X5_seriesOf (σ : Me) (x1 : Int32) : Option Int32 := (f_X7_isFromTo x1 0 ((σ 3 3) - 1)).bind fun r1 => if (bI r1) = 0 then (some (-4)) else (gd (inb x1 99) (some (σ 4 x1.toNatClampNeg)))

def f_X5_numberOf (σ : Me) (x1 : Int32) : Option Int32 := (f_X7_isFromTo x1 0 ((σ 3 3) - 1)).bind fun r1 => if (bI r1) = 0 then (some (-4)) else (gd (inb x1 99) (some (σ 5 x1.toNatClampNeg)))

def f_X5_standingFor_2  : Nat → Me → Int32 → Int32 → Int32 → Option Int32
  | 0, _, _, _, _ => none
  | n + 1, σ, x1, x2, x3 => if (σ 3 3) ≤ x3 then (some (-4)) else (gd (inb x3 99) (if (σ 4 x3.toNatClampNeg) = x1 then (gd (inb x3 99) (if (σ 5 x3.toNatClampNeg) = x2 then (some x3) else (f_X5_standingFor_2 n σ x1 x2 (x3 + 1)))) else (f_X5_standingFor_2 n σ x1 x2 (x3 + 1))))
def f_X5_standingFor (σ : Me) (x1 : Int32) (x2 : Int32) : Option Int32 := f_X5_standingFor_2 1000 σ x1 x2 0

def f_X5_standsFor (σ : Me) (x1 : Int32) (x2 : Int32) : Option Bool := (f_X5_standingFor σ x1 x2).bind fun r1 => if r1 = (-4) then (some false) else (some true)

def f_X5_standingForSeries_4  : Nat → Me → Int32 → Int32 → Int32 → Option Int32
  | 0, _, _, _, _ => none
  | n + 1, σ, x1, x2, x3 => if (σ 3 3) ≤ x3 then (some x2) else (gd (inb x3 99) (if (σ 4 x3.toNatClampNeg) = x1 then (f_X5_standingForSeries_4 n σ x1 (x2 + 1) (x3 + 1)) else (f_X5_standingForSeries_4 n σ x1 x2 (x3 + 1))))
def f_X5_standingForSeries (σ : Me) (x1 : Int32) : Option Int32 := f_X5_standingForSeries_4 1000 σ x1 0 0
-- 13.text
def f_X6_append (σ : Me) (x1 : Int32) : Option (Me × Bool) := if (σ 1 1) < 200 then (gd (inb (σ 1 1) 200) (some (up (up σ 2 (σ 1 1).toNatClampNeg x1) 1 1 (((up σ 2 (σ 1 1).toNatClampNeg x1) 1 1) + 1), true))) else (some (σ, false))

def f_X6_clear (σ : Me) : Option Me := some (up σ 1 1 0)

def f_X6_readFigure (σ : Me) : Option (Me × Int32) := if (σ 1 1) ≤ (σ 1 2) then (some (σ, (-4))) else (gd (inb (σ 1 2) 200) (if (σ 2 (σ 1 2).toNatClampNeg) < 48 then (some (σ, (-4))) else (gd (inb (σ 1 2) 200) (if (σ 2 (σ 1 2).toNatClampNeg) ≤ 57 then (gd (inb (((up σ 1 2 ((σ 1 2) + 1)) 1 2) - 1) 200) (some (up σ 1 2 ((σ 1 2) + 1), ((up σ 1 2 ((σ 1 2) + 1)) 2 (((up σ 1 2 ((σ 1 2) + 1)) 1 2) - 1).toNatClampNeg) - 48))) else (some (σ, (-4)))))))

def f_X6_readNumber (σ : Me) : Option (Me × Int32) := (f_X6_readFigure σ).bind fun p1 => if p1.2 = (-4) then (some (p1.1, (-4))) else ((f_X6_readFigure p1.1).bind fun p3 => if p3.2 = (-4) then (some (p3.1, p1.2)) else (some (p3.1, (10 * p1.2) + p3.2)))

def f_X6_skip (σ : Me) (x1 : Int32) : Option (Me × Bool) := if (σ 1 1) ≤ (σ 1 2) then (some (σ, false)) else (gd (inb (σ 1 2) 200) (if (σ 2 (σ 1 2).toNatClampNeg) = x1 then (some (up σ 1 2 ((σ 1 2) + 1), true)) else (some (σ, false))))

def f_X6_readPress (σ : Me) (k1 : Nat) : Option (Me × Bool) := (f_X6_readNumber σ).bind fun p1 => (f_X7_isFromTo p1.2 1 8).bind fun r2 => if (bI r2) = 0 then (some (p1.1, false)) else ((f_X6_skip p1.1 59).bind fun p4 => if (bI p4.2) = 0 then (some (p4.1, false)) else ((f_X2_addPress p4.1 k1 p1.2).bind fun p6 => if (bI p6.2) = 0 then (some (p6.1, false)) else (some (p6.1, true))))

def f_X6_readLetter (σ : Me) : Option (Me × Int32) := if (σ 1 1) ≤ (σ 1 2) then (some (σ, (-4))) else (gd (inb (σ 1 2) 200) (if (σ 2 (σ 1 2).toNatClampNeg) < 97 then (some (σ, (-4))) else (gd (inb (σ 1 2) 200) (if (σ 2 (σ 1 2).toNatClampNeg) ≤ 122 then (gd (inb (((up σ 1 2 ((σ 1 2) + 1)) 1 2) - 1) 200) (some (up σ 1 2 ((σ 1 2) + 1), (((up σ 1 2 ((σ 1 2) + 1)) 2 (((up σ 1 2 ((σ 1 2) + 1)) 1 2) - 1).toNatClampNeg) - 97) + 1))) else (some (σ, (-4)))))))

def f_X6_readSeries_96 (K69 : Me → Nat → Nat → Int32 → Option (Me × Bool)) (σ : Me) (k1 : Nat) (k2 : Nat) (x5 : Int32) (t0 : Int32) : Option (Me × Bool) := (f_X7_isFromTo t0 0 40).bind fun r1 => if (bI r1) = 0 then (some (σ, false)) else (gd (inb x5 4) ((f_X3_addShare σ k2 (σ (k1 + 1) x5.toNatClampNeg) t0).bind fun s4 => K69 s4 k1 k2 (x5 + 1)))
def f_X6_readSeries_69  : Nat → Me → Nat → Nat → Int32 → Option (Me × Bool)
  | 0, _, _, _, _ => none
  | n + 1, σ, k1, k2, x5 => if (σ k1 2) ≤ x5 then ((f_X6_skip σ 59).bind fun p6 => if (bI p6.2) = 0 then (some (p6.1, false)) else ((f_X7_isFromTo (p6.1 k2 4) 1 999).bind fun r8 => if (bI r8) = 0 then (some (p6.1, false)) else ((f_X2_keepNextSeries p6.1 k1).bind fun s10 => some (s10, true)))) else ((f_X6_skip σ 44).bind fun p11 => if (bI p11.2) = 0 then (f_X6_readSeries_96 (f_X6_readSeries_69 n) p11.1 k1 k2 x5 (-4)) else ((f_X6_readNumber p11.1).bind fun p13 => f_X6_readSeries_96 (f_X6_readSeries_69 n) p13.1 k1 k2 x5 p13.2))
def f_X6_readSeries (σ : Me) (k1 : Nat) : Option (Me × Bool) := (f_X2_nextSeries σ k1).bind fun r14 => oc r14 ((f_X6_readLetter σ).bind fun p15 => some (p15.1, false)) (fun k914 => gd (decide (kd k914 = 12)) ((f_X6_readLetter σ).bind fun p16 => if p16.2 = (-4) then (some (p16.1, false)) else ((f_X2_seriesOfLetter p16.1 k1 p16.2).bind fun r18 => if r18 = (-4) then ((f_X6_skip p16.1 44).bind fun p20 => if (bI p20.2) = 0 then (some (p20.1, false)) else ((f_X6_readNumber p20.1).bind fun p22 => (f_X7_isFromTo p22.2 0 2).bind fun r23 => if (bI r23) = 0 then (some (p22.1, false)) else ((f_X3_begin p22.1 k914 p16.2 p22.2).bind fun s25 => f_X6_readSeries_69 1000 s25 k1 k914 0))) else (some (p16.1, false)))))

def f_X6_readStars (σ : Me) (k1 : Nat) : Option (Me × Bool) := (f_X6_readNumber σ).bind fun p1 => (f_X7_isFromTo p1.2 0 99).bind fun r2 => if (bI r2) = 0 then (some (p1.1, false)) else ((f_X6_skip p1.1 59).bind fun p4 => if (bI p4.2) = 0 then (some (p4.1, false)) else (some (up p4.1 k1 4 p1.2, true)))

def f_X6_readItem (σ : Me) (k1 : Nat) : Option (Me × Bool) := (f_X6_skip σ 112).bind fun p1 => if (bI p1.2) = 0 then ((f_X6_skip p1.1 115).bind fun p3 => if (bI p3.2) = 0 then ((f_X6_skip p3.1 122).bind fun p5 => if (bI p5.2) = 0 then (some (p5.1, false)) else ((f_X6_readStars p5.1 k1).bind fun p7 => if (bI p7.2) = 0 then (some (p7.1, false)) else (some (p7.1, true)))) else ((f_X6_readSeries p3.1 k1).bind fun p9 => some (p9.1, p9.2))) else ((f_X6_readPress p1.1 k1).bind fun p10 => some (p10.1, p10.2))

def f_X6_readInto_11  : Nat → Me → Nat → Int32 → Option (Me × Int32)
  | 0, _, _, _ => none
  | n + 1, σ, k1, x2 => if 200 ≤ x2 then (some (σ, (-4))) else (if (σ 1 1) ≤ (σ 1 2) then (some (σ, (-4))) else ((f_X6_readItem σ k1).bind fun p3 => if (bI p3.2) = 0 then (some (p3.1, σ 1 2)) else (f_X6_readInto_11 n p3.1 k1 (x2 + 1))))
def f_X6_readInto (σ : Me) (k1 : Nat) : Option (Me × Int32) := (f_X2_clear σ k1).bind fun s5 => f_X6_readInto_11 1000 (up s5 1 2 0) k1 0
-- 14.press
def f_X7_write (σ : Me) (x1 : Int32) : Option (Me × Int32) := (f_X7_isFromTo x1 32 126).bind fun r1 => if (bI r1) = 0 then (some (σ, (-1))) else ((f_X6_append σ x1).bind fun p3 => if (bI p3.2) = 0 then (some (p3.1, (-3))) else (some (p3.1, p3.1 1 1)))

def f_X7_wipe (σ : Me) : Option (Me × Int32) := (f_X6_clear σ).bind fun s1 => some (s1, σ 1 1)

def f_X7_fault (σ : Me) : Option (Me × Int32) := gd (decide (kd ((σ 0 4).toNatClampNeg) = 9)) ((f_X6_readInto σ ((σ 0 4).toNatClampNeg)).bind fun p2 => some (p2.1, p2.2))

def f_X7_layText (σ : Me) : Option (Me × Bool) := gd (decide (kd ((σ 0 4).toNatClampNeg) = 9)) ((f_X6_readInto σ ((σ 0 4).toNatClampNeg)).bind fun p2 => if p2.2 = (-4) then (gd (decide (kd ((p2.1 0 4).toNatClampNeg) = 9)) (if 1 ≤ (p2.1 ((p2.1 0 4).toNatClampNeg) 3) then (gd (decide (kd ((p2.1 0 3).toNatClampNeg) = 9)) (gd (decide (kd ((p2.1 0 4).toNatClampNeg) = 9)) (gd (decide (kd (((up (up p2.1 0 3 (nI ((p2.1 0 4).toNatClampNeg))) 0 4 (nI ((p2.1 0 3).toNatClampNeg))) 0 3).toNatClampNeg) = 9)) ((f_X5_begin (up (up p2.1 0 3 (nI ((p2.1 0 4).toNatClampNeg))) 0 4 (nI ((p2.1 0 3).toNatClampNeg))) ((up (up p2.1 0 3 (nI ((p2.1 0 4).toNatClampNeg))) 0 4 (nI ((p2.1 0 3).toNatClampNeg))) (((up (up p2.1 0 3 (nI ((p2.1 0 4).toNatClampNeg))) 0 4 (nI ((p2.1 0 3).toNatClampNeg))) 0 3).toNatClampNeg) 4)).bind fun s9 => (f_X0_clear s9).bind fun s10 => some (s10, true))))) else (some (p2.1, false)))) else (some (p2.1, false)))

def f_X7_lay (σ : Me) : Option (Me × Int32) := (f_X7_layText σ).bind fun p1 => if (bI p1.2) = 0 then (some (p1.1, (-2))) else (gd (decide (kd ((p1.1 0 3).toNatClampNeg) = 9)) (some (p1.1, p1.1 ((p1.1 0 3).toNatClampNeg) 3)))

def f_X7_run (σ : Me) (x1 : Int32) (x2 : Int32) (x3 : Int32) : Option (Me × Int32) := gd (decide (kd ((σ 0 3).toNatClampNeg) = 9)) ((f_X2_shareAt σ ((σ 0 3).toNatClampNeg) x1 x2).bind fun r2 => oc r2 (some (σ, (-1))) (fun k902 => gd (decide (kd k902 = 14)) ((f_X7_isFromTo x3 1 40).bind fun r3 => if (bI r3) = 0 then (some (σ, (-1))) else ((f_X4_sheetsLeft σ k902).bind fun r5 => if x3 ≤ r5 then ((f_X0_rememberRun (up σ k902 3 ((σ k902 3) + x3)) k902 x3).bind fun s7 => some (s7, x3 * (s7 k902 0))) else (some (σ, (-2)))))))

def f_X7_spoil (σ : Me) (x1 : Int32) (x2 : Int32) : Option (Me × Int32) := gd (decide (kd ((σ 0 3).toNatClampNeg) = 9)) ((f_X2_seriesAt σ ((σ 0 3).toNatClampNeg) x1).bind fun r2 => oc r2 (some (σ, (-1))) (fun k902 => gd (decide (kd k902 = 12)) ((f_X3_hasNumber σ k902 x2).bind fun r3 => if (bI r3) = 0 then (some (σ, (-1))) else ((f_X3_isPrinted σ k902 x2).bind fun r5 => if (bI r5) = 0 then (some (σ, (-2))) else ((f_X5_standsFor σ x1 x2).bind fun r7 => if (bI r7) = 0 then ((f_X5_left σ).bind fun r9 => if 1 ≤ r9 then ((f_X5_standFor σ x1 x2).bind fun s11 => (f_X0_rememberSpoiled s11 1).bind fun s12 => some (s12, (s12 3 3) - 1)) else (some (σ, (-3)))) else (some (σ, (-2))))))))

def f_X7_unspoiledOfSheet_6  : Nat → Me → Int32 → Nat → Int32 → Int32 → Int32 → Option Int32
  | 0, _, _, _, _, _, _ => none
  | n + 1, σ, x1, k2, x3, x4, x5 => if (σ k2 0) ≤ x5 then (some x4) else ((f_X4_numberAt σ k2 x3 x5).bind fun r2 => (f_X5_standsFor σ x1 r2).bind fun r3 => if (bI r3) = 0 then (f_X7_unspoiledOfSheet_6 n σ x1 k2 x3 (x4 + 1) (x5 + 1)) else (f_X7_unspoiledOfSheet_6 n σ x1 k2 x3 x4 (x5 + 1)))
def f_X7_unspoiledOfSheet (σ : Me) (x1 : Int32) (k2 : Nat) (x3 : Int32) : Option Int32 := f_X7_unspoiledOfSheet_6 1000 σ x1 k2 x3 0 0

def f_X7_spoilSheet_72  : Nat → Me → Int32 → Int32 → Nat → Int32 → Int32 → Option (Me × Int32)
  | 0, _, _, _, _, _, _ => none
  | n + 1, σ, x1, x3, k4, x5, x6 => if (σ k4 0) ≤ x6 then ((f_X0_rememberSpoiled σ x5).bind fun s2 => some (s2, x5)) else ((f_X4_numberAt σ k4 x3 x6).bind fun r3 => (f_X5_standsFor σ x1 r3).bind fun r4 => if (bI r4) = 0 then ((f_X5_standFor σ x1 r3).bind fun s6 => f_X7_spoilSheet_72 n s6 x1 x3 k4 x5 (x6 + 1)) else (f_X7_spoilSheet_72 n σ x1 x3 k4 x5 (x6 + 1)))
def f_X7_spoilSheet (σ : Me) (x1 : Int32) (x2 : Int32) (x3 : Int32) : Option (Me × Int32) := gd (decide (kd ((σ 0 3).toNatClampNeg) = 9)) ((f_X2_shareAt σ ((σ 0 3).toNatClampNeg) x1 x2).bind fun r8 => oc r8 (some (σ, (-1))) (fun k908 => gd (decide (kd k908 = 14)) ((f_X4_hasSheet σ k908 x3).bind fun r9 => if (bI r9) = 0 then (some (σ, (-1))) else ((f_X7_unspoiledOfSheet σ x1 k908 x3).bind fun r11 => if (σ k908 3) ≤ x3 then (some (σ, (-2))) else (if r11 = 0 then (some (σ, (-2))) else ((f_X5_left σ).bind fun r14 => if r11 ≤ r14 then (f_X7_spoilSheet_72 1000 σ x1 x3 k908 r11 0) else (some (σ, (-3)))))))))

def f_X7_undo_55  (σ : Me) : Option (Me × Int32) := (f_X0_forgetLatest σ).bind fun s1 => some (s1, s1 6 2)
def f_X7_undo (σ : Me) : Option (Me × Int32) := if 1 ≤ (σ 6 2) then ((f_X0_latestShare σ).bind fun r3 => oc r3 ((f_X0_latestAmount σ).bind fun r4 => (f_X5_takeBack σ r4).bind fun s5 => f_X7_undo_55 s5) (fun k903 => gd (decide (kd k903 = 14)) ((f_X0_latestAmount σ).bind fun r6 => f_X7_undo_55 (up σ k903 3 ((σ k903 3) - r6))))) else (some (σ, (-2)))

def f_X7_series (σ : Me) (x1 : Int32) (x2 : Int32) : Option Int32 := gd (decide (kd ((σ 0 3).toNatClampNeg) = 9)) ((f_X2_seriesAt σ ((σ 0 3).toNatClampNeg) x1).bind fun r2 => oc r2 (some (-1)) (fun k902 => gd (decide (kd k902 = 12)) (if x2 = 0 then (some (σ k902 2)) else (if x2 = 1 then (some (σ k902 3)) else (if x2 = 2 then (some (σ k902 4)) else (if x2 = 3 then ((f_X3_notesPrinted σ k902).bind fun r7 => some r7) else (if x2 = 4 then ((f_X5_standingForSeries σ x1).bind fun r9 => some r9) else (if x2 = 5 then ((f_X3_sheetsLeft σ k902).bind fun r11 => some r11) else (if x2 = 6 then ((f_X3_packs σ k902).bind fun r13 => some r13) else (if x2 = 7 then ((f_X3_wholePacks σ k902).bind fun r15 => some r15) else (some (-1))))))))))))

def f_X7_share (σ : Me) (x1 : Int32) (x2 : Int32) (x3 : Int32) : Option Int32 := gd (decide (kd ((σ 0 3).toNatClampNeg) = 9)) ((f_X2_shareAt σ ((σ 0 3).toNatClampNeg) x1 x2).bind fun r2 => oc r2 (some (-1)) (fun k902 => gd (decide (kd k902 = 14)) (if x3 = 0 then (some (σ k902 1)) else (if x3 = 1 then (some (σ k902 3)) else (if x3 = 2 then (some (σ k902 2)) else (if x3 = 3 then (some (σ k902 0)) else (some (-1))))))))

def f_X7_where (σ : Me) (x1 : Int32) (x2 : Int32) (x3 : Int32) : Option Int32 := gd (decide (kd ((σ 0 3).toNatClampNeg) = 9)) ((f_X2_seriesAt σ ((σ 0 3).toNatClampNeg) x1).bind fun r2 => oc r2 (some (-1)) (fun k902 => gd (decide (kd k902 = 12)) ((f_X3_pressOf σ k902 x2).bind fun r3 => (f_X3_shareAt σ k902 r3).bind fun r4 => oc r4 (some (-1)) (fun k904 => gd (decide (kd k904 = 14)) (if x3 = 0 then (some r3) else (if x3 = 1 then ((f_X4_sheetOf σ k904 x2).bind fun r7 => some r7) else (if x3 = 2 then ((f_X4_placeOf σ k904 x2).bind fun r9 => some r9) else (some (-1)))))))))

def f_X7_number (σ : Me) (x1 : Int32) (x2 : Int32) (x3 : Int32) (x4 : Int32) : Option Int32 := gd (decide (kd ((σ 0 3).toNatClampNeg) = 9)) ((f_X2_shareAt σ ((σ 0 3).toNatClampNeg) x1 x2).bind fun r2 => oc r2 (some (-1)) (fun k902 => gd (decide (kd k902 = 14)) ((f_X4_hasSheet σ k902 x3).bind fun r3 => if (bI r3) = 0 then (some (-1)) else ((f_X7_isFromTo x4 0 ((σ k902 0) - 1)).bind fun r5 => if (bI r5) = 0 then (some (-1)) else ((f_X4_numberAt σ k902 x3 x4).bind fun r7 => some r7)))))

def f_X7_check (σ : Me) (x1 : Int32) (x2 : Int32) : Option Int32 := gd (decide (kd ((σ 0 3).toNatClampNeg) = 9)) ((f_X2_seriesAt σ ((σ 0 3).toNatClampNeg) x1).bind fun r2 => oc r2 (some (-1)) (fun k902 => gd (decide (kd k902 = 12)) ((f_X7_isFromTo x2 0 999).bind fun r3 => if (bI r3) = 0 then (some (-1)) else ((f_X1_ofNumber (σ k902 3) (σ k902 2) x2).bind fun r5 => some r5))))

def f_X7_missed (σ : Me) (x1 : Int32) (x2 : Int32) (x3 : Int32) : Option Int32 := gd (decide (kd ((σ 0 3).toNatClampNeg) = 9)) ((f_X2_seriesAt σ ((σ 0 3).toNatClampNeg) x1).bind fun r2 => oc r2 (some (-1)) (fun k902 => gd (decide (kd k902 = 12)) ((f_X7_isFromTo x2 0 999).bind fun r3 => if (bI r3) = 0 then (some (-1)) else (if x3 = 0 then ((f_X1_missedFigures (σ k902 3) (σ k902 2) x2).bind fun r6 => some r6) else (if x3 = 1 then ((f_X1_missedSwaps (σ k902 3) (σ k902 2) x2).bind fun r8 => some r8) else (some (-1)))))))

def f_X7_note (σ : Me) (x1 : Int32) (x2 : Int32) : Option Int32 := gd (decide (kd ((σ 0 3).toNatClampNeg) = 9)) ((f_X2_seriesAt σ ((σ 0 3).toNatClampNeg) x1).bind fun r2 => oc r2 (some (-1)) (fun k902 => gd (decide (kd k902 = 12)) ((f_X3_hasNumber σ k902 x2).bind fun r3 => if (bI r3) = 0 then (some (-1)) else ((f_X3_isPrinted σ k902 x2).bind fun r5 => if (bI r5) = 0 then (some 0) else ((f_X5_standsFor σ x1 x2).bind fun r7 => if (bI r7) = 0 then (some 1) else (some 2))))))

def f_X7_star (σ : Me) (x1 : Int32) (x2 : Int32) : Option Int32 := (f_X7_isFromTo x1 0 ((σ 3 2) - 1)).bind fun r1 => if (bI r1) = 0 then (some (-1)) else (if x2 = 0 then ((f_X5_seriesOf σ x1).bind fun r4 => some r4) else (if x2 = 1 then ((f_X5_numberOf σ x1).bind fun r6 => some r6) else (if x2 = 2 then ((f_X1_ofStar x1).bind fun r8 => some r8) else (some (-1)))))

def f_X7_starOf (σ : Me) (x1 : Int32) (x2 : Int32) : Option Int32 := gd (decide (kd ((σ 0 3).toNatClampNeg) = 9)) ((f_X2_seriesAt σ ((σ 0 3).toNatClampNeg) x1).bind fun r2 => oc r2 (some (-1)) (fun k902 => gd (decide (kd k902 = 12)) ((f_X3_hasNumber σ k902 x2).bind fun r3 => if (bI r3) = 0 then (some (-1)) else ((f_X5_standingFor σ x1 x2).bind fun r5 => some r5))))

def f_X7_judgeNote (σ : Me) (x1 : Int32) (x2 : Int32) (x3 : Int32) : Option Int32 := gd (decide (kd ((σ 0 3).toNatClampNeg) = 9)) ((f_X2_seriesOfLetter σ ((σ 0 3).toNatClampNeg) x1).bind fun r2 => gd (decide (kd ((σ 0 3).toNatClampNeg) = 9)) ((f_X2_seriesAt σ ((σ 0 3).toNatClampNeg) r2).bind fun r4 => oc r4 (some 1) (fun k904 => gd (decide (kd k904 = 12)) ((f_X3_hasNumber σ k904 x2).bind fun r5 => if (bI r5) = 0 then (some 2) else ((f_X1_ofNumber (σ k904 3) (σ k904 2) x2).bind fun r7 => if x3 = r7 then ((f_X3_isPrinted σ k904 x2).bind fun r9 => if (bI r9) = 0 then (some 4) else ((f_X5_standsFor σ r2 x2).bind fun r11 => if (bI r11) = 0 then (some 0) else (some 5))) else (some 3))))))

def f_X7_judgeStar (σ : Me) (x1 : Int32) (x2 : Int32) : Option Int32 := if x1 < (σ 3 2) then ((f_X1_ofStar x1).bind fun r2 => if x2 = r2 then (if x1 < (σ 3 3) then (some 0) else (some 4)) else (some 3)) else (some 2)

def f_X7_judge (σ : Me) (x1 : Int32) (x2 : Int32) (x3 : Int32) : Option Int32 := (f_X7_isFromTo x1 0 26).bind fun r1 => if (bI r1) = 0 then (some (-1)) else ((f_X7_isFromTo x2 0 999).bind fun r3 => if (bI r3) = 0 then (some (-1)) else ((f_X7_isFromTo x3 0 99).bind fun r5 => if (bI r5) = 0 then (some (-1)) else (if x1 = 0 then ((f_X7_judgeStar σ x2 x3).bind fun r9 => some r9) else ((f_X7_judgeNote σ x1 x2 x3).bind fun r8 => some r8))))

def f_X7_pack (σ : Me) (x1 : Int32) (x2 : Int32) (x3 : Int32) : Option Int32 := gd (decide (kd ((σ 0 3).toNatClampNeg) = 9)) ((f_X2_seriesAt σ ((σ 0 3).toNatClampNeg) x1).bind fun r2 => oc r2 (some (-1)) (fun k902 => gd (decide (kd k902 = 12)) ((f_X3_packs σ k902).bind fun r3 => (f_X7_isFromTo x2 0 (r3 - 1)).bind fun r4 => if (bI r4) = 0 then (some (-1)) else ((f_X7_isFromTo x3 0 9).bind fun r6 => if (bI r6) = 0 then (some (-1)) else ((f_X3_isWhole σ k902 x2).bind fun r8 => if (bI r8) = 0 then (some (-2)) else ((f_X3_hasNumber σ k902 ((10 * x2) + x3)).bind fun r10 => if (bI r10) = 0 then (some (-4)) else ((f_X5_standingFor σ x1 ((10 * x2) + x3)).bind fun r12 => if r12 = (-4) then (some ((10 * x2) + x3)) else (some (1000 + r12)))))))))

def f_X7_count (σ : Me) (x1 : Int32) : Option Int32 := if x1 = 0 then (gd (decide (kd ((σ 0 3).toNatClampNeg) = 9)) (some (σ ((σ 0 3).toNatClampNeg) 2))) else (if x1 = 1 then (gd (decide (kd ((σ 0 3).toNatClampNeg) = 9)) (some (σ ((σ 0 3).toNatClampNeg) 3))) else (if x1 = 2 then (some (σ 3 2)) else (if x1 = 3 then (some (σ 3 3)) else (if x1 = 4 then (gd (decide (kd ((σ 0 3).toNatClampNeg) = 9)) ((f_X2_notesPrinted σ ((σ 0 3).toNatClampNeg)).bind fun r9 => some r9)) else (if x1 = 5 then (some (σ 3 3)) else (if x1 = 6 then (gd (decide (kd ((σ 0 3).toNatClampNeg) = 9)) ((f_X2_sheetsRun σ ((σ 0 3).toNatClampNeg)).bind fun r13 => some r13)) else (if x1 = 7 then (gd (decide (kd ((σ 0 3).toNatClampNeg) = 9)) ((f_X2_wholePacks σ ((σ 0 3).toNatClampNeg)).bind fun r16 => some r16)) else (if x1 = 8 then (some (σ 6 2)) else (if x1 = 9 then (some (σ 1 1)) else (some (-1)))))))))))
-- 15.model
def f_X8_adds (σ : Me) (x1 : Int32) (x2 : Int32) (x3 : Int32) (x4 : Int32) : Option Me := gd (inb (4 + (6 * (σ 2 23))) 25) (gd (inb ((4 + (6 * (σ 2 23))) + 1) 25) (gd (inb ((4 + (6 * (σ 2 23))) + 2) 25) (gd (inb ((4 + (6 * (σ 2 23))) + 3) 25) (some (up (up (up (up (up σ 2 (4 + (6 * (σ 2 23))).toNatClampNeg x1) 2 ((4 + (6 * (σ 2 23))) + 1).toNatClampNeg x2) 2 ((4 + (6 * (σ 2 23))) + 2).toNatClampNeg x3) 2 ((4 + (6 * (σ 2 23))) + 3).toNatClampNeg x4) 2 23 (((up (up (up (up σ 2 (4 + (6 * (σ 2 23))).toNatClampNeg x1) 2 ((4 + (6 * (σ 2 23))) + 1).toNatClampNeg x2) 2 ((4 + (6 * (σ 2 23))) + 2).toNatClampNeg x3) 2 ((4 + (6 * (σ 2 23))) + 3).toNatClampNeg x4) 2 23) + 1))))))

def f_X8_in (x0 : Int64) (x2 : Int64) (x4 : Int64) : Option Bool := if (lg_cmp x0 x2) < 0 then (some false) else (if 0 < (lg_cmp x0 x4) then (some false) else (some true))

def f_X8_write (σ : Me) (x1 : Int32) : Option (Me × Int32) := (f_X8_in x1.toInt64 32 126).bind fun r1 => if (bI r1) = 0 then (some (σ, (-1))) else (if (σ 0 0) = 200 then (some (σ, (-3))) else (gd (inb (σ 0 0) 200) (some (up (up σ 1 (σ 0 0).toNatClampNeg x1) 0 0 (((up σ 1 (σ 0 0).toNatClampNeg x1) 0 0) + 1), (up (up σ 1 (σ 0 0).toNatClampNeg x1) 0 0 (((up σ 1 (σ 0 0).toNatClampNeg x1) 0 0) + 1)) 0 0))))

def f_X8_wipe (σ : Me) : Option (Me × Int32) := some (up σ 0 0 0, σ 0 0)

def f_X8_byteAt (σ : Me) (x1 : Int32) : Option Int32 := if (σ 0 0) ≤ x1 then (some 0) else (gd (inb x1 200) (some (σ 1 x1.toNatClampNeg)))

def f_X8_gone (σ : Me) (x1 : Int32) : Option (Me × Bool) := (f_X8_byteAt σ (σ 0 2)).bind fun r1 => if r1 = x1 then (some (up σ 0 2 ((σ 0 2) + 1), true)) else (some (up σ 0 2 ((σ 0 2) + 1), false))

def f_X8_number2_68  (σ : Me) (x1 : Int32) (x2 : Int32) (x3 : Int32) (x4 : Int32) (x5 : Int32) : Option (Me × Bool) := gd (inb x1 25) (if x5 ≤ 0 then (some (up σ 3 x1.toNatClampNeg x4, false)) else ((f_X8_in x4.toInt64 x2.toInt64 x3.toInt64).bind fun r3 => if (bI r3) = 0 then (some (up σ 3 x1.toNatClampNeg x4, false)) else (some (up σ 3 x1.toNatClampNeg x4, true))))
def f_X8_number2_6  : Nat → Me → Int32 → Int32 → Int32 → Int32 → Int32 → Option (Me × Bool)
  | 0, _, _, _, _, _, _ => none
  | n + 1, σ, x1, x2, x3, x4, x5 => if 2 ≤ x5 then (f_X8_number2_68 σ x1 x2 x3 x4 x5) else ((f_X8_byteAt σ (σ 0 2)).bind fun r6 => (f_X8_in r6.toInt64 48 57).bind fun r7 => if (bI r7) = 0 then (f_X8_number2_68 σ x1 x2 x3 x4 x5) else ((f_X8_byteAt σ (σ 0 2)).bind fun r9 => f_X8_number2_6 n (up σ 0 2 ((σ 0 2) + 1)) x1 x2 x3 (((10 * x4) + r9) - 48) (x5 + 1)))
def f_X8_number2 (σ : Me) (x1 : Int32) (x2 : Int32) (x3 : Int32) : Option (Me × Bool) := f_X8_number2_6 1000 σ x1 x2 x3 0 0

def f_X8_whole_2_4  : Nat → Me → Int32 → Int32 → Int32 → Option Int32
  | 0, _, _, _, _ => none
  | n + 1, σ, x1, x2, x3 => if (σ 2 22) ≤ x3 then (some x2) else (gd (inb x3 25) (gd (inb (((4 + (6 * x1)) + 2) + x3) 25) (f_X8_whole_2_4 n σ x1 (x2 + ((σ 2 x3.toNatClampNeg) * (σ 2 (((4 + (6 * x1)) + 2) + x3).toNatClampNeg))) (x3 + 1))))
def f_X8_whole_2 (σ : Me) (x1 : Int32) : Option Int32 := f_X8_whole_2_4 1000 σ x1 0 0

def f_X8_whole_3_4  : Nat → Me → Int32 → Int32 → Int32 → Option Int32
  | 0, _, _, _, _ => none
  | n + 1, σ, x1, x2, x3 => if (σ 3 22) ≤ x3 then (some x2) else (gd (inb x3 25) (gd (inb (((4 + (6 * x1)) + 2) + x3) 25) (f_X8_whole_3_4 n σ x1 (x2 + ((σ 3 x3.toNatClampNeg) * (σ 3 (((4 + (6 * x1)) + 2) + x3).toNatClampNeg))) (x3 + 1))))
def f_X8_whole_3 (σ : Me) (x1 : Int32) : Option Int32 := f_X8_whole_3_4 1000 σ x1 0 0

def f_X8_seriesItem_188  (σ : Me) (x1 : Int32) (x3 : Int32) : Option (Me × Bool) := if x3 = 0 then (some (up σ 3 23 ((σ 3 23) + 1), false)) else ((f_X8_whole_3 (up σ 3 23 ((σ 3 23) + 1)) x1).bind fun r4 => (f_X8_in r4.toInt64 1 999).bind fun r5 => if (bI r5) = 0 then (some (up σ 3 23 ((σ 3 23) + 1), false)) else (some (up σ 3 23 ((σ 3 23) + 1), true)))
def f_X8_seriesItem_135  : Nat → Me → Int32 → Int32 → Int32 → Int32 → Option (Me × Bool)
  | 0, _, _, _, _, _ => none
  | n + 1, σ, x1, x2, x3, x4 => if (σ 3 22) ≤ x4 then (f_X8_seriesItem_188 σ x1 x3) else (if x3 = 0 then (f_X8_seriesItem_188 σ x1 x3) else ((f_X8_gone σ 44).bind fun p10 => if (bI p10.2) = 0 then (f_X8_seriesItem_135 n p10.1 x1 x2 0 (x4 + 1)) else ((f_X8_number2 p10.1 ((x2 + 2) + x4) 0 40).bind fun p12 => if (bI p12.2) = 0 then (f_X8_seriesItem_135 n p12.1 x1 x2 0 (x4 + 1)) else (f_X8_seriesItem_135 n p12.1 x1 x2 1 (x4 + 1)))))
def f_X8_seriesItem_72  : Nat → Me → Int32 → Int32 → Int32 → Option (Me × Bool)
  | 0, _, _, _, _ => none
  | n + 1, σ, x1, x2, x3 => if x1 ≤ x3 then ((f_X8_gone σ 44).bind fun p15 => if (bI p15.2) = 0 then (f_X8_seriesItem_135 1000 p15.1 x1 x2 0 0) else ((f_X8_number2 p15.1 (x2 + 1) 0 2).bind fun p17 => if (bI p17.2) = 0 then (f_X8_seriesItem_135 1000 p17.1 x1 x2 0 0) else (f_X8_seriesItem_135 1000 p17.1 x1 x2 1 0))) else (gd (inb (4 + (6 * x3)) 25) (gd (inb x2 25) (if (σ 3 (4 + (6 * x3)).toNatClampNeg) = (σ 3 x2.toNatClampNeg) then (some (σ, false)) else (f_X8_seriesItem_72 n σ x1 x2 (x3 + 1)))))
def f_X8_seriesItem (σ : Me) : Option (Me × Bool) := if (σ 3 23) = 3 then (some (σ, false)) else ((f_X8_byteAt σ (σ 0 2)).bind fun r24 => (f_X8_in r24.toInt64 97 122).bind fun r25 => if (bI r25) = 0 then (some (σ, false)) else ((f_X8_byteAt σ (σ 0 2)).bind fun r27 => gd (inb (4 + (6 * (σ 3 23))) 25) (f_X8_seriesItem_72 1000 (up (up σ 3 (4 + (6 * (σ 3 23))).toNatClampNeg (r27 - 96)) 0 2 (((up σ 3 (4 + (6 * (σ 3 23))).toNatClampNeg (r27 - 96)) 0 2) + 1)) (σ 3 23) (4 + (6 * (σ 3 23))) 0)))

def f_X8_item (σ : Me) (x1 : Int32) : Option (Me × Bool) := if x1 = 112 then (if (σ 3 22) = 4 then (some (σ, false)) else (if (σ 3 23) ≤ 0 then ((f_X8_number2 (up σ 3 22 ((σ 3 22) + 1)) (((up σ 3 22 ((σ 3 22) + 1)) 3 22) - 1) 1 8).bind fun p9 => some (p9.1, p9.2)) else (some (σ, false)))) else (if x1 = 115 then ((f_X8_seriesItem σ).bind fun p11 => some (p11.1, p11.2)) else (if x1 = 122 then ((f_X8_number2 σ 24 0 99).bind fun p13 => some (p13.1, p13.2)) else (some (σ, false))))

def f_X8_fault_35  : Nat → Me → Option (Me × Int32)
  | 0, _ => none
  | n + 1, σ => if (σ 0 0) ≤ (σ 0 2) then (some (σ, (-4))) else (gd (inb (σ 0 2) 200) ((f_X8_item (up σ 0 2 ((σ 0 2) + 1)) ((up σ 0 2 ((σ 0 2) + 1)) 1 (σ 0 2).toNatClampNeg)).bind fun p3 => if (bI p3.2) = 0 then (some (p3.1, σ 0 2)) else ((f_X8_gone p3.1 59).bind fun p5 => if (bI p5.2) = 0 then (some (p5.1, σ 0 2)) else (f_X8_fault_35 n p5.1))))
def f_X8_fault_2  : Nat → Me → Int32 → Option (Me × Int32)
  | 0, _, _ => none
  | n + 1, σ, x1 => if 25 ≤ x1 then (f_X8_fault_35 1000 (up (up σ 3 24 20) 0 2 0)) else (gd (inb x1 25) (f_X8_fault_2 n (up σ 3 x1.toNatClampNeg 0) (x1 + 1)))
def f_X8_fault (σ : Me) : Option (Me × Int32) := f_X8_fault_2 1000 σ 0

def f_X8_lay_50  : Nat → Me → Int32 → Option (Me × Int32)
  | 0, _, _ => none
  | n + 1, σ, x1 => if 112 ≤ x1 then (some (up σ 0 7 0, (up σ 0 7 0) 2 23)) else (gd (inb x1 112) (f_X8_lay_50 n (up σ 4 x1.toNatClampNeg 0) (x1 + 1)))
def f_X8_lay_24  : Nat → Me → Int32 → Option (Me × Int32)
  | 0, _, _ => none
  | n + 1, σ, x1 => if 25 ≤ x1 then (f_X8_lay_50 1000 σ 0) else (gd (inb x1 25) (gd (inb x1 25) (f_X8_lay_24 n (up σ 2 x1.toNatClampNeg (σ 3 x1.toNatClampNeg)) (x1 + 1))))
def f_X8_lay (σ : Me) : Option (Me × Int32) := (f_X8_fault σ).bind fun p7 => if p7.2 = (-4) then (if (p7.1 3 23) = 0 then (some (p7.1, (-2))) else (f_X8_lay_24 1000 p7.1 0)) else (some (p7.1, (-2)))

def f_X8_isSeries (σ : Me) (x1 : Int32) : Option Bool := (f_X8_in x1.toInt64 0 (((σ 2 23) - 1).toInt64)).bind fun r2 => some r2

def f_X8_isPress (σ : Me) (x1 : Int32) : Option Bool := (f_X8_in x1.toInt64 0 (((σ 2 22) - 1).toInt64)).bind fun r2 => some r2

def f_X8_sheets (σ : Me) (x1 : Int32) (x2 : Int32) : Option Int32 := gd (inb (((4 + (6 * x1)) + 2) + x2) 25) (some (σ 2 (((4 + (6 * x1)) + 2) + x2).toNatClampNeg))

def f_X8_isNumber (σ : Me) (x1 : Int32) (x2 : Int32) : Option Bool := (f_X8_isSeries σ x1).bind fun r1 => if (bI r1) = 0 then (some false) else ((f_X8_whole_2 σ x1).bind fun r3 => (f_X8_in x2.toInt64 0 ((r3 - 1).toInt64)).bind fun r4 => if (bI r4) = 0 then (some false) else (some true))

def f_X8_first_5  : Nat → Me → Int32 → Int32 → Int32 → Int32 → Option Int32
  | 0, _, _, _, _, _ => none
  | n + 1, σ, x1, x2, x3, x4 => if x2 ≤ x4 then (some x3) else (gd (inb x4 25) ((f_X8_sheets σ x1 x4).bind fun r3 => f_X8_first_5 n σ x1 x2 (x3 + ((σ 2 x4.toNatClampNeg) * r3)) (x4 + 1)))
def f_X8_first (σ : Me) (x1 : Int32) (x2 : Int32) : Option Int32 := f_X8_first_5 1000 σ x1 x2 0 0

def f_X8_pressOf_2  : Nat → Me → Int32 → Int32 → Int32 → Option Int32
  | 0, _, _, _, _ => none
  | n + 1, σ, x1, x2, x3 => (f_X8_first σ x1 (x3 + 1)).bind fun r1 => if x2 < r1 then (some x3) else (f_X8_pressOf_2 n σ x1 x2 (x3 + 1))
def f_X8_pressOf (σ : Me) (x1 : Int32) (x2 : Int32) : Option Int32 := f_X8_pressOf_2 1000 σ x1 x2 0

def f_X8_sheetOf (σ : Me) (x1 : Int32) (x2 : Int32) : Option Int32 := (f_X8_pressOf σ x1 x2).bind fun r1 => (f_X8_first σ x1 r1).bind fun r2 => (f_X8_sheets σ x1 r1).bind fun r3 => gd (decide (¬ r3 = 0)) (some ((x2 - r2) - (x2 - r2) / r3 * r3))

def f_X8_isPrinted (σ : Me) (x1 : Int32) (x2 : Int32) : Option Bool := (f_X8_sheetOf σ x1 x2).bind fun r1 => (f_X8_pressOf σ x1 x2).bind fun r2 => gd (inb ((4 * x1) + r2) 112) (if (σ 4 ((4 * x1) + r2).toNatClampNeg) ≤ r1 then (some false) else (some true))

def f_X8_starAt_2  : Nat → Me → Int32 → Int32 → Int32 → Option Int32
  | 0, _, _, _, _ => none
  | n + 1, σ, x1, x2, x3 => if (σ 4 111) ≤ x3 then (some (-4)) else (gd (inb (12 + x3) 112) (if (σ 4 (12 + x3).toNatClampNeg) = ((1000 * x1) + x2) then (some x3) else (f_X8_starAt_2 n σ x1 x2 (x3 + 1))))
def f_X8_starAt (σ : Me) (x1 : Int32) (x2 : Int32) : Option Int32 := f_X8_starAt_2 1000 σ x1 x2 0

def f_X8_turned (x0 : Int32) : Option Int32 := if x0 = 0 then (some 1) else (if x0 = 1 then (some 5) else (if x0 = 2 then (some 7) else (if x0 = 3 then (some 6) else (if x0 = 4 then (some 2) else (if x0 = 5 then (some 8) else (if x0 = 6 then (some 3) else (if x0 = 7 then (some 0) else (if x0 = 8 then (some 9) else (some 4)))))))))

def f_X8_make_20  (x0 : Int32) (x1 : Int32) (t0 : Int32) : Option Int32 := if x0 ≤ 4 then (if x1 ≤ 4 then (if (0 : Int32) = 0 then (some t0) else (some (5 + t0))) else (if (0 : Int32) = 1 then (some t0) else (some (5 + t0)))) else (if x1 ≤ 4 then (if (1 : Int32) = 0 then (some t0) else (some (5 + t0))) else (if (1 : Int32) = 1 then (some t0) else (some (5 + t0))))
def f_X8_make (x0 : Int32) (x1 : Int32) : Option Int32 := if x0 ≤ 4 then (f_X8_make_20 x0 x1 ((x0 + x1) - (x0 + x1) / 5 * 5)) else (f_X8_make_20 x0 x1 (((x0 - x1) + 5) - ((x0 - x1) + 5) / 5 * 5))

def f_X8_checkOf_124  : Nat → Int32 → Int32 → Option Int32
  | 0, _, _ => none
  | n + 1, x6, x7 => (f_X8_make x6 x7).bind fun r1 => if r1 = 0 then (some x7) else (f_X8_checkOf_124 n x6 (x7 + 1))
def f_X8_checkOf (x0 : Int32) (x1 : Int32) (x2 : Int32) : Option Int32 := if x1 = 0 then (some ((9 - ((((x0 + (x2 / 100)) + ((x2 / 10) - (x2 / 10) / 10 * 10)) + (x2 - x2 / 10 * 10)) - (((x0 + (x2 / 100)) + ((x2 / 10) - (x2 / 10) / 10 * 10)) + (x2 - x2 / 10 * 10)) / 9 * 9)) - (9 - ((((x0 + (x2 / 100)) + ((x2 / 10) - (x2 / 10) / 10 * 10)) + (x2 - x2 / 10 * 10)) - (((x0 + (x2 / 100)) + ((x2 / 10) - (x2 / 10) / 10 * 10)) + (x2 - x2 / 10 * 10)) / 9 * 9)) / 9 * 9)) else (if x1 = 1 then (some ((11 - (((((5 * x0) + (4 * (x2 / 100))) + (3 * ((x2 / 10) - (x2 / 10) / 10 * 10))) + (2 * (x2 - x2 / 10 * 10))) - ((((5 * x0) + (4 * (x2 / 100))) + (3 * ((x2 / 10) - (x2 / 10) / 10 * 10))) + (2 * (x2 - x2 / 10 * 10))) / 11 * 11)) - (11 - (((((5 * x0) + (4 * (x2 / 100))) + (3 * ((x2 / 10) - (x2 / 10) / 10 * 10))) + (2 * (x2 - x2 / 10 * 10))) - ((((5 * x0) + (4 * (x2 / 100))) + (3 * ((x2 / 10) - (x2 / 10) / 10 * 10))) + (2 * (x2 - x2 / 10 * 10))) / 11 * 11)) / 11 * 11)) else ((f_X8_turned (x2 / 100)).bind fun r5 => (f_X8_make (x0 - x0 / 10 * 10) r5).bind fun r6 => (f_X8_turned ((x2 / 10) - (x2 / 10) / 10 * 10)).bind fun r7 => (f_X8_turned r7).bind fun r8 => (f_X8_make r6 r8).bind fun r9 => (f_X8_turned (x2 - x2 / 10 * 10)).bind fun r10 => (f_X8_turned r10).bind fun r11 => (f_X8_turned r11).bind fun r12 => (f_X8_make r9 r12).bind fun r13 => f_X8_checkOf_124 1000 r13 0))

def f_X8_checkIn (σ : Me) (x1 : Int32) (x2 : Int32) : Option Int32 := gd (inb (4 + (6 * x1)) 25) (gd (inb ((4 + (6 * x1)) + 1) 25) ((f_X8_checkOf (σ 2 (4 + (6 * x1)).toNatClampNeg) (σ 2 ((4 + (6 * x1)) + 1).toNatClampNeg) x2).bind fun r3 => some r3))

def f_X8_check (σ : Me) (x1 : Int32) (x2 : Int32) : Option Int32 := (f_X8_isSeries σ x1).bind fun r1 => if (bI r1) = 0 then (some (-1)) else ((f_X8_in x2.toInt64 0 999).bind fun r3 => if (bI r3) = 0 then (some (-1)) else ((f_X8_checkIn σ x1 x2).bind fun r5 => some r5))

def f_X8_missed_168 (K157 : Me → Int32 → Int32 → Int32 → Int32 → Int32 → Option Int32) : Nat → Me → Int32 → Int32 → Int32 → Int32 → Int32 → Int32 → Option Int32
  | 0, _, _, _, _, _, _, _ => none
  | n + 1, σ, x1, x2, x4, x5, x6, x7 => if 10 ≤ x7 then (K157 σ x1 x2 x4 x5 (x6 * 10)) else (gd (decide (¬ x6 = 0)) (if (x2 + ((x7 - ((x2 / x6) - (x2 / x6) / 10 * 10)) * x6)) = x2 then (f_X8_missed_168 K157 n σ x1 x2 x4 (x5 + 0) x6 (x7 + 1)) else ((f_X8_checkIn σ x1 (x2 + ((x7 - ((x2 / x6) - (x2 / x6) / 10 * 10)) * x6))).bind fun r4 => if r4 = x4 then (f_X8_missed_168 K157 n σ x1 x2 x4 (x5 + 1) x6 (x7 + 1)) else (f_X8_missed_168 K157 n σ x1 x2 x4 (x5 + 0) x6 (x7 + 1)))))
def f_X8_missed_157  : Nat → Me → Int32 → Int32 → Int32 → Int32 → Int32 → Option Int32
  | 0, _, _, _, _, _, _ => none
  | n + 1, σ, x1, x2, x4, x5, x6 => if 1000 ≤ x6 then (some x5) else (f_X8_missed_168 (f_X8_missed_157 n) 1000 σ x1 x2 x4 x5 x6 0)
def f_X8_missed_107  (σ : Me) (x1 : Int32) (x4 : Int32) (x6 : Int32) (x7 : Int32) (x8 : Int32) (t0 : Int32) (t1 : Int32) : Option Int32 := if x7 = x8 then (some ((t1 + t0) + 0)) else ((f_X8_checkIn σ x1 (((100 * x6) + (10 * x8)) + x7)).bind fun r8 => if r8 = x4 then (some ((t1 + t0) + 1)) else (some ((t1 + t0) + 0)))
def f_X8_missed_106  (σ : Me) (x1 : Int32) (x4 : Int32) (x6 : Int32) (x7 : Int32) (x8 : Int32) (t0 : Int32) : Option Int32 := f_X8_missed_107 σ x1 x4 x6 x7 x8 0 t0
def f_X8_missed (σ : Me) (x1 : Int32) (x2 : Int32) (x3 : Int32) : Option Int32 := (f_X8_isSeries σ x1).bind fun r10 => if (bI r10) = 0 then (some (-1)) else ((f_X8_in x2.toInt64 0 999).bind fun r12 => if (bI r12) = 0 then (some (-1)) else ((f_X8_in x3.toInt64 0 1).bind fun r14 => if (bI r14) = 0 then (some (-1)) else ((f_X8_checkIn σ x1 x2).bind fun r16 => if x3 = 1 then (if (x2 / 100) = ((x2 / 10) - (x2 / 10) / 10 * 10) then (f_X8_missed_106 σ x1 r16 (x2 / 100) ((x2 / 10) - (x2 / 10) / 10 * 10) (x2 - x2 / 10 * 10) 0) else ((f_X8_checkIn σ x1 (((100 * ((x2 / 10) - (x2 / 10) / 10 * 10)) + (10 * (x2 / 100))) + (x2 - x2 / 10 * 10))).bind fun r19 => if r19 = r16 then (f_X8_missed_107 σ x1 r16 (x2 / 100) ((x2 / 10) - (x2 / 10) / 10 * 10) (x2 - x2 / 10 * 10) 1 0) else (f_X8_missed_106 σ x1 r16 (x2 / 100) ((x2 / 10) - (x2 / 10) / 10 * 10) (x2 - x2 / 10 * 10) 0))) else (f_X8_missed_157 1000 σ x1 x2 r16 0 1))))

def f_X8_note1_51  : Nat → Me → Int32 → Option Me
  | 0, _, _ => none
  | n + 1, σ, x1 => if 112 ≤ x1 then (some (up σ 0 7 ((σ 0 7) + 1))) else (gd (inb x1 112) (gd (inb ((112 * (σ 0 7)) + x1) 672) (f_X8_note1_51 n (up σ 5 ((112 * (σ 0 7)) + x1).toNatClampNeg (σ 4 x1.toNatClampNeg)) (x1 + 1))))
def f_X8_note1_11  : Nat → Me → Int32 → Option Me
  | 0, _, _ => none
  | n + 1, σ, x1 => if 560 ≤ x1 then (f_X8_note1_51 1000 (up σ 0 7 ((σ 0 7) - 1)) 0) else (gd (inb (112 + x1) 672) (gd (inb x1 672) (f_X8_note1_11 n (up σ 5 x1.toNatClampNeg (σ 5 (112 + x1).toNatClampNeg)) (x1 + 1))))
def f_X8_note1 (σ : Me) : Option Me := if (σ 0 7) = 6 then (f_X8_note1_11 1000 σ 0) else (f_X8_note1_51 1000 σ 0)

def f_X8_undo_22  : Nat → Me → Int32 → Option (Me × Int32)
  | 0, _, _ => none
  | n + 1, σ, x1 => if 112 ≤ x1 then (some (σ, σ 0 7)) else (gd (inb ((112 * (σ 0 7)) + x1) 672) (gd (inb x1 112) (f_X8_undo_22 n (up σ 4 x1.toNatClampNeg (σ 5 ((112 * (σ 0 7)) + x1).toNatClampNeg)) (x1 + 1))))
def f_X8_undo (σ : Me) : Option (Me × Int32) := if (σ 0 7) = 0 then (some (σ, (-2))) else (f_X8_undo_22 1000 (up σ 0 7 ((σ 0 7) - 1)) 0)

def f_X8_run (σ : Me) (x1 : Int32) (x2 : Int32) (x3 : Int32) : Option (Me × Int32) := (f_X8_isSeries σ x1).bind fun r1 => if (bI r1) = 0 then (some (σ, (-1))) else ((f_X8_isPress σ x2).bind fun r3 => if (bI r3) = 0 then (some (σ, (-1))) else ((f_X8_in x3.toInt64 1 40).bind fun r5 => if (bI r5) = 0 then (some (σ, (-1))) else (gd (inb ((4 * x1) + x2) 112) ((f_X8_sheets σ x1 x2).bind fun r8 => if ((σ 4 ((4 * x1) + x2).toNatClampNeg) + x3) ≤ r8 then ((f_X8_note1 σ).bind fun s10 => gd (inb ((4 * x1) + x2) 112) (gd (inb ((4 * x1) + x2) 112) (gd (inb x2 25) (some (up s10 4 ((4 * x1) + x2).toNatClampNeg ((s10 4 ((4 * x1) + x2).toNatClampNeg) + x3), x3 * ((up s10 4 ((4 * x1) + x2).toNatClampNeg ((s10 4 ((4 * x1) + x2).toNatClampNeg) + x3)) 2 x2.toNatClampNeg)))))) else (some (σ, (-2)))))))

def f_X8_stands (σ : Me) (x1 : Int32) (x2 : Int32) : Option (Me × Int32) := gd (inb (12 + (σ 4 111)) 112) (some (up (up σ 4 (12 + (σ 4 111)).toNatClampNeg ((1000 * x1) + x2)) 4 111 (((up σ 4 (12 + (σ 4 111)).toNatClampNeg ((1000 * x1) + x2)) 4 111) + 1), σ 4 111))

def f_X8_spoil (σ : Me) (x1 : Int32) (x2 : Int32) : Option (Me × Int32) := (f_X8_isNumber σ x1 x2).bind fun r1 => if (bI r1) = 0 then (some (σ, (-1))) else ((f_X8_isPrinted σ x1 x2).bind fun r3 => if (bI r3) = 0 then (some (σ, (-2))) else ((f_X8_starAt σ x1 x2).bind fun r5 => if r5 = (-4) then (if (σ 4 111) = (σ 2 24) then (some (σ, (-3))) else ((f_X8_note1 σ).bind fun s10 => (f_X8_stands s10 x1 x2).bind fun p11 => some (p11.1, p11.2))) else (some (σ, (-2)))))

def f_X8_numberAt (σ : Me) (x1 : Int32) (x2 : Int32) (x3 : Int32) (x4 : Int32) : Option Int32 := (f_X8_first σ x1 x2).bind fun r1 => (f_X8_sheets σ x1 x2).bind fun r2 => some ((r1 + (x4 * r2)) + x3)

def f_X8_spoilSheet_140  : Nat → Me → Int32 → Int32 → Int32 → Int32 → Int32 → Option (Me × Int32)
  | 0, _, _, _, _, _, _ => none
  | n + 1, σ, x1, x2, x3, x4, x5 => gd (inb x2 25) (if (σ 2 x2.toNatClampNeg) ≤ x5 then (some (σ, x4)) else ((f_X8_numberAt σ x1 x2 x3 x5).bind fun r3 => (f_X8_starAt σ x1 r3).bind fun r4 => if r4 = (-4) then ((f_X8_stands σ x1 r3).bind fun p6 => if 0 ≤ p6.2 then (f_X8_spoilSheet_140 n p6.1 x1 x2 x3 (x4 + 0) (x5 + 1)) else (f_X8_spoilSheet_140 n p6.1 x1 x2 x3 (x4 + 1) (x5 + 1))) else (f_X8_spoilSheet_140 n σ x1 x2 x3 x4 (x5 + 1))))
def f_X8_spoilSheet_42  : Nat → Me → Int32 → Int32 → Int32 → Int32 → Int32 → Option (Me × Int32)
  | 0, _, _, _, _, _, _ => none
  | n + 1, σ, x1, x2, x3, x4, x5 => gd (inb x2 25) (if (σ 2 x2.toNatClampNeg) ≤ x5 then (gd (inb ((4 * x1) + x2) 112) (if (σ 4 ((4 * x1) + x2).toNatClampNeg) ≤ x3 then (some (σ, (-2))) else (if x4 = 0 then (some (σ, (-2))) else (if ((σ 4 111) + x4) ≤ (σ 2 24) then ((f_X8_note1 σ).bind fun s16 => f_X8_spoilSheet_140 1000 s16 x1 x2 x3 x4 0) else (some (σ, (-3))))))) else ((f_X8_numberAt σ x1 x2 x3 x5).bind fun r17 => (f_X8_starAt σ x1 r17).bind fun r18 => if r18 = (-4) then (f_X8_spoilSheet_42 n σ x1 x2 x3 (x4 + 1) (x5 + 1)) else (f_X8_spoilSheet_42 n σ x1 x2 x3 (x4 + 0) (x5 + 1))))
def f_X8_spoilSheet (σ : Me) (x1 : Int32) (x2 : Int32) (x3 : Int32) : Option (Me × Int32) := (f_X8_isSeries σ x1).bind fun r20 => if (bI r20) = 0 then (some (σ, (-1))) else ((f_X8_isPress σ x2).bind fun r22 => if (bI r22) = 0 then (some (σ, (-1))) else ((f_X8_sheets σ x1 x2).bind fun r24 => (f_X8_in x3.toInt64 0 ((r24 - 1).toInt64)).bind fun r25 => if (bI r25) = 0 then (some (σ, (-1))) else (f_X8_spoilSheet_42 1000 σ x1 x2 x3 0 0)))

def f_X8_printed_4  : Nat → Me → Int32 → Int32 → Int32 → Option Int32
  | 0, _, _, _, _ => none
  | n + 1, σ, x1, x2, x3 => if (σ 2 22) ≤ x3 then (some x2) else (gd (inb ((4 * x1) + x3) 112) (gd (inb x3 25) (f_X8_printed_4 n σ x1 (x2 + ((σ 4 ((4 * x1) + x3).toNatClampNeg) * (σ 2 x3.toNatClampNeg))) (x3 + 1))))
def f_X8_printed (σ : Me) (x1 : Int32) : Option Int32 := f_X8_printed_4 1000 σ x1 0 0

def f_X8_spoiled_4  : Nat → Me → Int32 → Int32 → Int32 → Option Int32
  | 0, _, _, _, _ => none
  | n + 1, σ, x1, x2, x3 => if (σ 4 111) ≤ x3 then (some x2) else (gd (inb (12 + x3) 112) (if ((σ 4 (12 + x3).toNatClampNeg) / 1000) = x1 then (f_X8_spoiled_4 n σ x1 (x2 + 1) (x3 + 1)) else (f_X8_spoiled_4 n σ x1 (x2 + 0) (x3 + 1))))
def f_X8_spoiled (σ : Me) (x1 : Int32) : Option Int32 := f_X8_spoiled_4 1000 σ x1 0 0

def f_X8_leftOf_4  : Nat → Me → Int32 → Int32 → Int32 → Option Int32
  | 0, _, _, _, _ => none
  | n + 1, σ, x1, x2, x3 => if (σ 2 22) ≤ x3 then (some x2) else ((f_X8_sheets σ x1 x3).bind fun r3 => gd (inb ((4 * x1) + x3) 112) (f_X8_leftOf_4 n σ x1 (x2 + (r3 - (σ 4 ((4 * x1) + x3).toNatClampNeg))) (x3 + 1)))
def f_X8_leftOf (σ : Me) (x1 : Int32) : Option Int32 := f_X8_leftOf_4 1000 σ x1 0 0

def f_X8_packs (σ : Me) (x1 : Int32) : Option Int32 := (f_X8_whole_2 σ x1).bind fun r1 => some ((r1 + 9) / 10)

def f_X8_isWhole_5  : Nat → Me → Int32 → Int32 → Int32 → Option Bool
  | 0, _, _, _, _ => none
  | n + 1, σ, x1, x2, x3 => if ((10 * x2) + 10) ≤ x3 then (some true) else ((f_X8_whole_2 σ x1).bind fun r2 => if r2 ≤ x3 then (some true) else ((f_X8_isPrinted σ x1 x3).bind fun r4 => if (bI r4) = 0 then (some false) else (f_X8_isWhole_5 n σ x1 x2 (x3 + 1))))
def f_X8_isWhole (σ : Me) (x1 : Int32) (x2 : Int32) : Option Bool := f_X8_isWhole_5 1000 σ x1 x2 (10 * x2)

def f_X8_wholes_4  : Nat → Me → Int32 → Int32 → Int32 → Option Int32
  | 0, _, _, _, _ => none
  | n + 1, σ, x1, x2, x3 => (f_X8_packs σ x1).bind fun r1 => if r1 ≤ x3 then (some x2) else ((f_X8_isWhole σ x1 x3).bind fun r3 => if (bI r3) = 0 then (f_X8_wholes_4 n σ x1 (x2 + 0) (x3 + 1)) else (f_X8_wholes_4 n σ x1 (x2 + 1) (x3 + 1)))
def f_X8_wholes (σ : Me) (x1 : Int32) : Option Int32 := f_X8_wholes_4 1000 σ x1 0 0

def f_X8_series (σ : Me) (x1 : Int32) (x2 : Int32) : Option Int32 := (f_X8_isSeries σ x1).bind fun r1 => if (bI r1) = 0 then (some (-1)) else ((f_X8_in x2.toInt64 0 7).bind fun r3 => if (bI r3) = 0 then (some (-1)) else (if x2 = 0 then (gd (inb ((4 + (6 * x1)) + x2) 25) (some (σ 2 ((4 + (6 * x1)) + x2).toNatClampNeg))) else (if x2 = 1 then (gd (inb ((4 + (6 * x1)) + x2) 25) (some (σ 2 ((4 + (6 * x1)) + x2).toNatClampNeg))) else (if x2 = 2 then ((f_X8_whole_2 σ x1).bind fun r10 => some r10) else (if x2 = 3 then ((f_X8_printed σ x1).bind fun r12 => some r12) else (if x2 = 4 then ((f_X8_spoiled σ x1).bind fun r14 => some r14) else (if x2 = 5 then ((f_X8_leftOf σ x1).bind fun r16 => some r16) else (if x2 = 6 then ((f_X8_packs σ x1).bind fun r18 => some r18) else ((f_X8_wholes σ x1).bind fun r19 => some r19)))))))))

def f_X8_share (σ : Me) (x1 : Int32) (x2 : Int32) (x3 : Int32) : Option Int32 := (f_X8_isSeries σ x1).bind fun r1 => if (bI r1) = 0 then (some (-1)) else ((f_X8_isPress σ x2).bind fun r3 => if (bI r3) = 0 then (some (-1)) else ((f_X8_in x3.toInt64 0 3).bind fun r5 => if (bI r5) = 0 then (some (-1)) else (if x3 = 0 then ((f_X8_sheets σ x1 x2).bind fun r13 => some r13) else (if x3 = 1 then (gd (inb ((4 * x1) + x2) 112) (some (σ 4 ((4 * x1) + x2).toNatClampNeg))) else (if x3 = 2 then ((f_X8_first σ x1 x2).bind fun r11 => some r11) else (gd (inb x2 25) (some (σ 2 x2.toNatClampNeg))))))))

def f_X8_where (σ : Me) (x1 : Int32) (x2 : Int32) (x3 : Int32) : Option Int32 := (f_X8_isNumber σ x1 x2).bind fun r1 => if (bI r1) = 0 then (some (-1)) else ((f_X8_in x3.toInt64 0 2).bind fun r3 => if (bI r3) = 0 then (some (-1)) else ((f_X8_pressOf σ x1 x2).bind fun r5 => if x3 = 0 then (some r5) else (if x3 = 1 then ((f_X8_sheetOf σ x1 x2).bind fun r11 => some r11) else ((f_X8_first σ x1 r5).bind fun r8 => (f_X8_sheets σ x1 r5).bind fun r9 => gd (decide (¬ r9 = 0)) (some ((x2 - r8) / r9))))))

def f_X8_number_58  (σ : Me) (x1 : Int32) (x2 : Int32) (x3 : Int32) (x4 : Int32) (t0 : Int32) : Option Int32 := if t0 = 0 then (some (-1)) else ((f_X8_numberAt σ x1 x2 x3 x4).bind fun r2 => some r2)
def f_X8_number_57  (σ : Me) (x1 : Int32) (x2 : Int32) (x3 : Int32) (x4 : Int32) : Option Int32 := f_X8_number_58 σ x1 x2 x3 x4 0
def f_X8_number (σ : Me) (x1 : Int32) (x2 : Int32) (x3 : Int32) (x4 : Int32) : Option Int32 := (f_X8_isSeries σ x1).bind fun r3 => if (bI r3) = 0 then (f_X8_number_57 σ x1 x2 x3 x4) else ((f_X8_isPress σ x2).bind fun r5 => if (bI r5) = 0 then (f_X8_number_57 σ x1 x2 x3 x4) else ((f_X8_sheets σ x1 x2).bind fun r7 => (f_X8_in x3.toInt64 0 ((r7 - 1).toInt64)).bind fun r8 => if (bI r8) = 0 then (f_X8_number_57 σ x1 x2 x3 x4) else (gd (inb x2 25) ((f_X8_in x4.toInt64 0 (((σ 2 x2.toNatClampNeg) - 1).toInt64)).bind fun r11 => if (bI r11) = 0 then (f_X8_number_57 σ x1 x2 x3 x4) else (f_X8_number_58 σ x1 x2 x3 x4 1)))))

def f_X8_note (σ : Me) (x1 : Int32) (x2 : Int32) : Option Int32 := (f_X8_isNumber σ x1 x2).bind fun r1 => if (bI r1) = 0 then (some (-1)) else ((f_X8_isPrinted σ x1 x2).bind fun r3 => if (bI r3) = 0 then (some 0) else ((f_X8_starAt σ x1 x2).bind fun r5 => if r5 = (-4) then (some 1) else (some 2)))

def f_X8_star (σ : Me) (x1 : Int32) (x2 : Int32) : Option Int32 := (f_X8_in x1.toInt64 0 (((σ 2 24) - 1).toInt64)).bind fun r2 => if (bI r2) = 0 then (some (-1)) else ((f_X8_in x2.toInt64 0 2).bind fun r4 => if (bI r4) = 0 then (some (-1)) else (if x2 = 2 then ((f_X8_checkOf 0 1 x1).bind fun r12 => some r12) else (if x1 < (σ 4 111) then (if x2 = 0 then (gd (inb (12 + x1) 112) (some ((σ 4 (12 + x1).toNatClampNeg) / 1000))) else (gd (inb (12 + x1) 112) (some ((σ 4 (12 + x1).toNatClampNeg) - (σ 4 (12 + x1).toNatClampNeg) / 1000 * 1000)))) else (some (-4)))))

def f_X8_starOf (σ : Me) (x1 : Int32) (x2 : Int32) : Option Int32 := (f_X8_isNumber σ x1 x2).bind fun r1 => if (bI r1) = 0 then (some (-1)) else ((f_X8_starAt σ x1 x2).bind fun r3 => some r3)

def f_X8_judgeStar (σ : Me) (x1 : Int32) (x2 : Int32) : Option Int32 := if x1 < (σ 2 24) then ((f_X8_checkOf 0 1 x1).bind fun r3 => if x2 = r3 then (if x1 < (σ 4 111) then (some 0) else (some 4)) else (some 3)) else (some 2)

def f_X8_judge_86  (σ : Me) (x2 : Int32) (x3 : Int32) (x4 : Int32) : Option Int32 := if x4 = (σ 2 23) then (some 1) else ((f_X8_isNumber σ x4 x2).bind fun r3 => if (bI r3) = 0 then (some 2) else ((f_X8_checkIn σ x4 x2).bind fun r5 => if x3 = r5 then ((f_X8_isPrinted σ x4 x2).bind fun r7 => if (bI r7) = 0 then (some 4) else ((f_X8_starAt σ x4 x2).bind fun r9 => if r9 = (-4) then (some 0) else (some 5))) else (some 3)))
def f_X8_judge_52  : Nat → Me → Int32 → Int32 → Int32 → Int32 → Option Int32
  | 0, _, _, _, _, _ => none
  | n + 1, σ, x1, x2, x3, x4 => if (σ 2 23) ≤ x4 then (f_X8_judge_86 σ x2 x3 x4) else (gd (inb (4 + (6 * x4)) 25) (if (σ 2 (4 + (6 * x4)).toNatClampNeg) = x1 then (f_X8_judge_86 σ x2 x3 x4) else (f_X8_judge_52 n σ x1 x2 x3 (x4 + 1))))
def f_X8_judge (σ : Me) (x1 : Int32) (x2 : Int32) (x3 : Int32) : Option Int32 := (f_X8_in x1.toInt64 0 26).bind fun r15 => if (bI r15) = 0 then (some (-1)) else ((f_X8_in x2.toInt64 0 999).bind fun r17 => if (bI r17) = 0 then (some (-1)) else ((f_X8_in x3.toInt64 0 99).bind fun r19 => if (bI r19) = 0 then (some (-1)) else (if x1 = 0 then ((f_X8_judgeStar σ x2 x3).bind fun r22 => some r22) else (f_X8_judge_52 1000 σ x1 x2 x3 0))))

def f_X8_pack (σ : Me) (x1 : Int32) (x2 : Int32) (x3 : Int32) : Option Int32 := (f_X8_isSeries σ x1).bind fun r1 => if (bI r1) = 0 then (some (-1)) else ((f_X8_packs σ x1).bind fun r3 => (f_X8_in x2.toInt64 0 ((r3 - 1).toInt64)).bind fun r4 => if (bI r4) = 0 then (some (-1)) else ((f_X8_in x3.toInt64 0 9).bind fun r6 => if (bI r6) = 0 then (some (-1)) else ((f_X8_isWhole σ x1 x2).bind fun r8 => if (bI r8) = 0 then (some (-2)) else ((f_X8_whole_2 σ x1).bind fun r10 => if ((10 * x2) + x3) < r10 then ((f_X8_starAt σ x1 ((10 * x2) + x3)).bind fun r12 => if r12 = (-4) then (some ((10 * x2) + x3)) else (some (1000 + r12))) else (some (-4))))))

def f_X8_count_61  : Nat → Me → Int32 → Int32 → Int32 → Int32 → Int32 → Option Int32
  | 0, _, _, _, _, _, _ => none
  | n + 1, σ, x1, x2, x3, x4, x5 => if 12 ≤ x5 then (if x1 = 0 then (some (σ 2 22)) else (if x1 = 1 then (some (σ 2 23)) else (if x1 = 2 then (some (σ 2 24)) else (if x1 = 3 then (some (σ 4 111)) else (if x1 = 4 then (some x2) else (if x1 = 5 then (some (σ 4 111)) else (if x1 = 6 then (some x3) else (if x1 = 7 then (some x4) else (if x1 = 8 then (some (σ 0 7)) else (if x1 = 9 then (some (σ 0 0)) else (some (-1)))))))))))) else (gd (inb x5 112) (f_X8_count_61 n σ x1 x2 (x3 + (σ 4 x5.toNatClampNeg)) x4 (x5 + 1)))
def f_X8_count_10  : Nat → Me → Int32 → Int32 → Int32 → Int32 → Int32 → Option Int32
  | 0, _, _, _, _, _, _ => none
  | n + 1, σ, x1, x2, x3, x4, x5 => if (σ 2 23) ≤ x5 then (f_X8_count_61 1000 σ x1 x2 x3 x4 0) else ((f_X8_printed σ x5).bind fun r20 => if x1 = 7 then ((f_X8_wholes σ x5).bind fun r22 => f_X8_count_10 n σ x1 (x2 + r20) x3 (x4 + r22) (x5 + 1)) else (f_X8_count_10 n σ x1 (x2 + r20) x3 (x4 + 0) (x5 + 1)))
def f_X8_count (σ : Me) (x1 : Int32) : Option Int32 := f_X8_count_10 1000 σ x1 0 0 0 0
