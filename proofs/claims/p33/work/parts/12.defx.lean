def f_X0_begin (M : Mm) : Option Mm :=
lt1 (wI M 229 1 (0 : Int32)) fun M_1 =>
lt1 (wI M_1 229 2 (0 : Int32)) fun M_2 =>
some M_2


def f_X0_hasMore (M : Mm) : Option Int32 :=
(if (gI M 229 2) = (0 : Int32) then (
(if (gI M 230 1) ≤ (gI M 229 1) then (
some (0 : Int32)) else (
some (1 : Int32)))) else (
some (0 : Int32)))


def f_X9_at (x1 : Int32) (M : Mm) : Option Int32 :=
(if x1 < (0 : Int32) then (
some (-1 : Int32)) else (
(if (gI M 230 1) ≤ x1 then (
some (-1 : Int32)) else (
(if (100 : Int32) ≤ x1 then (
some (-1 : Int32)) else (
chk (inb x1 100) <|
some (gI M 231 (ix x1))))))))


def f_X10_isWithin (x0 : Int32) (x1 : Int32) (x2 : Int32) (M : Mm) : Option Int32 :=
(if x0 < x1 then (
some (0 : Int32)) else (
(if x2 < x0 then (
some (0 : Int32)) else (
some (1 : Int32)))))


def f_X0_readNumber_L29 (M : Mm) (y_2 : Int32) : Nat → Int32 → Int32 → Option (Int32 × Int32)
  | 0, _, _ => none
  | n + 1, x4_3, x5_4 =>
    (if y_2 ≤ x4_3 then (
    some (x4_3, x5_4)) else (
    ob1 (f_X9_at ((gI M 229 1) + x4_3) M) fun r_7 =>
    ob1 (f_X10_isWithin r_7 (48 : Int32) (57 : Int32) M) fun r_8 =>
    (if r_8 = (0 : Int32) then (
    some (x4_3, x5_4)) else (
    ob1 (f_X9_at ((gI M 229 1) + x4_3) M) fun r_9 =>
    lt1 ((((x5_4 * (10 : Int32)) + r_9) - (48 : Int32))) fun x5_10 =>
    lt1 (x4_3 + (1 : Int32)) fun x4_11 =>
    f_X0_readNumber_L29 M y_2 n x4_11 x5_10))))

def f_X0_readNumber (x1 : Int32) (x2 : Int32) (M : Mm) : Option (Int32 × Mm) :=
ob1 (f_X9_at (gI M 229 1) M) fun r_1 =>
ob1 ((if r_1 = (48 : Int32) then (
some (1 : Int32)) else (
some (7 : Int32)))) fun y_2 =>
ob2 (f_X0_readNumber_L29 M y_2 1000 (0 : Int32) (0 : Int32)) fun x4_5 x5_6 =>
(if (gI M 229 2) = (0 : Int32) then (
(if x4_5 = (0 : Int32) then (
lt1 (wI M 229 2 (1 : Int32)) fun M_13 =>
some ((0 : Int32), M_13)) else (
ob1 (f_X10_isWithin x5_6 x1 x2 M) fun r_14 =>
(if r_14 = (0 : Int32) then (
lt1 (wI M 229 2 (1 : Int32)) fun M_16 =>
some ((0 : Int32), M_16)) else (
lt1 (wI M 229 1 ((gI M 229 1) + x4_5)) fun M_15 =>
some (x5_6, M_15)))))) else (
lt1 (wI M 229 2 (1 : Int32)) fun M_12 =>
some ((0 : Int32), M_12)))


def f_X0_readSign (x1 : Int32) (M : Mm) : Option Mm :=
(if (gI M 229 2) = (0 : Int32) then (
ob1 (f_X9_at (gI M 229 1) M) fun r_2 =>
(if r_2 = x1 then (
lt1 (wI M 229 1 ((gI M 229 1) + (1 : Int32))) fun M_4 =>
some M_4) else (
lt1 (wI M 229 2 (1 : Int32)) fun M_3 =>
some M_3))) else (
lt1 (wI M 229 2 (1 : Int32)) fun M_1 =>
some M_1))


def f_X0_readAct (M : Mm) : Option Mm :=
ob1 (f_X9_at (gI M 229 1) M) fun r_1 =>
lt1 (wI M 229 3 r_1) fun M_2 =>
(if (gI M_2 229 3) = (115 : Int32) then (
lt1 (wI M_2 229 1 ((gI M_2 229 1) + (1 : Int32))) fun M_3 =>
ob1 ((if (gI M_3 229 3) = (115 : Int32) then (
ob2 (f_X0_readNumber (0 : Int32) (3 : Int32) M_3) fun r_6 M_5 =>
lt1 (wI M_5 229 4 r_6) fun M_7 =>
ob1 (f_X0_readSign (102 : Int32) M_7) fun M_8 =>
ob2 (f_X0_readNumber (1000 : Int32) (9999999 : Int32) M_8) fun r_10 M_9 =>
lt1 (wI M_9 229 5 r_10) fun M_11 =>
ob1 (f_X0_readSign (98 : Int32) M_11) fun M_12 =>
ob2 (f_X0_readNumber (1000 : Int32) (9999999 : Int32) M_12) fun r_14 M_13 =>
lt1 (wI M_13 229 6 r_14) fun M_15 =>
ob1 (f_X0_readSign (113 : Int32) M_15) fun M_16 =>
ob2 (f_X0_readNumber (0 : Int32) (100 : Int32) M_16) fun r_18 M_17 =>
lt1 (wI M_17 229 7 r_18) fun M_19 =>
some M_19) else (
some M_3))) fun M_4 =>
ob1 (f_X0_readSign (59 : Int32) M_4) fun M_20 =>
some M_20) else (
(if (gI M_2 229 3) = (99 : Int32) then (
lt1 (wI M_2 229 1 ((gI M_2 229 1) + (1 : Int32))) fun M_21 =>
ob1 ((if (gI M_21 229 3) = (115 : Int32) then (
ob2 (f_X0_readNumber (0 : Int32) (3 : Int32) M_21) fun r_24 M_23 =>
lt1 (wI M_23 229 4 r_24) fun M_25 =>
ob1 (f_X0_readSign (102 : Int32) M_25) fun M_26 =>
ob2 (f_X0_readNumber (1000 : Int32) (9999999 : Int32) M_26) fun r_28 M_27 =>
lt1 (wI M_27 229 5 r_28) fun M_29 =>
ob1 (f_X0_readSign (98 : Int32) M_29) fun M_30 =>
ob2 (f_X0_readNumber (1000 : Int32) (9999999 : Int32) M_30) fun r_32 M_31 =>
lt1 (wI M_31 229 6 r_32) fun M_33 =>
ob1 (f_X0_readSign (113 : Int32) M_33) fun M_34 =>
ob2 (f_X0_readNumber (0 : Int32) (100 : Int32) M_34) fun r_36 M_35 =>
lt1 (wI M_35 229 7 r_36) fun M_37 =>
some M_37) else (
some M_21))) fun M_22 =>
ob1 (f_X0_readSign (59 : Int32) M_22) fun M_38 =>
some M_38) else (
(if (gI M_2 229 3) = (119 : Int32) then (
lt1 (wI M_2 229 1 ((gI M_2 229 1) + (1 : Int32))) fun M_39 =>
ob1 ((if (gI M_39 229 3) = (115 : Int32) then (
ob2 (f_X0_readNumber (0 : Int32) (3 : Int32) M_39) fun r_42 M_41 =>
lt1 (wI M_41 229 4 r_42) fun M_43 =>
ob1 (f_X0_readSign (102 : Int32) M_43) fun M_44 =>
ob2 (f_X0_readNumber (1000 : Int32) (9999999 : Int32) M_44) fun r_46 M_45 =>
lt1 (wI M_45 229 5 r_46) fun M_47 =>
ob1 (f_X0_readSign (98 : Int32) M_47) fun M_48 =>
ob2 (f_X0_readNumber (1000 : Int32) (9999999 : Int32) M_48) fun r_50 M_49 =>
lt1 (wI M_49 229 6 r_50) fun M_51 =>
ob1 (f_X0_readSign (113 : Int32) M_51) fun M_52 =>
ob2 (f_X0_readNumber (0 : Int32) (100 : Int32) M_52) fun r_54 M_53 =>
lt1 (wI M_53 229 7 r_54) fun M_55 =>
some M_55) else (
some M_39))) fun M_40 =>
ob1 (f_X0_readSign (59 : Int32) M_40) fun M_56 =>
some M_56) else (
lt1 (wI M_2 229 2 (1 : Int32)) fun M_57 =>
some M_57))))))


def piH (k : Nat) : Nat := if 28 ≤ k ∧ k < 140 then k + 28 else if 140 ≤ k ∧ k < 168 then k - 112 else k
def shH (M : Mm) : Mm := (fun k => M.1 (piH k), fun k => M.2 (piH k))
def f_X1_dropOldest (M : Mm) : Option Mm := some (wI (shH M) 225 1 (4 : Int32))

def f_X3_begin (a0 : Nat) (x1 : Int32) (x2 : Int32) (x3 : Int32) (x4 : Int32) (x5 : Int32) (M : Mm) : Option Mm :=
lt1 (wI M a0 0 x1) fun M_1 =>
lt1 (wI M_1 a0 1 x2) fun M_2 =>
lt1 (wI M_2 a0 2 x3) fun M_3 =>
lt1 (wI M_3 a0 3 x4) fun M_4 =>
lt1 (wI M_4 a0 4 x5) fun M_5 =>
some M_5


def f_X7_copyFrom (a0 : Nat) (a1 : Nat) (M : Mm) : Option Mm :=
chk (bz (gI M a1 0)) <|
lt1 (wI M a0 0 (gI M a1 0)) fun M_1 =>
lt1 (wI M_1 a0 1 (gI M_1 a1 1)) fun M_2 =>
lt1 (wI M_2 a0 2 (gI M_2 a1 2)) fun M_3 =>
lt1 (wI M_3 a0 3 (gI M_3 a1 3)) fun M_4 =>
some M_4


def f_X3_copyFrom (a0 : Nat) (a1 : Nat) (M : Mm) : Option Mm :=
ob1 (f_X3_begin a0 (gI M a1 0) (gI M a1 1) (gI M a1 2) (gI M a1 3) (gI M a1 4) M) fun M_1 =>
chk (bz (gI M_1 a1 5)) <|
lt1 (wI M_1 a0 5 (gI M_1 a1 5)) fun M_2 =>
lt1 (wI M_2 a0 6 (gI M_2 a1 6)) fun M_3 =>
lt1 (wI M_3 a0 7 (gI M_3 a1 7)) fun M_4 =>
chk (bz (gI M_4 a1 8)) <|
lt1 (wI M_4 a0 8 (gI M_4 a1 8)) fun M_5 =>
lt1 (wI M_5 a0 9 (gI M_5 a1 9)) fun M_6 =>
lt1 (wI M_6 a0 10 (gI M_6 a1 10)) fun M_7 =>
lt1 (wI M_7 a0 11 (gI M_7 a1 11)) fun M_8 =>
lt1 (wI M_8 a0 12 (gI M_8 a1 12)) fun M_9 =>
lt1 (wI M_9 a0 13 (gI M_9 a1 13)) fun M_10 =>
lt1 (wI M_10 a0 14 (gI M_10 a1 14)) fun M_11 =>
ob1 (f_X7_copyFrom (a0 + 1) (a1 + 1) M_11) fun M_12 =>
some M_12


def f_X4_copyFrom (a0 : Nat) (a1 : Nat) (M : Mm) : Option Mm :=
lt1 (wC M (a0 + 1) (a1 + 1) 6) fun M_1 =>
lt1 (wC M_1 (a0 + 2) (a1 + 2) 6) fun M_2 =>
lt1 (wI M_2 a0 2 (gI M_2 a1 2)) fun M_3 =>
some M_3


def f_X5_copyFrom (a0 : Nat) (a1 : Nat) (M : Mm) : Option Mm :=
lt1 (wI M a0 0 (gI M a1 0)) fun M_1 =>
lt1 (wI M_1 a0 1 (gI M_1 a1 1)) fun M_2 =>
lt1 (wI M_2 a0 2 (gI M_2 a1 2)) fun M_3 =>
lt1 (wI M_3 a0 3 (gI M_3 a1 3)) fun M_4 =>
lt1 (wI M_4 a0 4 (gI M_4 a1 4)) fun M_5 =>
lt1 (wI M_5 a0 5 (gI M_5 a1 5)) fun M_6 =>
some M_6


def f_X6_copyFrom_L2 (a0 : Nat) (a1 : Nat) : Nat → Int32 → Mm → Option Mm
  | 0, _, _ => none
  | n + 1, x2_1, M_2 =>
    (if (12 : Int32) ≤ x2_1 then (
    some M_2) else (
    chk (inb x2_1 12) <|
    chk (inb x2_1 12) <|
    ob1 (f_X5_copyFrom (rid 51 (a0 + 1) (ix x2_1)) (rid 51 (a1 + 1) (ix x2_1)) M_2) fun M_4 =>
    lt1 (x2_1 + (1 : Int32)) fun x2_5 =>
    f_X6_copyFrom_L2 a0 a1 n x2_5 M_4))

def f_X6_copyFrom (a0 : Nat) (a1 : Nat) (M : Mm) : Option Mm :=
ob1 (f_X6_copyFrom_L2 a0 a1 1000 (0 : Int32) M) fun M_3 =>
lt1 (wI M_3 a0 1 (gI M_3 a1 1)) fun M_6 =>
some M_6


def f_X8_copyFrom_L2 (a0 : Nat) (a1 : Nat) : Nat → Int32 → Mm → Option Mm
  | 0, _, _ => none
  | n + 1, x2_1, M_2 =>
    (if (4 : Int32) ≤ x2_1 then (
    some M_2) else (
    chk (inb x2_1 4) <|
    chk (inb x2_1 4) <|
    ob1 (f_X3_copyFrom (rid 50 (a0 + 1) (ix x2_1)) (rid 50 (a1 + 1) (ix x2_1)) M_2) fun M_4 =>
    lt1 (x2_1 + (1 : Int32)) fun x2_5 =>
    f_X8_copyFrom_L2 a0 a1 n x2_5 M_4))

def f_X8_copyFrom (a0 : Nat) (a1 : Nat) (M : Mm) : Option Mm :=
ob1 (f_X8_copyFrom_L2 a0 a1 1000 (0 : Int32) M) fun M_3 =>
lt1 (wI M_3 a0 1 (gI M_3 a1 1)) fun M_6 =>
ob1 (f_X4_copyFrom (a0 + 10) (a1 + 10) M_6) fun M_7 =>
lt1 (wC M_7 (a0 + 13) (a1 + 13) 5) fun M_8 =>
chk (bz (gI M_8 a1 4)) <|
lt1 (wI M_8 a0 4 (gI M_8 a1 4)) fun M_9 =>
ob1 (f_X6_copyFrom (a0 + 14) (a1 + 14) M_9) fun M_10 =>
lt1 (wI M_10 a0 6 (gI M_10 a1 6)) fun M_11 =>
lt1 (wI M_11 a0 7 (gI M_11 a1 7)) fun M_12 =>
lt1 (wJ M_12 a0 8 (gJ M_12 a1 8)) fun M_13 =>
lt1 (wJ M_13 a0 9 (gJ M_13 a1 9)) fun M_14 =>
some M_14


def f_X1_push (M : Mm) : Option Mm :=
ob1 ((if (gI M 225 1) < (5 : Int32) then (
some M) else (
ob1 (f_X1_dropOldest M) fun M_3 =>
some M_3))) fun M_1 =>
(if (gI M_1 225 1) < (0 : Int32) then (
some M_1) else (
(if (5 : Int32) ≤ (gI M_1 225 1) then (
some M_1) else (
chk (inb (gI M_1 225 1) 5) <|
ob1 (f_X8_copyFrom (rid 52 226 (ix (gI M_1 225 1))) 0 M_1) fun M_5 =>
lt1 (wI M_5 225 1 ((gI M_5 225 1) + (1 : Int32))) fun M_6 =>
some M_6))))


def f_X1_pop (M : Mm) : Option Mm :=
(if (gI M 225 1) ≤ (0 : Int32) then (
some M) else (
(if (5 : Int32) < (gI M 225 1) then (
some M) else (
lt1 (wI M 225 1 ((gI M 225 1) - (1 : Int32))) fun M_1 =>
chk (inb (gI M_1 225 1) 5) <|
ob1 (f_X8_copyFrom 0 (rid 52 226 (ix (gI M_1 225 1))) M_1) fun M_2 =>
some M_2))))


def f_X10_wholePeriods (x0 : Int32) (x1 : Int32) (M : Mm) : Option Int32 :=
(if (0 : Int32) < x1 then (
lt1 ((jabs x0)) fun x2_1 =>
chk (decide (¬ x1 = 0)) <|
lt1 ((x2_1 / x1)) fun x3_2 =>
chk (decide (¬ x1 = 0)) <|
ob1 ((if ((x2_1 - x2_1 / x1 * x1) * (2 : Int32)) ≤ x1 then (
some x3_2) else (
lt1 (x3_2 + (1 : Int32)) fun x3_4 =>
some x3_4))) fun x3_3 =>
(if (0 : Int32) ≤ x0 then (
some x3_3) else (
some (-x3_3)))) else (
some (0 : Int32)))


def f_X2_findShifts_L2 : Nat → Int32 → Mm → Option Mm
  | 0, _, _ => none
  | n + 1, x2_1, M_2 =>
    (if (4 : Int32) ≤ x2_1 then (
    some M_2) else (
    chk (inb x2_1 4) <|
    ob1 ((if (gI M_2 ((rid 50 1 (ix x2_1)) + 1) 0) = (0 : Int32) then (
    some (0 : Int32)) else (
    (if (gI M_2 ((rid 50 1 (ix x2_1)) + 1) 3) < (gI M_2 13 0) then (
    some (0 : Int32)) else (
    (if (gI M_2 (rid 50 1 (ix x2_1)) 5) = (0 : Int32) then (
    some (0 : Int32)) else (
    some (1 : Int32)))))))) fun y_3 =>
    chk (inb x2_1 4) <|
    chk (bz y_3) <|
    lt1 (wI M_2 233 (ix x2_1) y_3) fun M_4 =>
    chk (inb x2_1 4) <|
    ob1 ((if (gI M_4 233 (ix x2_1)) = (0 : Int32) then (
    some (0 : Int32)) else (
    ob1 (f_X10_wholePeriods ((gI M_4 ((rid 50 1 (ix x2_1)) + 1) 1) - (gI M_4 (rid 50 1 (ix x2_1)) 6)) (gI M_4 (rid 50 1 (ix x2_1)) 3) M_4) fun r_6 =>
    some r_6))) fun y_5 =>
    chk (inb x2_1 4) <|
    lt1 (wI M_4 234 (ix x2_1) y_5) fun M_7 =>
    chk (inb x2_1 4) <|
    ob1 ((if (gI M_7 233 (ix x2_1)) = (0 : Int32) then (
    some (0 : Int32)) else (
    ob1 (f_X10_wholePeriods ((gI M_7 ((rid 50 1 (ix x2_1)) + 1) 2) - (gI M_7 (rid 50 1 (ix x2_1)) 7)) (gI M_7 (rid 50 1 (ix x2_1)) 3) M_7) fun r_9 =>
    some r_9))) fun y_8 =>
    chk (inb x2_1 4) <|
    lt1 (wI M_7 235 (ix x2_1) y_8) fun M_10 =>
    lt1 (x2_1 + (1 : Int32)) fun x2_11 =>
    f_X2_findShifts_L2 n x2_11 M_10))

def f_X2_findShifts (M : Mm) : Option Mm :=
f_X2_findShifts_L2 1000 (0 : Int32) M


def f_X2_votingWeight_L4 (M : Mm) : Nat → Int32 → Int32 → Option Int32
  | 0, _, _ => none
  | n + 1, x2_1, x3_2 =>
    (if (4 : Int32) ≤ x3_2 then (
    some x2_1) else (
    chk (inb x3_2 4) <|
    ob1 ((if (gI M 233 (ix x3_2)) = (0 : Int32) then (
    some (0 : Int32)) else (
    chk (inb x3_2 4) <|
    some (gI M (rid 50 1 (ix x3_2)) 2)))) fun y_4 =>
    lt1 ((x2_1 + y_4)) fun x2_5 =>
    lt1 (x3_2 + (1 : Int32)) fun x3_6 =>
    f_X2_votingWeight_L4 M n x2_5 x3_6))

def f_X2_votingWeight (M : Mm) : Option Int32 :=
ob1 (f_X2_votingWeight_L4 M 1000 (0 : Int32) (0 : Int32)) fun x2_3 =>
some x2_3


def f_X2_weightOf_L5 (M : Mm) (a1 : Nat) (x2 : Int32) : Nat → Int32 → Int32 → Option Int32
  | 0, _, _ => none
  | n + 1, x3_1, x4_2 =>
    (if (4 : Int32) ≤ x4_2 then (
    some x3_1) else (
    (if (4 : Int32) ≤ x4_2 then (
    some x3_1) else (
    chk (inb x4_2 4) <|
    ob1 ((if (gI M a1 (ix x4_2)) = x2 then (
    chk (inb x4_2 4) <|
    some (gI M (rid 50 1 (ix x4_2)) 2)) else (
    some (0 : Int32)))) fun y_4 =>
    lt1 ((x3_1 + y_4)) fun x3_5 =>
    lt1 (x4_2 + (1 : Int32)) fun x4_6 =>
    f_X2_weightOf_L5 M a1 x2 n x3_5 x4_6))))

def f_X2_weightOf (a1 : Nat) (x2 : Int32) (M : Mm) : Option Int32 :=
ob1 (f_X2_weightOf_L5 M a1 x2 1000 (0 : Int32) (0 : Int32)) fun x3_3 =>
some x3_3


def f_X2_clearShift_L2 (a0 : Nat) (x1 : Int32) : Nat → Int32 → Mm → Option Mm
  | 0, _, _ => none
  | n + 1, x2_1, M_2 =>
    (if (4 : Int32) ≤ x2_1 then (
    some M_2) else (
    chk (inb x2_1 4) <|
    ob1 ((if (gI M_2 a0 (ix x2_1)) = x1 then (
    chk (inb x2_1 4) <|
    lt1 (wI M_2 a0 (ix x2_1) (0 : Int32)) fun M_4 =>
    some M_4) else (
    some M_2))) fun M_3 =>
    lt1 (x2_1 + (1 : Int32)) fun x2_5 =>
    f_X2_clearShift_L2 a0 x1 n x2_5 M_3))

def f_X2_clearShift (a0 : Nat) (x1 : Int32) (M : Mm) : Option Mm :=
f_X2_clearShift_L2 a0 x1 1000 (0 : Int32) M


def f_X2_clearTrueShifts_L12 (a2 : Nat) (r_1 : Int32) : Nat → Int32 → Int32 → Mm → Option (Int32 × Mm)
  | 0, _, _, _ => none
  | n + 1, x4_2, x5_3, M_4 =>
    (if (4 : Int32) ≤ x5_3 then (
    some (x4_2, M_4)) else (
    (if (4 : Int32) ≤ x5_3 then (
    some (x4_2, M_4)) else (
    chk (inb x5_3 4) <|
    lt1 ((gI M_4 a2 (ix x5_3))) fun x6_7 =>
    ob2 ((if x6_7 = (0 : Int32) then (
    some (x4_2, M_4)) else (
    ob1 (f_X2_weightOf a2 x6_7 M_4) fun r_10 =>
    (if (r_10 * (100 : Int32)) < ((gI M_4 13 2) * r_1) then (
    some (x4_2, M_4)) else (
    ob1 (f_X2_clearShift a2 x6_7 M_4) fun M_11 =>
    lt1 (x4_2 + (1 : Int32)) fun x4_12 =>
    some (x4_12, M_11)))))) fun x4_8 M_9 =>
    lt1 (x5_3 + (1 : Int32)) fun x5_13 =>
    f_X2_clearTrueShifts_L12 a2 r_1 n x4_8 x5_13 M_9))))

def f_X2_clearTrueShifts (a2 : Nat) (M : Mm) : Option (Int32 × Mm) :=
ob1 (f_X2_votingWeight M) fun r_1 =>
ob2 (f_X2_clearTrueShifts_L12 a2 r_1 1000 (0 : Int32) (0 : Int32) M) fun x4_5 M_6 =>
some (x4_5, M_6)


def f_X3_isLateEnough (a0 : Nat) (x1 : Int32) (M : Mm) : Option Int32 :=
(if (x1 - (gI M a0 4)) < (1000 : Int32) then (
some (0 : Int32)) else (
some (1 : Int32)))


def f_X10_quotient (x0 : Int64) (x2 : Int64) (M : Mm) : Option Int64 :=
(if x2 = (0 : Int64) then (
some (0 : Int64)) else (
chk (decide (¬ x2 = 0)) <|
some (x0 / x2)))


def f_X10_limited (x0 : Int64) (x2 : Int32) (M : Mm) : Option Int32 :=
(if x0 ≤ (Int32.toInt64 x2) then (
(if (Int32.toInt64 (-x2)) ≤ x0 then (
some (Int64.toInt32 x0)) else (
some (-x2)))) else (
some x2))


def f_X3_velocityFrom (a0 : Nat) (x1 : Int32) (x2 : Int32) (M : Mm) : Option Int32 :=
lt1 ((Int32.toInt64 (x1 - (gI M a0 4)))) fun x3_1 =>
lt1 ((Int32.toInt64 (x2 - (gI M a0 4)))) fun x5_2 =>
ob1 (f_X10_quotient (((Int32.toInt64 (gI M a0 0)) * (Int32.toInt64 (gI M a0 0))) * (500000 : Int64)) (Int32.toInt64 (gI M a0 1)) M) fun r_3 =>
ob1 (f_X10_quotient (r_3 * (x5_2 - x3_1)) ((x3_1 * x5_2) / (1000 : Int64)) M) fun r_4 =>
ob1 (f_X10_limited r_4 (100000 : Int32) M) fun r_5 =>
some r_5


def f_X2_decideOutcomes_L12 (x2 : Int32) : Nat → Int32 → Mm → Option Mm
  | 0, _, _ => none
  | n + 1, x3_3, M_4 =>
    (if (4 : Int32) ≤ x3_3 then (
    some M_4) else (
    chk (inb x3_3 4) <|
    chk (inb x3_3 4) <|
    lt1 (((gI M_4 ((rid 50 1 (ix x3_3)) + 1) 1) - ((gI M_4 234 (ix x3_3)) * (gI M_4 (rid 50 1 (ix x3_3)) 3)))) fun x6_5 =>
    chk (inb x3_3 4) <|
    lt1 (((gI M_4 ((rid 50 1 (ix x3_3)) + 1) 2) - ((gI M_4 235 (ix x3_3)) * (gI M_4 (rid 50 1 (ix x3_3)) 3)))) fun x7_6 =>
    chk (inb x3_3 4) <|
    chk (inb x3_3 4) <|
    lt1 ((jmax (jabs (gI M_4 234 (ix x3_3))) (jabs (gI M_4 235 (ix x3_3))))) fun x8_7 =>
    chk (inb x3_3 4) <|
    lt1 (wI M_4 237 (ix x3_3) (-2000000005 : Int32)) fun M_8 =>
    ob1 ((if (gI M_8 ((rid 50 1 (ix x3_3)) + 1) 0) = (0 : Int32) then (
    chk (inb x3_3 4) <|
    lt1 (wI M_8 236 (ix x3_3) (0 : Int32)) fun M_23 =>
    some M_23) else (
    (if (gI M_8 13 0) ≤ (gI M_8 ((rid 50 1 (ix x3_3)) + 1) 3) then (
    (if x2 < x8_7 then (
    chk (inb x3_3 4) <|
    lt1 (wI M_8 236 (ix x3_3) (2 : Int32)) fun M_10 =>
    some M_10) else (
    ob1 (f_X3_isLateEnough (rid 50 1 (ix x3_3)) x6_5 M_8) fun r_11 =>
    (if r_11 = (0 : Int32) then (
    chk (inb x3_3 4) <|
    lt1 (wI M_8 236 (ix x3_3) (2 : Int32)) fun M_12 =>
    some M_12) else (
    ob1 (f_X3_isLateEnough (rid 50 1 (ix x3_3)) x7_6 M_8) fun r_13 =>
    (if r_13 = (0 : Int32) then (
    chk (inb x3_3 4) <|
    lt1 (wI M_8 236 (ix x3_3) (2 : Int32)) fun M_21 =>
    some M_21) else (
    ob1 ((if x8_7 = (0 : Int32) then (
    some (4 : Int32)) else (
    some (3 : Int32)))) fun y_14 =>
    chk (inb x3_3 4) <|
    lt1 (wI M_8 236 (ix x3_3) y_14) fun M_15 =>
    ob1 (f_X3_velocityFrom (rid 50 1 (ix x3_3)) x6_5 x7_6 M_15) fun r_16 =>
    chk (inb x3_3 4) <|
    lt1 (wI M_15 237 (ix x3_3) r_16) fun M_17 =>
    lt1 (wI M_17 232 6 ((gI M_17 232 6) ||| ((1 : Int32) <<< (x3_3 &&& 31)))) fun M_18 =>
    ob1 ((if x8_7 = (0 : Int32) then (
    some (0 : Int32)) else (
    some ((1 : Int32) <<< (x3_3 &&& 31))))) fun y_19 =>
    lt1 (wI M_18 232 7 ((gI M_18 232 7) ||| y_19)) fun M_20 =>
    some M_20))))))) else (
    chk (inb x3_3 4) <|
    lt1 (wI M_8 236 (ix x3_3) (1 : Int32)) fun M_22 =>
    some M_22))))) fun M_9 =>
    lt1 (x3_3 + (1 : Int32)) fun x3_24 =>
    f_X2_decideOutcomes_L12 x2 n x3_24 M_9))

def f_X2_decideOutcomes (x2 : Int32) (M : Mm) : Option Mm :=
lt1 (wI M 232 6 (0 : Int32)) fun M_1 =>
lt1 (wI M_1 232 7 (0 : Int32)) fun M_2 =>
f_X2_decideOutcomes_L12 x2 1000 (0 : Int32) M_2


def f_X10_contains (x0 : Int32) (x1 : Int32) (M : Mm) : Option Int32 :=
(if ((x0 >>> (x1 &&& 31)) &&& (1 : Int32)) = (0 : Int32) then (
some (0 : Int32)) else (
some (1 : Int32)))


def f_X2_weightedMean_L8 (M : Mm) (x2 : Int32) : Nat → Int64 → Int64 → Int32 → Option (Int64 × Int64)
  | 0, _, _, _ => none
  | n + 1, x3_1, x5_2, x7_3 =>
    (if (4 : Int32) ≤ x7_3 then (
    some (x3_1, x5_2)) else (
    ob1 (f_X10_contains x2 x7_3 M) fun r_6 =>
    ob2 ((if r_6 = (0 : Int32) then (
    some (x3_1, x5_2)) else (
    chk (inb x7_3 4) <|
    chk (inb x7_3 4) <|
    lt1 ((x3_1 + ((Int32.toInt64 (gI M (rid 50 1 (ix x7_3)) 2)) * (Int32.toInt64 (gI M 237 (ix x7_3)))))) fun x3_9 =>
    chk (inb x7_3 4) <|
    lt1 ((x5_2 + (Int32.toInt64 (gI M (rid 50 1 (ix x7_3)) 2)))) fun x5_10 =>
    some (x3_9, x5_10)))) fun x3_7 x5_8 =>
    lt1 (x7_3 + (1 : Int32)) fun x7_11 =>
    f_X2_weightedMean_L8 M x2 n x3_7 x5_8 x7_11))

def f_X2_weightedMean (x2 : Int32) (M : Mm) : Option Int32 :=
ob2 (f_X2_weightedMean_L8 M x2 1000 (0 : Int64) (0 : Int64) (0 : Int32)) fun x3_4 x5_5 =>
ob1 (f_X10_quotient x3_4 x5_5 M) fun r_12 =>
some (Int64.toInt32 r_12)


def f_X2_substituteFrom_L2 (x2 : Int32) : Nat → Int32 → Mm → Option Mm
  | 0, _, _ => none
  | n + 1, x3_1, M_2 =>
    (if (4 : Int32) ≤ x3_1 then (
    some M_2) else (
    chk (inb x3_1 4) <|
    ob1 (f_X10_contains (gI M_2 232 6) x3_1 M_2) fun r_3 =>
    ob1 ((if r_3 = (0 : Int32) then (
    (if (gI M_2 (rid 50 1 (ix x3_1)) 8) = (0 : Int32) then (
    some M_2) else (
    chk (inb x3_1 4) <|
    lt1 (wI M_2 237 (ix x3_1) (Int64.toInt32 (((Int32.toInt64 x2) * (Int32.toInt64 (gI M_2 (rid 50 1 (ix x3_1)) 9))) / (1000 : Int64)))) fun M_5 =>
    lt1 (wI M_5 232 8 ((gI M_5 232 8) ||| ((1 : Int32) <<< (x3_1 &&& 31)))) fun M_6 =>
    some M_6))) else (
    some M_2))) fun M_4 =>
    lt1 (x3_1 + (1 : Int32)) fun x3_7 =>
    f_X2_substituteFrom_L2 x2 n x3_7 M_4))

def f_X2_substituteFrom (x2 : Int32) (M : Mm) : Option Mm :=
f_X2_substituteFrom_L2 x2 1000 (0 : Int32) M


def f_X4_factorFor_L7 (M : Mm) (x2_1 : Int32) : Nat → Int32 → Option Int32
  | 0, _ => none
  | n + 1, x3_2 =>
    (if (6 : Int32) ≤ x3_2 then (
    some x3_2) else (
    (if (gI M 10 2) ≤ x3_2 then (
    some x3_2) else (
    chk (inb x3_2 6) <|
    (if x2_1 ≤ (gI M 11 (ix x3_2)) then (
    some x3_2) else (
    lt1 (x3_2 + (1 : Int32)) fun x3_4 =>
    f_X4_factorFor_L7 M x2_1 n x3_4))))))

def f_X4_factorFor (x1 : Int32) (M : Mm) : Option Int32 :=
lt1 ((jabs x1)) fun x2_1 =>
ob1 (f_X4_factorFor_L7 M x2_1 1000 (0 : Int32)) fun x3_3 =>
(if (gI M 10 2) = (0 : Int32) then (
some (1000 : Int32)) else (
(if x3_3 = (0 : Int32) then (
some (gI M 12 0)) else (
lt1 ((x3_3 - (1 : Int32))) fun x4_5 =>
(if (6 : Int32) ≤ x3_3 then (
chk (inb x4_5 6) <|
some (gI M 12 (ix x4_5))) else (
(if x3_3 < (gI M 10 2) then (
chk (inb x4_5 6) <|
lt1 ((Int32.toInt64 (gI M 11 (ix x4_5)))) fun x5_6 =>
chk (inb x3_3 6) <|
lt1 ((Int32.toInt64 (gI M 11 (ix x3_3)))) fun x7_7 =>
chk (inb x4_5 6) <|
chk (inb x3_3 6) <|
ob1 (f_X10_quotient (((Int32.toInt64 (gI M 12 (ix x4_5))) * (x7_7 - (Int32.toInt64 x2_1))) + ((Int32.toInt64 (gI M 12 (ix x3_3))) * ((Int32.toInt64 x2_1) - x5_6))) (x7_7 - x5_6) M) fun r_8 =>
some (Int64.toInt32 r_8)) else (
chk (inb x4_5 6) <|
some (gI M 12 (ix x4_5))))))))))


def f_X2_averageVelocities (M : Mm) : Option Mm :=
lt1 (wI M 232 8 (0 : Int32)) fun M_1 =>
lt1 (wI M_1 232 9 (-2000000005 : Int32)) fun M_2 =>
lt1 (wI M_2 232 10 (-2000000005 : Int32)) fun M_3 =>
(if (gI M_3 232 6) = (0 : Int32) then (
some M_3) else (
ob1 (f_X2_weightedMean (gI M_3 232 6) M_3) fun r_4 =>
ob1 (f_X2_substituteFrom r_4 M_3) fun M_5 =>
ob1 (f_X2_weightedMean ((gI M_5 232 6) ||| (gI M_5 232 8)) M_5) fun r_6 =>
lt1 (wI M_5 232 9 r_6) fun M_7 =>
ob1 (f_X4_factorFor (gI M_7 232 9) M_7) fun r_8 =>
lt1 (wI M_7 232 10 (Int64.toInt32 (((Int32.toInt64 (gI M_7 232 9)) * (Int32.toInt64 r_8)) / (1000 : Int64)))) fun M_9 =>
some M_9))


def f_X2_judge (x2 : Int32) (M : Mm) : Option Mm :=
ob1 (f_X2_findShifts M) fun M_1 =>
ob2 (f_X2_clearTrueShifts 234 M_1) fun r_3 M_2 =>
ob2 (f_X2_clearTrueShifts 235 M_2) fun r_5 M_4 =>
lt1 (wI M_4 232 5 (r_3 + r_5)) fun M_6 =>
ob1 (f_X2_decideOutcomes x2 M_6) fun M_7 =>
ob1 (f_X2_averageVelocities M_7) fun M_8 =>
some M_8


def f_X2_outcomeOf (x1 : Int32) (M : Mm) : Option Int32 :=
(if x1 < (0 : Int32) then (
some (0 : Int32)) else (
(if (4 : Int32) ≤ x1 then (
some (0 : Int32)) else (
chk (inb x1 4) <|
some (gI M 236 (ix x1))))))


def f_X2_hasOutlier_L10 (M : Mm) : Nat → Int32 → Option Int32
  | 0, _ => none
  | n + 1, x3_1 =>
    (if (4 : Int32) ≤ x3_1 then (
    some (0 : Int32)) else (
    chk (inb x3_1 4) <|
    lt1 ((gI M 236 (ix x3_1))) fun x4_2 =>
    (if x4_2 = (2 : Int32) then (
    some (1 : Int32)) else (
    lt1 (x3_1 + (1 : Int32)) fun x3_3 =>
    f_X2_hasOutlier_L10 M n x3_3))))

def f_X2_hasOutlier (M : Mm) : Option Int32 :=
f_X2_hasOutlier_L10 M 1000 (0 : Int32)


def f_X10_asNumber (x0 : Int32) (M : Mm) : Option Int32 :=
(if x0 = (0 : Int32) then (
some (0 : Int32)) else (
some (1 : Int32)))


def f_X2_settlePath (a1 : Nat) (x2 : Int32) (M : Mm) : Option Mm :=
(if x2 < (0 : Int32) then (
some M) else (
(if x2 < (4 : Int32) then (
chk (inb x2 4) <|
lt1 (wI M a1 10 (gI M 236 (ix x2))) fun M_1 =>
chk (inb x2 4) <|
lt1 (wI M_1 a1 11 (gI M_1 237 (ix x2))) fun M_2 =>
chk (inb x2 4) <|
ob1 ((if (gI M_2 236 (ix x2)) = (3 : Int32) then (
some (1 : Int32)) else (
some (0 : Int32)))) fun y_3 =>
ob1 (f_X10_asNumber y_3 M_2) fun r_4 =>
lt1 (wI M_2 a1 13 ((gI M_2 a1 13) + r_4)) fun M_5 =>
chk (inb x2 4) <|
ob1 ((if (gI M_5 236 (ix x2)) = (2 : Int32) then (
some (1 : Int32)) else (
some (0 : Int32)))) fun y_6 =>
ob1 (f_X10_asNumber y_6 M_5) fun r_7 =>
lt1 (wI M_5 a1 14 ((gI M_5 a1 14) + r_7)) fun M_8 =>
ob1 (f_X10_contains (gI M_8 232 6) x2 M_8) fun r_9 =>
(if r_9 = (0 : Int32) then (
lt1 (wI M_8 a1 12 ((gI M_8 a1 12) + (1 : Int32))) fun M_18 =>
some M_18) else (
lt1 (wI M_8 a1 12 (0 : Int32)) fun M_10 =>
lt1 (wI M_10 a1 5 (1 : Int32)) fun M_11 =>
chk (inb x2 4) <|
lt1 (wI M_11 a1 6 ((gI M_11 (a1 + 1) 1) - ((gI M_11 234 (ix x2)) * (gI M_11 a1 3)))) fun M_12 =>
chk (inb x2 4) <|
lt1 (wI M_12 a1 7 ((gI M_12 (a1 + 1) 2) - ((gI M_12 235 (ix x2)) * (gI M_12 a1 3)))) fun M_13 =>
(if (gI M_13 232 9) = (0 : Int32) then (
some M_13) else (
lt1 (wI M_13 a1 8 (1 : Int32)) fun M_14 =>
chk (inb x2 4) <|
ob1 (f_X10_quotient ((Int32.toInt64 (gI M_14 237 (ix x2))) * (1000 : Int64)) (Int32.toInt64 (gI M_14 232 9)) M_14) fun r_15 =>
ob1 (f_X10_limited r_15 (5000 : Int32) M_14) fun r_16 =>
lt1 (wI M_14 a1 9 r_16) fun M_17 =>
some M_17))))) else (
some M))))


def piR (k : Nat) : Nat := if k = 16 then 27 else if 17 ≤ k ∧ k ≤ 27 then k - 1 else k
def shR (M : Mm) : Mm := (fun k => M.1 (piR k), fun k => M.2 (piR k))
def f_X6_startLatest (M : Mm) : Option Mm := some (wI (shR M) 14 1 (jmin (gI M 14 1 + (1 : Int32)) (12 : Int32)))

def f_X2_fillIn (M : Mm) : Option Mm :=
lt1 (wI M 16 0 (gI M 232 10)) fun M_1 =>
lt1 (wI M_1 16 1 (gI M_1 232 9)) fun M_2 =>
lt1 (wI M_2 16 2 (gI M_2 232 6)) fun M_3 =>
lt1 (wI M_3 16 3 (gI M_3 232 7)) fun M_4 =>
lt1 (wI M_4 16 4 (gI M_4 232 8)) fun M_5 =>
lt1 (wI M_5 16 5 (gI M_5 232 5)) fun M_6 =>
some M_6


def f_X8_countVolume (x1 : Int32) (M : Mm) : Option Mm :=
lt1 (((((Int32.toInt64 x1) * (Int32.toInt64 (gI M 13 3))) * (Int32.toInt64 (gI M 13 4))) / (1000 : Int64))) fun x2_1 =>
(if x2_1 ≤ (0 : Int64) then (
lt1 (wJ M 0 9 ((gJ M 0 9) - x2_1)) fun M_2 =>
some M_2) else (
lt1 (wJ M 0 8 ((gJ M 0 8) + x2_1)) fun M_3 =>
some M_3))


def f_X2_settle_L2 : Nat → Int32 → Mm → Option Mm
  | 0, _, _ => none
  | n + 1, x2_1, M_2 =>
    (if (4 : Int32) ≤ x2_1 then (
    some M_2) else (
    (if (gI M_2 0 1) ≤ x2_1 then (
    some M_2) else (
    chk (inb x2_1 4) <|
    ob1 (f_X2_settlePath (rid 50 1 (ix x2_1)) x2_1 M_2) fun M_4 =>
    lt1 (x2_1 + (1 : Int32)) fun x2_5 =>
    f_X2_settle_L2 n x2_5 M_4))))

def f_X2_settle_L43 : Nat → Int32 → Mm → Option Mm
  | 0, _, _ => none
  | n + 1, x4_6, M_7 =>
    (if (4 : Int32) ≤ x4_6 then (
    some M_7) else (
    chk (inb x4_6 4) <|
    lt1 (wI M_7 ((rid 50 1 (ix x4_6)) + 1) 0 (0 : Int32)) fun M_9 =>
    lt1 (x4_6 + (1 : Int32)) fun x4_10 =>
    f_X2_settle_L43 n x4_10 M_9))

def f_X2_settle (M : Mm) : Option Mm :=
ob1 (f_X2_settle_L2 1000 (0 : Int32) M) fun M_3 =>
ob1 (f_X2_settle_L43 1000 (0 : Int32) M_3) fun M_8 =>
ob1 (f_X6_startLatest M_8) fun M_11 =>
ob1 (f_X2_fillIn M_11) fun M_13 =>
lt1 (wI M_13 0 6 ((gI M_13 0 6) + (1 : Int32))) fun M_14 =>
(if (gI M_14 232 6) = (0 : Int32) then (
lt1 (wI M_14 0 7 ((gI M_14 0 7) + (1 : Int32))) fun M_16 =>
some M_16) else (
ob1 (f_X8_countVolume (gI M_14 232 10) M_14) fun M_15 =>
some M_15))


def f_X3_fails (a0 : Nat) (M : Mm) : Option Int32 :=
(if (gI M a0 12) < (3 : Int32) then (
some (0 : Int32)) else (
some (1 : Int32)))


def f_X3_property (a0 : Nat) (x1 : Int32) (M : Mm) : Option Int32 :=
(if x1 = (0 : Int32) then (
some (gI M a0 0)) else (
(if x1 = (1 : Int32) then (
some (gI M a0 1)) else (
(if x1 = (2 : Int32) then (
some (gI M a0 2)) else (
(if x1 = (3 : Int32) then (
some (gI M a0 3)) else (
(if x1 = (4 : Int32) then (
some (gI M a0 4)) else (
(if x1 = (5 : Int32) then (
(if (gI M a0 5) = (0 : Int32) then (
some (-2000000005 : Int32)) else (
some (gI M a0 6)))) else (
(if x1 = (6 : Int32) then (
(if (gI M a0 5) = (0 : Int32) then (
some (-2000000005 : Int32)) else (
some (gI M a0 7)))) else (
(if x1 = (7 : Int32) then (
(if (gI M a0 8) = (0 : Int32) then (
some (-2000000005 : Int32)) else (
some (gI M a0 9)))) else (
(if x1 = (8 : Int32) then (
some (gI M a0 10)) else (
(if x1 = (9 : Int32) then (
some (gI M a0 11)) else (
(if x1 = (10 : Int32) then (
some (gI M a0 12)) else (
(if x1 = (11 : Int32) then (
some (gI M a0 13)) else (
(if x1 = (12 : Int32) then (
some (gI M a0 14)) else (
(if x1 = (13 : Int32) then (
ob1 (f_X3_fails a0 M) fun r_1 =>
ob1 (f_X10_asNumber r_1 M) fun r_2 =>
some r_2) else (
some (-2000000002 : Int32)))))))))))))))))))))))))))))


def f_X3_canTake (a0 : Nat) (x1 : Int32) (M : Mm) : Option Int32 :=
ob1 (f_X10_isWithin x1 (1000 : Int32) (9999999 : Int32) M) fun r_1 =>
(if r_1 = (0 : Int32) then (
some (0 : Int32)) else (
ob1 (f_X3_isLateEnough a0 x1 M) fun r_2 =>
(if r_2 = (0 : Int32) then (
some (0 : Int32)) else (
some (1 : Int32)))))


def f_X3_speedOfSound (a0 : Nat) (M : Mm) : Option Int64 :=
lt1 ((Int32.toInt64 ((gI M a0 6) - (gI M a0 4)))) fun x1_1 =>
lt1 ((Int32.toInt64 ((gI M a0 7) - (gI M a0 4)))) fun x3_2 =>
ob1 (f_X10_quotient (((Int32.toInt64 (gI M a0 0)) * (500000 : Int64)) * (x1_1 + x3_2)) ((x1_1 * x3_2) / (1000 : Int64)) M) fun r_3 =>
some r_3


def f_X3_idealTime (a0 : Nat) (x1 : Int32) (x2 : Int32) (M : Mm) : Option Int32 :=
ob1 (f_X10_quotient ((Int32.toInt64 x2) * (Int32.toInt64 (gI M a0 1))) (Int32.toInt64 (gI M a0 0)) M) fun r_1 =>
lt1 ((((Int32.toInt64 x1) * (1000 : Int64)) + r_1)) fun x3_2 =>
ob1 (f_X10_quotient ((Int32.toInt64 (gI M a0 0)) * (1000000000 : Int64)) x3_2 M) fun r_3 =>
some ((Int64.toInt32 r_3) + (gI M a0 4))


def f_X7_exchangeTimes (a0 : Nat) (M : Mm) : Option Mm :=
lt1 ((gI M a0 1)) fun x1_1 =>
lt1 (wI M a0 1 (gI M a0 2)) fun M_2 =>
lt1 (wI M_2 a0 2 x1_1) fun M_3 =>
some M_3


def f_X3_exchangeTimes (a0 : Nat) (M : Mm) : Option Mm :=
lt1 ((gI M a0 6)) fun x1_1 =>
lt1 (wI M a0 6 (gI M a0 7)) fun M_2 =>
lt1 (wI M_2 a0 7 x1_1) fun M_3 =>
ob1 (f_X7_exchangeTimes (a0 + 1) M_3) fun M_4 =>
some M_4


def f_X3_isTrustedBefore (a0 : Nat) (a1 : Nat) (x2 : Int32) (M : Mm) : Option Int32 :=
ob1 (f_X3_fails a0 M) fun r_1 =>
ob1 (f_X3_fails a1 M) fun r_2 =>
(if r_1 = r_2 then (
(if (gI M a0 12) = (gI M a1 12) then (
lt1 (((gI M a0 13) + (gI M a0 14))) fun x3_3 =>
lt1 (((gI M a1 13) + (gI M a1 14))) fun x4_4 =>
(if x3_3 = x4_4 then (
(if (gI M a0 2) = (gI M a1 2) then (
chk (bz x2) <|
some x2) else (
(if (gI M a0 2) ≤ (gI M a1 2) then (
some (0 : Int32)) else (
some (1 : Int32)))))) else (
(if x4_4 ≤ x3_3 then (
some (0 : Int32)) else (
some (1 : Int32)))))) else (
(if (gI M a1 12) ≤ (gI M a0 12) then (
some (0 : Int32)) else (
some (1 : Int32)))))) else (
ob1 (f_X3_fails a1 M) fun r_5 =>
chk (bz r_5) <|
some r_5))


def f_X4_find_L2 (M : Mm) (x1 : Int32) : Nat → Int32 → Option Int32
  | 0, _ => none
  | n + 1, x2_1 =>
    (if (6 : Int32) ≤ x2_1 then (
    some (-1 : Int32)) else (
    (if (gI M 10 2) ≤ x2_1 then (
    some (-1 : Int32)) else (
    chk (inb x2_1 6) <|
    (if (gI M 11 (ix x2_1)) = x1 then (
    some x2_1) else (
    lt1 (x2_1 + (1 : Int32)) fun x2_2 =>
    f_X4_find_L2 M x1 n x2_2))))))

def f_X4_find (x1 : Int32) (M : Mm) : Option Int32 :=
f_X4_find_L2 M x1 1000 (0 : Int32)


def f_X4_put_L53 (x1 : Int32) : Nat → Int32 → Int32 → Mm → Option (Int32 × Mm)
  | 0, _, _, _ => none
  | n + 1, x4_4, x5_5, M_6 =>
    (if x5_5 ≤ (0 : Int32) then (
    some (x4_4, M_6)) else (
    chk (inb (x5_5 - (1 : Int32)) 6) <|
    (if (gI M_6 11 (ix (x5_5 - (1 : Int32)))) ≤ x1 then (
    some (x4_4, M_6)) else (
    chk (inb (x5_5 - (1 : Int32)) 6) <|
    chk (inb x5_5 6) <|
    lt1 (wI M_6 11 (ix x5_5) (gI M_6 11 (ix (x5_5 - (1 : Int32))))) fun M_9 =>
    chk (inb (x5_5 - (1 : Int32)) 6) <|
    chk (inb x5_5 6) <|
    lt1 (wI M_9 12 (ix x5_5) (gI M_9 12 (ix (x5_5 - (1 : Int32))))) fun M_10 =>
    lt1 ((x5_5 - (1 : Int32))) fun x4_11 =>
    lt1 (x5_5 + (-1 : Int32)) fun x5_12 =>
    f_X4_put_L53 x1 n x4_11 x5_12 M_10))))

def f_X4_put_L53_2 (x1 : Int32) : Nat → Int32 → Int32 → Mm → Option (Int32 × Mm)
  | 0, _, _, _ => none
  | n + 1, x4_18, x5_19, M_20 =>
    (if x5_19 ≤ (0 : Int32) then (
    some (x4_18, M_20)) else (
    chk (inb (x5_19 - (1 : Int32)) 6) <|
    (if (gI M_20 11 (ix (x5_19 - (1 : Int32)))) ≤ x1 then (
    some (x4_18, M_20)) else (
    chk (inb (x5_19 - (1 : Int32)) 6) <|
    chk (inb x5_19 6) <|
    lt1 (wI M_20 11 (ix x5_19) (gI M_20 11 (ix (x5_19 - (1 : Int32))))) fun M_23 =>
    chk (inb (x5_19 - (1 : Int32)) 6) <|
    chk (inb x5_19 6) <|
    lt1 (wI M_23 12 (ix x5_19) (gI M_23 12 (ix (x5_19 - (1 : Int32))))) fun M_24 =>
    lt1 ((x5_19 - (1 : Int32))) fun x4_25 =>
    lt1 (x5_19 + (-1 : Int32)) fun x5_26 =>
    f_X4_put_L53_2 x1 n x4_25 x5_26 M_24))))

def f_X4_put (x1 : Int32) (x2 : Int32) (M : Mm) : Option Mm :=
ob1 (f_X4_find x1 M) fun r_1 =>
(if r_1 < (0 : Int32) then (
(if (gI M 10 2) < (0 : Int32) then (
some M) else (
(if (gI M 10 2) < (6 : Int32) then (
lt1 ((gI M 10 2)) fun x4_2 =>
lt1 ((gI M 10 2)) fun x5_3 =>
ob2 (f_X4_put_L53 x1 1000 x4_2 x5_3 M) fun x4_7 M_8 =>
chk (inb x4_7 6) <|
lt1 (wI M_8 11 (ix x4_7) x1) fun M_13 =>
chk (inb x4_7 6) <|
lt1 (wI M_13 12 (ix x4_7) x2) fun M_14 =>
lt1 (wI M_14 10 2 ((gI M_14 10 2) + (1 : Int32))) fun M_15 =>
some M_15) else (
some M))))) else (
(if (6 : Int32) ≤ r_1 then (
(if (gI M 10 2) < (0 : Int32) then (
some M) else (
(if (gI M 10 2) < (6 : Int32) then (
lt1 ((gI M 10 2)) fun x4_16 =>
lt1 ((gI M 10 2)) fun x5_17 =>
ob2 (f_X4_put_L53_2 x1 1000 x4_16 x5_17 M) fun x4_21 M_22 =>
chk (inb x4_21 6) <|
lt1 (wI M_22 11 (ix x4_21) x1) fun M_27 =>
chk (inb x4_21 6) <|
lt1 (wI M_27 12 (ix x4_21) x2) fun M_28 =>
lt1 (wI M_28 10 2 ((gI M_28 10 2) + (1 : Int32))) fun M_29 =>
some M_29) else (
some M))))) else (
chk (inb r_1 6) <|
lt1 (wI M 12 (ix r_1) x2) fun M_30 =>
some M_30))))


def f_X4_take_L32 : Nat → Int32 → Mm → Option Mm
  | 0, _, _ => none
  | n + 1, x3_3, M_4 =>
    (if (6 : Int32) ≤ x3_3 then (
    some M_4) else (
    (if (gI M_4 10 2) ≤ x3_3 then (
    some M_4) else (
    chk (inb x3_3 6) <|
    chk (inb (x3_3 - (1 : Int32)) 6) <|
    lt1 (wI M_4 11 (ix (x3_3 - (1 : Int32))) (gI M_4 11 (ix x3_3))) fun M_6 =>
    chk (inb x3_3 6) <|
    chk (inb (x3_3 - (1 : Int32)) 6) <|
    lt1 (wI M_6 12 (ix (x3_3 - (1 : Int32))) (gI M_6 12 (ix x3_3))) fun M_7 =>
    lt1 (x3_3 + (1 : Int32)) fun x3_8 =>
    f_X4_take_L32 n x3_8 M_7))))

def f_X4_take (x1 : Int32) (M : Mm) : Option (Int32 × Mm) :=
(if x1 < (0 : Int32) then (
some ((-2000000003 : Int32), M)) else (
(if (gI M 10 2) ≤ x1 then (
some ((-2000000003 : Int32), M)) else (
(if x1 < (6 : Int32) then (
chk (inb x1 6) <|
lt1 ((gI M 12 (ix x1))) fun x2_1 =>
lt1 ((x1 + (1 : Int32))) fun x3_2 =>
ob1 (f_X4_take_L32 1000 x3_2 M) fun M_5 =>
lt1 (wI M_5 10 2 ((gI M_5 10 2) - (1 : Int32))) fun M_9 =>
some (x2_1, M_9)) else (
some ((-2000000003 : Int32), M)))))))


def f_X6_latest (x1 : Int32) (M : Mm) : Option (Option Nat) :=
(if x1 < (0 : Int32) then (
some (none : Option Nat)) else (
(if (gI M 14 1) ≤ x1 then (
some (none : Option Nat)) else (
(if (12 : Int32) ≤ x1 then (
some (none : Option Nat)) else (
chk (inb x1 12) <|
some (some (rid 51 15 (ix x1)))))))))


def f_X6_isMeasured (x1 : Int32) (M : Mm) : Option Int32 :=
(if x1 < (0 : Int32) then (
some (0 : Int32)) else (
(if (gI M 14 1) ≤ x1 then (
some (0 : Int32)) else (
(if (12 : Int32) ≤ x1 then (
some (0 : Int32)) else (
chk (inb x1 12) <|
(if (gI M (rid 51 15 (ix x1)) 0) = (-2000000005 : Int32) then (
some (0 : Int32)) else (
some (1 : Int32)))))))))


def f_X6_measuredCount_L4 (M : Mm) : Nat → Int32 → Int32 → Option Int32
  | 0, _, _ => none
  | n + 1, x1_1, x2_2 =>
    (if (12 : Int32) ≤ x2_2 then (
    some x1_1) else (
    ob1 (f_X6_isMeasured x2_2 M) fun r_4 =>
    ob1 (f_X10_asNumber r_4 M) fun r_5 =>
    lt1 ((x1_1 + r_5)) fun x1_6 =>
    lt1 (x2_2 + (1 : Int32)) fun x2_7 =>
    f_X6_measuredCount_L4 M n x1_6 x2_7))

def f_X6_measuredCount (M : Mm) : Option Int32 :=
ob1 (f_X6_measuredCount_L4 M 1000 (0 : Int32) (0 : Int32)) fun x1_3 =>
some x1_3


def f_X6_countUpTo_L4 (M : Mm) (x1 : Int32) : Nat → Int32 → Int32 → Option Int32
  | 0, _, _ => none
  | n + 1, x2_1, x3_2 =>
    (if (12 : Int32) ≤ x3_2 then (
    some x2_1) else (
    ob1 (f_X6_isMeasured x3_2 M) fun r_4 =>
    ob1 ((if r_4 = (0 : Int32) then (
    some x2_1) else (
    chk (inb x3_2 12) <|
    (if x1 < (gI M (rid 51 15 (ix x3_2)) 0) then (
    some x2_1) else (
    lt1 (x2_1 + (1 : Int32)) fun x2_6 =>
    some x2_6))))) fun x2_5 =>
    lt1 (x3_2 + (1 : Int32)) fun x3_7 =>
    f_X6_countUpTo_L4 M x1 n x2_5 x3_7))

def f_X6_countUpTo (x1 : Int32) (M : Mm) : Option Int32 :=
ob1 (f_X6_countUpTo_L4 M x1 1000 (0 : Int32) (0 : Int32)) fun x2_3 =>
some x2_3


def f_X6_ranked_L2 (M : Mm) (x1 : Int32) : Nat → Int32 → Option Int32
  | 0, _ => none
  | n + 1, x2_1 =>
    (if (12 : Int32) ≤ x2_1 then (
    some (-2000000005 : Int32)) else (
    ob1 (f_X6_isMeasured x2_1 M) fun r_2 =>
    (if r_2 = (0 : Int32) then (
    lt1 (x2_1 + (1 : Int32)) fun x2_3 =>
    f_X6_ranked_L2 M x1 n x2_3) else (
    chk (inb x2_1 12) <|
    lt1 ((gI M (rid 51 15 (ix x2_1)) 0)) fun x3_4 =>
    ob1 (f_X6_countUpTo (x3_4 - (1 : Int32)) M) fun r_5 =>
    (if x1 < r_5 then (
    lt1 (x2_1 + (1 : Int32)) fun x2_6 =>
    f_X6_ranked_L2 M x1 n x2_6) else (
    ob1 (f_X6_countUpTo x3_4 M) fun r_7 =>
    (if r_7 ≤ x1 then (
    lt1 (x2_1 + (1 : Int32)) fun x2_8 =>
    f_X6_ranked_L2 M x1 n x2_8) else (
    some x3_4))))))))

def f_X6_ranked (x1 : Int32) (M : Mm) : Option Int32 :=
f_X6_ranked_L2 M x1 1000 (0 : Int32)


def f_X6_average_L4 (M : Mm) : Nat → Int64 → Int32 → Option Int64
  | 0, _, _ => none
  | n + 1, x1_1, x3_2 =>
    (if (12 : Int32) ≤ x3_2 then (
    some x1_1) else (
    ob1 (f_X6_isMeasured x3_2 M) fun r_4 =>
    ob1 ((if r_4 = (0 : Int32) then (
    some x1_1) else (
    chk (inb x3_2 12) <|
    lt1 ((x1_1 + (Int32.toInt64 (gI M (rid 51 15 (ix x3_2)) 0)))) fun x1_6 =>
    some x1_6))) fun x1_5 =>
    lt1 (x3_2 + (1 : Int32)) fun x3_7 =>
    f_X6_average_L4 M n x1_5 x3_7))

def f_X6_average (M : Mm) : Option Int32 :=
ob1 (f_X6_average_L4 M 1000 (0 : Int64) (0 : Int32)) fun x1_3 =>
ob1 (f_X6_measuredCount M) fun r_8 =>
ob1 (f_X10_quotient x1_3 (Int32.toInt64 r_8) M) fun r_9 =>
some (Int64.toInt32 r_9)


def f_X8_pathAt (x1 : Int32) (M : Mm) : Option (Option Nat) :=
(if x1 < (0 : Int32) then (
some (none : Option Nat)) else (
(if (gI M 0 1) ≤ x1 then (
some (none : Option Nat)) else (
(if (4 : Int32) ≤ x1 then (
some (none : Option Nat)) else (
chk (inb x1 4) <|
some (some (rid 50 1 (ix x1)))))))))


def f_X8_tellShot (x1 : Int32) (x2 : Int32) (x3 : Int32) (x4 : Int32) (M : Mm) : Option Mm :=
ob1 (f_X8_pathAt x1 M) fun r_1 =>
onl r_1 (
some M) fun k_2 => chk (decide (KS true k_2 = 3)) <|
lt1 (wI M (k_2 + 1) 0 (1 : Int32)) fun M_3 =>
ob1 ((if (gI M_3 0 4) = (0 : Int32) then (
some x2) else (
some x3))) fun y_4 =>
lt1 (wI M_3 (k_2 + 1) 1 y_4) fun M_5 =>
ob1 ((if (gI M_5 0 4) = (0 : Int32) then (
some x3) else (
some x2))) fun y_6 =>
lt1 (wI M_5 (k_2 + 1) 2 y_6) fun M_7 =>
lt1 (wI M_7 (k_2 + 1) 3 x4) fun M_8 =>
some M_8


def f_X8_exchangeTimes_L10 : Nat → Int32 → Mm → Option Mm
  | 0, _, _ => none
  | n + 1, x3_1, M_2 =>
    (if (4 : Int32) ≤ x3_1 then (
    some M_2) else (
    chk (inb x3_1 4) <|
    ob1 (f_X3_exchangeTimes (rid 50 1 (ix x3_1)) M_2) fun M_3 =>
    lt1 (x3_1 + (1 : Int32)) fun x3_4 =>
    f_X8_exchangeTimes_L10 n x3_4 M_3))

def f_X8_exchangeTimes (M : Mm) : Option Mm :=
f_X8_exchangeTimes_L10 1000 (0 : Int32) M


def f_X8_toldShots_L13 (M : Mm) : Nat → Int32 → Int32 → Option Int32
  | 0, _, _ => none
  | n + 1, x1_1, x4_2 =>
    (if (4 : Int32) ≤ x4_2 then (
    some x1_1) else (
    chk (inb x4_2 4) <|
    ob1 (f_X10_asNumber (gI M ((rid 50 1 (ix x4_2)) + 1) 0) M) fun r_4 =>
    lt1 ((x1_1 + r_4)) fun x1_5 =>
    lt1 (x4_2 + (1 : Int32)) fun x4_6 =>
    f_X8_toldShots_L13 M n x1_5 x4_6))

def f_X8_toldShots (M : Mm) : Option Int32 :=
ob1 (f_X8_toldShots_L13 M 1000 (0 : Int32) (0 : Int32)) fun x1_3 =>
some x1_3


def f_X8_failingPaths_L13 (M : Mm) : Nat → Int32 → Int32 → Option Int32
  | 0, _, _ => none
  | n + 1, x1_1, x4_2 =>
    (if (4 : Int32) ≤ x4_2 then (
    some x1_1) else (
    chk (inb x4_2 4) <|
    ob1 (f_X3_fails (rid 50 1 (ix x4_2)) M) fun r_4 =>
    ob1 (f_X10_asNumber r_4 M) fun r_5 =>
    lt1 ((x1_1 + r_5)) fun x1_6 =>
    lt1 (x4_2 + (1 : Int32)) fun x4_7 =>
    f_X8_failingPaths_L13 M n x1_6 x4_7))

def f_X8_failingPaths (M : Mm) : Option Int32 :=
ob1 (f_X8_failingPaths_L13 M 1000 (0 : Int32) (0 : Int32)) fun x1_3 =>
some x1_3


def f_X8_placeInTrust_L11 (M : Mm) : Nat → Int32 → Int32 → Option Int32
  | 0, _, _ => none
  | n + 1, x3_3, x4_4 =>
    (if (4 : Int32) ≤ x4_4 then (
    some x3_3) else (
    (if (gI M 0 1) ≤ x4_4 then (
    some x3_3) else (
    some x3_3))))

def f_X8_placeInTrust_L11_2 (M : Mm) (x1 : Int32) (k_2 : Nat) : Nat → Int32 → Int32 → Option Int32
  | 0, _, _ => none
  | n + 1, x3_6, x4_7 =>
    (if (4 : Int32) ≤ x4_7 then (
    some x3_6) else (
    (if (gI M 0 1) ≤ x4_7 then (
    some x3_6) else (
    ob1 ((if x4_7 = x1 then (
    some x3_6) else (
    chk (inb x4_7 4) <|
    ob1 ((if x1 ≤ x4_7 then (
    some (0 : Int32)) else (
    some (1 : Int32)))) fun y_10 =>
    ob1 (f_X3_isTrustedBefore (rid 50 1 (ix x4_7)) k_2 y_10 M) fun r_11 =>
    (if r_11 = (0 : Int32) then (
    some x3_6) else (
    lt1 (x3_6 + (1 : Int32)) fun x3_12 =>
    some x3_12))))) fun x3_9 =>
    lt1 (x4_7 + (1 : Int32)) fun x4_13 =>
    f_X8_placeInTrust_L11_2 M x1 k_2 n x3_9 x4_13))))

def f_X8_placeInTrust (x1 : Int32) (M : Mm) : Option Int32 :=
ob1 (f_X8_pathAt x1 M) fun r_1 =>
onl r_1 (
ob1 (f_X8_placeInTrust_L11 M 1000 (0 : Int32) (0 : Int32)) fun x3_5 =>
some x3_5) fun k_2 => chk (decide (KS true k_2 = 3)) <|
ob1 (f_X8_placeInTrust_L11_2 M x1 k_2 1000 (0 : Int32) (0 : Int32)) fun x3_8 =>
some x3_8


def f_X9_put (x1 : Int32) (M : Mm) : Option Mm :=
(if (gI M 230 1) < (0 : Int32) then (
some M) else (
(if (100 : Int32) ≤ (gI M 230 1) then (
some M) else (
chk (inb (gI M 230 1) 100) <|
lt1 (wI M 231 (ix (gI M 230 1)) x1) fun M_1 =>
lt1 (wI M_1 230 1 ((gI M_1 230 1) + (1 : Int32))) fun M_2 =>
some M_2))))


def f_X10_addPath (x1 : Int32) (x2 : Int32) (x3 : Int32) (x4 : Int32) (x5 : Int32) (M : Mm) : Option (Int32 × Mm) :=
ob1 (f_X10_isWithin x1 (50 : Int32) (2000 : Int32) M) fun r_1 =>
ob1 ((if r_1 = (0 : Int32) then (
some (0 : Int32)) else (
ob1 (f_X10_isWithin x2 (10 : Int32) x1 M) fun r_3 =>
(if r_3 = (0 : Int32) then (
some (0 : Int32)) else (
ob1 (f_X10_isWithin x3 (1 : Int32) (1000 : Int32) M) fun r_4 =>
(if r_4 = (0 : Int32) then (
some (0 : Int32)) else (
ob1 (f_X10_isWithin x4 (100 : Int32) (10000 : Int32) M) fun r_5 =>
(if r_5 = (0 : Int32) then (
some (0 : Int32)) else (
ob1 (f_X10_isWithin x5 (0 : Int32) (5000 : Int32) M) fun r_6 =>
(if r_6 = (0 : Int32) then (
some (0 : Int32)) else (
some (1 : Int32)))))))))))) fun y_2 =>
(if y_2 = (0 : Int32) then (
some ((-2000000002 : Int32), M)) else (
lt1 ((gI M 0 1)) fun x7_7 =>
(if x7_7 < (0 : Int32) then (
some ((-2000000004 : Int32), M)) else (
(if x7_7 < (4 : Int32) then (
ob1 (f_X1_push M) fun M_8 =>
chk (inb x7_7 4) <|
ob1 (f_X3_begin (rid 50 1 (ix x7_7)) x1 x2 x3 x4 x5 M_8) fun M_10 =>
lt1 (wI M_10 0 1 (x7_7 + (1 : Int32))) fun M_11 =>
some (x7_7, M_11)) else (
some ((-2000000004 : Int32), M)))))))


def f_X10_setWeight (x1 : Int32) (x2 : Int32) (M : Mm) : Option (Int32 × Mm) :=
ob1 (f_X8_pathAt x1 M) fun r_1 =>
onl r_1 (
some ((-2000000001 : Int32), M)) fun k_2 => chk (decide (KS true k_2 = 3)) <|
ob1 (f_X10_isWithin x2 (1 : Int32) (1000 : Int32) M) fun r_3 =>
(if r_3 = (0 : Int32) then (
some ((-2000000002 : Int32), M)) else (
chk (stb k_2) <|
ob1 (f_X1_push M) fun M_4 =>
lt1 ((gI M_4 k_2 2)) fun x4_6 =>
lt1 (wI M_4 k_2 2 x2) fun M_7 =>
some (x4_6, M_7)))


def f_X10_setPoint (x1 : Int32) (x2 : Int32) (M : Mm) : Option (Int32 × Mm) :=
ob1 (f_X10_isWithin x1 (0 : Int32) (100000 : Int32) M) fun r_1 =>
(if r_1 = (0 : Int32) then (
some ((-2000000002 : Int32), M)) else (
ob1 (f_X10_isWithin x2 (500 : Int32) (1500 : Int32) M) fun r_2 =>
(if r_2 = (0 : Int32) then (
some ((-2000000002 : Int32), M)) else (
ob1 (f_X4_find x1 M) fun r_3 =>
(if (0 : Int32) ≤ r_3 then (
ob1 (f_X1_push M) fun M_4 =>
ob1 (f_X4_put x1 x2 M_4) fun M_6 =>
some ((gI M_6 10 2), M_6)) else (
(if (gI M 10 2) < (6 : Int32) then (
ob1 (f_X1_push M) fun M_7 =>
ob1 (f_X4_put x1 x2 M_7) fun M_9 =>
some ((gI M_9 10 2), M_9)) else (
some ((-2000000004 : Int32), M)))))))))


def f_X10_removePoint (x1 : Int32) (M : Mm) : Option (Int32 × Mm) :=
ob1 (f_X10_isWithin x1 (0 : Int32) (100000 : Int32) M) fun r_1 =>
(if r_1 = (0 : Int32) then (
some ((-2000000002 : Int32), M)) else (
ob1 (f_X4_find x1 M) fun r_2 =>
(if (0 : Int32) ≤ r_2 then (
ob1 (f_X1_push M) fun M_3 =>
ob2 (f_X4_take r_2 M_3) fun r_6 M_5 =>
some (r_6, M_5)) else (
some ((-2000000003 : Int32), M)))))


def f_X10_set (x1 : Int32) (x2 : Int32) (M : Mm) : Option (Int32 × Mm) :=
(if x1 < (0 : Int32) then (
some ((-2000000001 : Int32), M)) else (
(if x1 < (5 : Int32) then (
chk (inb x1 5) <|
chk (inb x1 5) <|
ob1 (f_X10_isWithin x2 (sSETTING_LOW (ix x1)) (sSETTING_HIGH (ix x1)) M) fun r_1 =>
(if r_1 = (0 : Int32) then (
some ((-2000000002 : Int32), M)) else (
ob1 (f_X1_push M) fun M_2 =>
chk (inb x1 5) <|
lt1 ((gI M_2 13 (ix x1))) fun x3_4 =>
chk (inb x1 5) <|
lt1 (wI M_2 13 (ix x1) x2) fun M_5 =>
some (x3_4, M_5)))) else (
some ((-2000000001 : Int32), M)))))


def f_X10_shotFault (x1 : Int32) (x2 : Int32) (x3 : Int32) (x4 : Int32) (M : Mm) : Option Int32 :=
ob1 (f_X8_pathAt x1 M) fun r_1 =>
onl r_1 (
some (-2000000001 : Int32)) fun k_2 => chk (decide (KS true k_2 = 3)) <|
ob1 (f_X3_canTake k_2 x2 M) fun r_3 =>
ob1 ((if r_3 = (0 : Int32) then (
some (0 : Int32)) else (
ob1 (f_X3_canTake k_2 x3 M) fun r_5 =>
(if r_5 = (0 : Int32) then (
some (0 : Int32)) else (
ob1 (f_X10_isWithin x4 (0 : Int32) (100 : Int32) M) fun r_6 =>
(if r_6 = (0 : Int32) then (
some (0 : Int32)) else (
some (1 : Int32)))))))) fun y_4 =>
(if y_4 = (0 : Int32) then (
some (-2000000002 : Int32)) else (
some (0 : Int32)))


def f_X10_takeShot (x1 : Int32) (x2 : Int32) (x3 : Int32) (x4 : Int32) (M : Mm) : Option (Int32 × Mm) :=
ob1 (f_X10_shotFault x1 x2 x3 x4 M) fun r_1 =>
(if r_1 = (0 : Int32) then (
ob1 (f_X8_tellShot x1 x2 x3 x4 M) fun M_2 =>
ob1 (f_X8_toldShots M_2) fun r_3 =>
some (r_3, M_2)) else (
some (r_1, M)))


def f_X10_shot (x1 : Int32) (x2 : Int32) (x3 : Int32) (x4 : Int32) (M : Mm) : Option (Int32 × Mm) :=
ob1 (f_X10_shotFault x1 x2 x3 x4 M) fun r_1 =>
(if r_1 = (0 : Int32) then (
ob1 (f_X1_push M) fun M_2 =>
ob2 (f_X10_takeShot x1 x2 x3 x4 M_2) fun r_5 M_4 =>
some (r_5, M_4)) else (
some (r_1, M)))


def f_X10_closeRound (M : Mm) : Option (Int32 × Mm) :=
(if (gI M 0 1) = (0 : Int32) then (
some ((-2000000003 : Int32), M)) else (
ob1 (f_X2_judge (gI M 13 1) M) fun M_1 =>
ob1 (f_X2_settle M_1) fun M_2 =>
some ((gI M_2 232 10), M_2)))


def f_X10_close (M : Mm) : Option (Int32 × Mm) :=
(if (gI M 0 1) = (0 : Int32) then (
some ((-2000000003 : Int32), M)) else (
ob1 (f_X1_push M) fun M_1 =>
ob2 (f_X10_closeRound M_1) fun r_4 M_3 =>
some (r_4, M_3)))


def f_X10_swapTransducers (M : Mm) : Option (Int32 × Mm) :=
ob1 (f_X8_exchangeTimes M) fun M_1 =>
ob1 ((if (gI M_1 0 4) = (0 : Int32) then (
some (1 : Int32)) else (
some (0 : Int32)))) fun y_2 =>
chk (bz y_2) <|
lt1 (wI M_1 0 4 y_2) fun M_3 =>
ob1 (f_X10_asNumber (gI M_3 0 4) M_3) fun r_4 =>
some (r_4, M_3)


def f_X10_swap (M : Mm) : Option (Int32 × Mm) :=
ob1 (f_X1_push M) fun M_1 =>
ob2 (f_X10_swapTransducers M_1) fun r_4 M_3 =>
some (r_4, M_3)


def f_X10_forget (x1 : Int32) (M : Mm) : Option (Int32 × Mm) :=
ob1 (f_X8_pathAt x1 M) fun r_1 =>
onl r_1 (
some ((-2000000001 : Int32), M)) fun k_2 => chk (decide (KS true k_2 = 3)) <|
chk (stb k_2) <|
ob1 (f_X1_push M) fun M_3 =>
ob1 (f_X10_asNumber (gI M_3 k_2 5) M_3) fun r_5 =>
lt1 (wI M_3 k_2 5 (0 : Int32)) fun M_6 =>
lt1 (wI M_6 k_2 8 (0 : Int32)) fun M_7 =>
some (r_5, M_7)


def f_X10_append (x1 : Int32) (M : Mm) : Option (Int32 × Mm) :=
ob1 (f_X10_isWithin x1 (32 : Int32) (126 : Int32) M) fun r_1 =>
(if r_1 = (0 : Int32) then (
some ((-2000000002 : Int32), M)) else (
(if (gI M 230 1) < (100 : Int32) then (
ob1 (f_X9_put x1 M) fun M_2 =>
some ((gI M_2 230 1), M_2)) else (
some ((-2000000004 : Int32), M)))))


def f_X10_clearText (M : Mm) : Option (Int32 × Mm) :=
lt1 ((gI M 230 1)) fun x1_1 =>
lt1 (wI M 230 1 (0 : Int32)) fun M_2 =>
some (x1_1, M_2)


def f_X10_faultPosition_L9 : Nat → Int32 → Mm → Option Mm
  | 0, _, _ => none
  | n + 1, x1_2, M_3 =>
    (if (100 : Int32) ≤ x1_2 then (
    some M_3) else (
    ob1 (f_X0_hasMore M_3) fun r_5 =>
    (if r_5 = (0 : Int32) then (
    some M_3) else (
    ob1 (f_X0_readAct M_3) fun M_6 =>
    lt1 (x1_2 + (1 : Int32)) fun x1_7 =>
    f_X10_faultPosition_L9 n x1_7 M_6))))

def f_X10_faultPosition (M : Mm) : Option (Int32 × Mm) :=
ob1 (f_X0_begin M) fun M_1 =>
ob1 (f_X10_faultPosition_L9 1000 (0 : Int32) M_1) fun M_4 =>
(if (gI M_4 229 2) = (0 : Int32) then (
some ((-2000000005 : Int32), M_4)) else (
some ((gI M_4 229 1), M_4)))


def f_X10_carryOutAct (M : Mm) : Option (Int32 × Mm) :=
lt1 ((gI M 229 3)) fun y_1 =>
(if y_1 = (99 : Int32) then (
ob2 (f_X10_closeRound M) fun r_3 M_2 =>
some (r_3, M_2)) else (
(if y_1 = (115 : Int32) then (
ob2 (f_X10_takeShot (gI M 229 4) (gI M 229 5) (gI M 229 6) (gI M 229 7) M) fun r_6 M_5 =>
some (r_6, M_5)) else (
ob2 (f_X10_swapTransducers M) fun r_8 M_7 =>
some (r_8, M_7)))))


def f_X10_isError (x0 : Int32) (M : Mm) : Option Int32 :=
(if x0 = (-2000000001 : Int32) then (
some (1 : Int32)) else (
(if x0 = (-2000000002 : Int32) then (
some (1 : Int32)) else (
(if x0 = (-2000000003 : Int32) then (
some (1 : Int32)) else (
(if x0 = (-2000000004 : Int32) then (
some (1 : Int32)) else (
some (0 : Int32)))))))))


def f_X10_run_L34 : Nat → Int32 → Int32 → Mm → Option (Int32 × Mm)
  | 0, _, _, _ => none
  | n + 1, x1_6, x2_7, M_8 =>
    (if (100 : Int32) ≤ x2_7 then (
    some (x1_6, M_8)) else (
    ob1 (f_X0_hasMore M_8) fun r_10 =>
    (if r_10 = (0 : Int32) then (
    some (x1_6, M_8)) else (
    ob1 (f_X0_readAct M_8) fun M_11 =>
    ob2 (f_X10_carryOutAct M_11) fun r_13 M_12 =>
    ob1 (f_X10_isError r_13 M_12) fun r_15 =>
    (if r_15 = (0 : Int32) then (
    lt1 (x1_6 + (1 : Int32)) fun x1_16 =>
    lt1 (x2_7 + (1 : Int32)) fun x2_17 =>
    f_X10_run_L34 n x1_16 x2_17 M_12) else (
    some (x1_6, M_12)))))))

def f_X10_run (M : Mm) : Option (Int32 × Mm) :=
ob2 (f_X10_faultPosition M) fun r_2 M_1 =>
(if r_2 = (-2000000005 : Int32) then (
ob1 (f_X1_push M_1) fun M_3 =>
ob1 (f_X0_begin M_3) fun M_5 =>
f_X10_run_L34 1000 (0 : Int32) (0 : Int32) M_5) else (
some ((-2000000003 : Int32), M_1)))


def f_X10_undo (M : Mm) : Option (Int32 × Mm) :=
(if (gI M 225 1) = (0 : Int32) then (
some ((-2000000003 : Int32), M)) else (
ob1 (f_X1_pop M) fun M_1 =>
some ((gI M_1 225 1), M_1)))


def f_X10_save (x1 : Int32) (M : Mm) : Option (Int32 × Mm) :=
(if x1 < (0 : Int32) then (
some ((-2000000001 : Int32), M)) else (
(if x1 < (2 : Int32) then (
chk (inb x1 2) <|
ob1 (f_X8_copyFrom (rid 53 227 (ix x1)) 0 M) fun M_1 =>
chk (inb x1 2) <|
lt1 (wI M_1 228 (ix x1) (1 : Int32)) fun M_2 =>
some ((gI M_2 0 6), M_2)) else (
some ((-2000000001 : Int32), M)))))


def f_X10_restore (x1 : Int32) (M : Mm) : Option (Int32 × Mm) :=
(if x1 < (0 : Int32) then (
some ((-2000000001 : Int32), M)) else (
(if x1 < (2 : Int32) then (
chk (inb x1 2) <|
(if (gI M 228 (ix x1)) = (0 : Int32) then (
some ((-2000000003 : Int32), M)) else (
ob1 (f_X1_push M) fun M_1 =>
chk (inb x1 2) <|
ob1 (f_X8_copyFrom 0 (rid 53 227 (ix x1)) M_1) fun M_3 =>
some ((gI M_3 0 6), M_3)))) else (
some ((-2000000001 : Int32), M)))))


def f_X10_path (x1 : Int32) (x2 : Int32) (M : Mm) : Option Int32 :=
ob1 (f_X8_pathAt x1 M) fun r_1 =>
onl r_1 (
some (-2000000001 : Int32)) fun k_2 => chk (decide (KS true k_2 = 3)) <|
ob1 (f_X3_property k_2 x2 M) fun r_3 =>
some r_3


def f_X10_told (x1 : Int32) (x2 : Int32) (M : Mm) : Option Int32 :=
ob1 (f_X8_pathAt x1 M) fun r_1 =>
onl r_1 (
some (-2000000001 : Int32)) fun k_2 => chk (decide (KS true k_2 = 3)) <|
ob1 (f_X10_isWithin x2 (0 : Int32) (2 : Int32) M) fun r_3 =>
(if r_3 = (0 : Int32) then (
some (-2000000002 : Int32)) else (
(if (gI M (k_2 + 1) 0) = (0 : Int32) then (
some (-2000000005 : Int32)) else (
(if x2 = (0 : Int32) then (
some (gI M (k_2 + 1) 1)) else (
(if x2 = (1 : Int32) then (
some (gI M (k_2 + 1) 2)) else (
some (gI M (k_2 + 1) 3)))))))))


def f_X10_sound (x1 : Int32) (M : Mm) : Option Int64 :=
ob1 (f_X8_pathAt x1 M) fun r_1 =>
onl r_1 (
some (-2000000001 : Int64)) fun k_2 => chk (decide (KS true k_2 = 3)) <|
(if (gI M k_2 5) = (0 : Int32) then (
some (-2000000005 : Int64)) else (
ob1 (f_X3_speedOfSound k_2 M) fun r_3 =>
some r_3))


def f_X10_factor (x1 : Int32) (M : Mm) : Option Int32 :=
ob1 (f_X10_isWithin x1 (-100000 : Int32) (100000 : Int32) M) fun r_1 =>
(if r_1 = (0 : Int32) then (
some (-2000000002 : Int32)) else (
ob1 (f_X4_factorFor x1 M) fun r_2 =>
some r_2))


def f_X10_round (x1 : Int32) (x2 : Int32) (M : Mm) : Option Int32 :=
ob1 (f_X6_latest x1 M) fun r_1 =>
onl r_1 (
some (-2000000001 : Int32)) fun k_2 => chk (decide (KS true k_2 = 5)) <|
(if x2 = (0 : Int32) then (
some (gI M k_2 0)) else (
(if x2 = (1 : Int32) then (
some (gI M k_2 1)) else (
(if x2 = (2 : Int32) then (
some (gI M k_2 2)) else (
(if x2 = (3 : Int32) then (
some (gI M k_2 3)) else (
(if x2 = (4 : Int32) then (
some (gI M k_2 4)) else (
(if x2 = (5 : Int32) then (
some (gI M k_2 5)) else (
some (-2000000002 : Int32)))))))))))))


def f_X10_volume (x1 : Int32) (M : Mm) : Option Int64 :=
(if x1 = (0 : Int32) then (
some (gJ M 0 8)) else (
(if x1 = (1 : Int32) then (
some (gJ M 0 9)) else (
(if x1 = (2 : Int32) then (
some ((gJ M 0 8) - (gJ M 0 9))) else (
some (-2000000002 : Int64)))))))


def f_X10_statistic (x1 : Int32) (M : Mm) : Option Int32 :=
ob1 (f_X10_isWithin x1 (0 : Int32) (4 : Int32) M) fun r_1 =>
(if r_1 = (0 : Int32) then (
some (-2000000002 : Int32)) else (
ob1 (f_X6_measuredCount M) fun r_2 =>
(if x1 = (0 : Int32) then (
some r_2) else (
(if r_2 = (0 : Int32) then (
some (-2000000005 : Int32)) else (
(if x1 = (1 : Int32) then (
ob1 (f_X6_ranked (0 : Int32) M) fun r_3 =>
some r_3) else (
(if x1 = (2 : Int32) then (
ob1 (f_X6_ranked (r_2 - (1 : Int32)) M) fun r_4 =>
some r_4) else (
(if x1 = (3 : Int32) then (
ob1 (f_X6_average M) fun r_5 =>
some r_5) else (
ob1 (f_X6_ranked ((r_2 - (1 : Int32)) / (2 : Int32)) M) fun r_6 =>
ob1 (f_X6_ranked (r_2 / (2 : Int32)) M) fun r_7 =>
some ((r_6 + r_7) / (2 : Int32))))))))))))))


def f_X10_trust_L9 (M : Mm) (x1 : Int32) : Nat → Int32 → Option Int32
  | 0, _ => none
  | n + 1, x2_1 =>
    (if (4 : Int32) ≤ x2_1 then (
    some (-2000000005 : Int32)) else (
    (if (gI M 0 1) ≤ x2_1 then (
    some (-2000000005 : Int32)) else (
    ob1 (f_X8_placeInTrust x2_1 M) fun r_2 =>
    (if r_2 = x1 then (
    some x2_1) else (
    lt1 (x2_1 + (1 : Int32)) fun x2_3 =>
    f_X10_trust_L9 M x1 n x2_3))))))

def f_X10_trust (x1 : Int32) (M : Mm) : Option Int32 :=
(if (0 : Int32) ≤ x1 then (
f_X10_trust_L9 M x1 1000 (0 : Int32)) else (
some (-2000000002 : Int32)))


def f_X10_total (x1 : Int32) (M : Mm) : Option Int32 :=
(if x1 = (0 : Int32) then (
some (gI M 0 1)) else (
(if x1 = (1 : Int32) then (
some (gI M 10 2)) else (
(if x1 = (2 : Int32) then (
ob1 (f_X8_toldShots M) fun r_1 =>
some r_1) else (
(if x1 = (3 : Int32) then (
some (gI M 0 6)) else (
(if x1 = (4 : Int32) then (
some (gI M 0 7)) else (
(if x1 = (5 : Int32) then (
some (gI M 14 1)) else (
(if x1 = (6 : Int32) then (
ob1 (f_X10_asNumber (gI M 0 4) M) fun r_2 =>
some r_2) else (
(if x1 = (7 : Int32) then (
ob1 (f_X8_failingPaths M) fun r_3 =>
some r_3) else (
(if x1 = (8 : Int32) then (
some (gI M 225 1)) else (
(if x1 = (9 : Int32) then (
some (gI M 230 1)) else (
ob1 (f_X10_isWithin x1 (10 : Int32) (14 : Int32) M) fun r_4 =>
ob1 ((if r_4 = (0 : Int32) then (
some (-1 : Int32)) else (
some (x1 - (10 : Int32))))) fun y_5 =>
(if y_5 < (0 : Int32) then (
some (-2000000002 : Int32)) else (
(if y_5 < (5 : Int32) then (
chk (inb y_5 5) <|
some (gI M 13 (ix y_5))) else (
some (-2000000002 : Int32)))))))))))))))))))))))))


def f_X10_velocity (x1 : Int32) (x2 : Int32) (x3 : Int32) (M : Mm) : Option Int32 :=
ob1 (f_X8_pathAt x1 M) fun r_1 =>
onl r_1 (
some (-2000000001 : Int32)) fun k_2 => chk (decide (KS true k_2 = 3)) <|
ob1 (f_X3_canTake k_2 x2 M) fun r_3 =>
(if r_3 = (0 : Int32) then (
some (-2000000002 : Int32)) else (
ob1 (f_X3_canTake k_2 x3 M) fun r_4 =>
(if r_4 = (0 : Int32) then (
some (-2000000002 : Int32)) else (
ob1 (f_X3_velocityFrom k_2 x2 x3 M) fun r_5 =>
some r_5))))


def f_X10_ideal (x1 : Int32) (x2 : Int32) (x3 : Int32) (x4 : Int32) (M : Mm) : Option Int32 :=
ob1 (f_X8_pathAt x1 M) fun r_1 =>
onl r_1 (
some (-2000000001 : Int32)) fun k_2 => chk (decide (KS true k_2 = 3)) <|
ob1 (f_X10_isWithin x2 (300 : Int32) (3000 : Int32) M) fun r_3 =>
(if r_3 = (0 : Int32) then (
some (-2000000002 : Int32)) else (
ob1 (f_X10_isWithin x3 (-20000 : Int32) (20000 : Int32) M) fun r_4 =>
(if r_4 = (0 : Int32) then (
some (-2000000002 : Int32)) else (
ob1 ((if x4 = (0 : Int32) then (
some x3) else (
some (-x3)))) fun y_5 =>
ob1 (f_X3_idealTime k_2 x2 y_5 M) fun r_6 =>
some r_6))))


def f_X10_wouldBe (M : Mm) : Option (Int32 × Mm) :=
(if (gI M 0 1) = (0 : Int32) then (
some ((-2000000003 : Int32), M)) else (
ob1 (f_X2_judge (gI M 13 1) M) fun M_1 =>
some ((gI M_1 232 10), M_1)))


def f_X10_wouldBecome (x1 : Int32) (M : Mm) : Option (Int32 × Mm) :=
ob1 (f_X8_pathAt x1 M) fun r_1 =>
onl r_1 (
some ((-2000000001 : Int32), M)) fun k_2 => chk (decide (KS true k_2 = 3)) <|
ob1 (f_X2_judge (gI M 13 1) M) fun M_3 =>
ob1 (f_X2_outcomeOf x1 M_3) fun r_4 =>
some (r_4, M_3)


def f_X10_skipsNeeded_L2 : Nat → Int32 → Mm → Option (Int32 × Mm)
  | 0, _, _ => none
  | n + 1, x1_1, M_2 =>
    (if (5 : Int32) < x1_1 then (
    some ((-2000000005 : Int32), M_2)) else (
    ob1 (f_X2_judge x1_1 M_2) fun M_3 =>
    ob1 (f_X2_hasOutlier M_3) fun r_4 =>
    (if r_4 = (0 : Int32) then (
    some (x1_1, M_3)) else (
    lt1 (x1_1 + (1 : Int32)) fun x1_5 =>
    f_X10_skipsNeeded_L2 n x1_5 M_3))))

def f_X10_skipsNeeded (M : Mm) : Option (Int32 × Mm) :=
f_X10_skipsNeeded_L2 1000 (0 : Int32) M

