def f_X11_in (x0 : Int32) (x1 : Int32) (x2 : Int32) (M : Mm) : Option Int32 :=
(if x0 < x1 then (
some (0 : Int32)) else (
(if x2 < x0 then (
some (0 : Int32)) else (
some (1 : Int32)))))


def f_X11_records_L10 : Nat → Int32 → Mm → Option Mm
  | 0, _, _ => none
  | n + 1, x1_2, M_3 =>
    (if (636 : Int32) ≤ x1_2 then (
    some M_3) else (
    chk (inb (x1_2 + (159 : Int32)) 795) <|
    chk (inb x1_2 795) <|
    lt1 (wI M_3 3 (ix x1_2) (gI M_3 3 (ix (x1_2 + (159 : Int32))))) fun M_5 =>
    lt1 (x1_2 + (1 : Int32)) fun x1_6 =>
    f_X11_records_L10 n x1_6 M_5))

def f_X11_records_L41 : Nat → Int32 → Mm → Option Mm
  | 0, _, _ => none
  | n + 1, x1_7, M_8 =>
    (if (8 : Int32) ≤ x1_7 then (
    some M_8) else (
    chk (inb (x1_7 + (2 : Int32)) 10) <|
    chk (inb x1_7 10) <|
    lt1 (wJ M_8 4 (ix x1_7) (gJ M_8 4 (ix (x1_7 + (2 : Int32))))) fun M_10 =>
    lt1 (x1_7 + (1 : Int32)) fun x1_11 =>
    f_X11_records_L41 n x1_11 M_10))

def f_X11_records_L79 : Nat → Int32 → Mm → Option Mm
  | 0, _, _ => none
  | n + 1, x1_13, M_14 =>
    (if (159 : Int32) ≤ x1_13 then (
    some M_14) else (
    chk (inb x1_13 159) <|
    chk (inb (((159 : Int32) * (gI M_14 0 4)) + x1_13) 795) <|
    lt1 (wI M_14 3 (ix (((159 : Int32) * (gI M_14 0 4)) + x1_13)) (gI M_14 1 (ix x1_13))) fun M_16 =>
    lt1 (x1_13 + (1 : Int32)) fun x1_17 =>
    f_X11_records_L79 n x1_17 M_16))

def f_X11_records (M : Mm) : Option Mm :=
ob1 ((if (gI M 0 4) = (5 : Int32) then (
ob1 (f_X11_records_L10 1000 (0 : Int32) M) fun M_4 =>
ob1 (f_X11_records_L41 1000 (0 : Int32) M_4) fun M_9 =>
lt1 (wI M_9 0 4 ((gI M_9 0 4) - (1 : Int32))) fun M_12 =>
some M_12) else (
some M))) fun M_1 =>
ob1 (f_X11_records_L79 1000 (0 : Int32) M_1) fun M_15 =>
chk (inb ((2 : Int32) * (gI M_15 0 4)) 10) <|
lt1 (wJ M_15 4 (ix ((2 : Int32) * (gI M_15 0 4))) (gJ M_15 2 0)) fun M_18 =>
chk (inb (((2 : Int32) * (gI M_18 0 4)) + (1 : Int32)) 10) <|
lt1 (wJ M_18 4 (ix (((2 : Int32) * (gI M_18 0 4)) + (1 : Int32))) (gJ M_18 2 1)) fun M_19 =>
lt1 (wI M_19 0 4 ((gI M_19 0 4) + (1 : Int32))) fun M_20 =>
some M_20


def f_X11_isPath (x1 : Int32) (M : Mm) : Option Int32 :=
ob1 (f_X11_in x1 (0 : Int32) ((gI M 1 64) - (1 : Int32)) M) fun r_1 =>
chk (bz r_1) <|
some r_1


def f_X11_of (x1 : Int32) (x2 : Int32) (M : Mm) : Option Int32 :=
chk (inb (((16 : Int32) * x1) + x2) 159) <|
some (gI M 1 (ix (((16 : Int32) * x1) + x2)))


def f_X11_lay (x1 : Int32) (x2 : Int32) (x3 : Int32) (M : Mm) : Option Mm :=
chk (inb (((16 : Int32) * x1) + x2) 159) <|
lt1 (wI M 1 (ix (((16 : Int32) * x1) + x2)) x3) fun M_1 =>
some M_1


def f_X11_held (x0 : Int64) (x2 : Int64) (M : Mm) : Option Int64 :=
(if x0 ≤ x2 then (
(if (-x2) ≤ x0 then (
some x0) else (
some (-x2)))) else (
some x2))


def f_X11_addPath_L103 (x7_8 : Int32) : Nat → Int32 → Mm → Option Mm
  | 0, _, _ => none
  | n + 1, x8_9, M_10 =>
    (if (16 : Int32) ≤ x8_9 then (
    some M_10) else (
    ob1 (f_X11_lay x7_8 x8_9 (0 : Int32) M_10) fun M_12 =>
    lt1 (x8_9 + (1 : Int32)) fun x8_13 =>
    f_X11_addPath_L103 x7_8 n x8_13 M_12))

def f_X11_addPath (x1 : Int32) (x2 : Int32) (x3 : Int32) (x4 : Int32) (x5 : Int32) (M : Mm) : Option (Int32 × Mm) :=
ob1 (f_X11_in x1 (50 : Int32) (2000 : Int32) M) fun r_1 =>
ob1 ((if r_1 = (0 : Int32) then (
some (0 : Int32)) else (
ob1 (f_X11_in x2 (10 : Int32) x1 M) fun r_3 =>
(if r_3 = (0 : Int32) then (
some (0 : Int32)) else (
ob1 (f_X11_in x3 (1 : Int32) (1000 : Int32) M) fun r_4 =>
(if r_4 = (0 : Int32) then (
some (0 : Int32)) else (
ob1 (f_X11_in x4 (100 : Int32) (10000 : Int32) M) fun r_5 =>
(if r_5 = (0 : Int32) then (
some (0 : Int32)) else (
ob1 (f_X11_in x5 (0 : Int32) (5000 : Int32) M) fun r_6 =>
(if r_6 = (0 : Int32) then (
some (0 : Int32)) else (
some (1 : Int32)))))))))))) fun y_2 =>
(if y_2 = (0 : Int32) then (
some ((-2000000002 : Int32), M)) else (
(if (gI M 1 64) = (4 : Int32) then (
some ((-2000000004 : Int32), M)) else (
ob1 (f_X11_records M) fun M_7 =>
lt1 ((gI M_7 1 64)) fun x7_8 =>
ob1 (f_X11_addPath_L103 x7_8 1000 (0 : Int32) M_7) fun M_11 =>
ob1 (f_X11_lay x7_8 (0 : Int32) x1 M_11) fun M_14 =>
ob1 (f_X11_lay x7_8 (1 : Int32) x2 M_14) fun M_15 =>
ob1 (f_X11_lay x7_8 (2 : Int32) x3 M_15) fun M_16 =>
ob1 (f_X11_lay x7_8 (3 : Int32) x4 M_16) fun M_17 =>
ob1 (f_X11_lay x7_8 (4 : Int32) x5 M_17) fun M_18 =>
ob1 (f_X11_lay x7_8 (5 : Int32) (-2000000005 : Int32) M_18) fun M_19 =>
ob1 (f_X11_lay x7_8 (6 : Int32) (-2000000005 : Int32) M_19) fun M_20 =>
ob1 (f_X11_lay x7_8 (7 : Int32) (-2000000005 : Int32) M_20) fun M_21 =>
ob1 (f_X11_lay x7_8 (8 : Int32) (-2000000005 : Int32) M_21) fun M_22 =>
ob1 (f_X11_lay x7_8 (9 : Int32) (-2000000005 : Int32) M_22) fun M_23 =>
ob1 (f_X11_lay x7_8 (13 : Int32) (-2000000005 : Int32) M_23) fun M_24 =>
lt1 (wI M_24 1 64 ((gI M_24 1 64) + (1 : Int32))) fun M_25 =>
some (x7_8, M_25)))))


def f_X11_setWeight (x1 : Int32) (x2 : Int32) (M : Mm) : Option (Int32 × Mm) :=
ob1 (f_X11_isPath x1 M) fun r_1 =>
(if r_1 = (0 : Int32) then (
some ((-2000000001 : Int32), M)) else (
ob1 (f_X11_in x2 (1 : Int32) (1000 : Int32) M) fun r_2 =>
(if r_2 = (0 : Int32) then (
some ((-2000000002 : Int32), M)) else (
ob1 (f_X11_records M) fun M_3 =>
ob1 (f_X11_of x1 (2 : Int32) M_3) fun r_4 =>
ob1 (f_X11_lay x1 (2 : Int32) x2 M_3) fun M_5 =>
some (r_4, M_5)))))


def f_X11_speedAt (x1 : Int32) (M : Mm) : Option Int32 :=
chk (inb ((66 : Int32) + ((2 : Int32) * x1)) 159) <|
some (gI M 1 (ix ((66 : Int32) + ((2 : Int32) * x1))))


def f_X11_factorAt (x1 : Int32) (M : Mm) : Option Int32 :=
chk (inb (((66 : Int32) + ((2 : Int32) * x1)) + (1 : Int32)) 159) <|
some (gI M 1 (ix (((66 : Int32) + ((2 : Int32) * x1)) + (1 : Int32))))


def f_X11_placeOf_L2 (M : Mm) (x1 : Int32) : Nat → Int32 → Option Int32
  | 0, _ => none
  | n + 1, x2_1 =>
    (if (gI M 1 65) ≤ x2_1 then (
    some x2_1) else (
    ob1 (f_X11_speedAt x2_1 M) fun r_3 =>
    (if x1 ≤ r_3 then (
    some x2_1) else (
    lt1 (x2_1 + (1 : Int32)) fun x2_4 =>
    f_X11_placeOf_L2 M x1 n x2_4))))

def f_X11_placeOf (x1 : Int32) (M : Mm) : Option Int32 :=
ob1 (f_X11_placeOf_L2 M x1 1000 (0 : Int32)) fun x2_2 =>
some x2_2


def f_X11_setPoint_L92 (r_3 : Int32) (y_4 : Int32) : Nat → Int32 → Mm → Option Mm
  | 0, _, _ => none
  | n + 1, x5_8, M_9 =>
    (if x5_8 ≤ r_3 then (
    some M_9) else (
    (if y_4 = (0 : Int32) then (
    ob1 (f_X11_speedAt (x5_8 - (1 : Int32)) M_9) fun r_11 =>
    chk (inb ((66 : Int32) + ((2 : Int32) * x5_8)) 159) <|
    lt1 (wI M_9 1 (ix ((66 : Int32) + ((2 : Int32) * x5_8))) r_11) fun M_12 =>
    ob1 (f_X11_factorAt (x5_8 - (1 : Int32)) M_12) fun r_13 =>
    chk (inb (((66 : Int32) + ((2 : Int32) * x5_8)) + (1 : Int32)) 159) <|
    lt1 (wI M_12 1 (ix (((66 : Int32) + ((2 : Int32) * x5_8)) + (1 : Int32))) r_13) fun M_14 =>
    lt1 (x5_8 + (-1 : Int32)) fun x5_15 =>
    f_X11_setPoint_L92 r_3 y_4 n x5_15 M_14) else (
    some M_9))))

def f_X11_setPoint_L92_2 (r_3 : Int32) (y_4 : Int32) : Nat → Int32 → Mm → Option Mm
  | 0, _, _ => none
  | n + 1, x5_22, M_23 =>
    (if x5_22 ≤ r_3 then (
    some M_23) else (
    (if y_4 = (0 : Int32) then (
    ob1 (f_X11_speedAt (x5_22 - (1 : Int32)) M_23) fun r_25 =>
    chk (inb ((66 : Int32) + ((2 : Int32) * x5_22)) 159) <|
    lt1 (wI M_23 1 (ix ((66 : Int32) + ((2 : Int32) * x5_22))) r_25) fun M_26 =>
    ob1 (f_X11_factorAt (x5_22 - (1 : Int32)) M_26) fun r_27 =>
    chk (inb (((66 : Int32) + ((2 : Int32) * x5_22)) + (1 : Int32)) 159) <|
    lt1 (wI M_26 1 (ix (((66 : Int32) + ((2 : Int32) * x5_22)) + (1 : Int32))) r_27) fun M_28 =>
    lt1 (x5_22 + (-1 : Int32)) fun x5_29 =>
    f_X11_setPoint_L92_2 r_3 y_4 n x5_29 M_28) else (
    some M_23))))

def f_X11_setPoint (x1 : Int32) (x2 : Int32) (M : Mm) : Option (Int32 × Mm) :=
ob1 (f_X11_in x1 (0 : Int32) (100000 : Int32) M) fun r_1 =>
(if r_1 = (0 : Int32) then (
some ((-2000000002 : Int32), M)) else (
ob1 (f_X11_in x2 (500 : Int32) (1500 : Int32) M) fun r_2 =>
(if r_2 = (0 : Int32) then (
some ((-2000000002 : Int32), M)) else (
ob1 (f_X11_placeOf x1 M) fun r_3 =>
ob1 ((if (gI M 1 65) ≤ r_3 then (
some (0 : Int32)) else (
ob1 (f_X11_speedAt r_3 M) fun r_5 =>
(if r_5 = x1 then (
some (1 : Int32)) else (
some (0 : Int32)))))) fun y_4 =>
(if y_4 = (0 : Int32) then (
(if (gI M 1 65) = (6 : Int32) then (
some ((-2000000004 : Int32), M)) else (
ob1 (f_X11_records M) fun M_20 =>
lt1 ((gI M_20 1 65)) fun x5_21 =>
ob1 (f_X11_setPoint_L92_2 r_3 y_4 1000 x5_21 M_20) fun M_24 =>
chk (inb ((66 : Int32) + ((2 : Int32) * r_3)) 159) <|
lt1 (wI M_24 1 (ix ((66 : Int32) + ((2 : Int32) * r_3))) x1) fun M_30 =>
chk (inb (((66 : Int32) + ((2 : Int32) * r_3)) + (1 : Int32)) 159) <|
lt1 (wI M_30 1 (ix (((66 : Int32) + ((2 : Int32) * r_3)) + (1 : Int32))) x2) fun M_31 =>
ob1 ((if y_4 = (0 : Int32) then (
some (1 : Int32)) else (
some (0 : Int32)))) fun y_32 =>
lt1 (wI M_31 1 65 ((gI M_31 1 65) + y_32)) fun M_33 =>
some ((gI M_33 1 65), M_33)))) else (
ob1 (f_X11_records M) fun M_6 =>
lt1 ((gI M_6 1 65)) fun x5_7 =>
ob1 (f_X11_setPoint_L92 r_3 y_4 1000 x5_7 M_6) fun M_10 =>
chk (inb ((66 : Int32) + ((2 : Int32) * r_3)) 159) <|
lt1 (wI M_10 1 (ix ((66 : Int32) + ((2 : Int32) * r_3))) x1) fun M_16 =>
chk (inb (((66 : Int32) + ((2 : Int32) * r_3)) + (1 : Int32)) 159) <|
lt1 (wI M_16 1 (ix (((66 : Int32) + ((2 : Int32) * r_3)) + (1 : Int32))) x2) fun M_17 =>
ob1 ((if y_4 = (0 : Int32) then (
some (1 : Int32)) else (
some (0 : Int32)))) fun y_18 =>
lt1 (wI M_17 1 65 ((gI M_17 1 65) + y_18)) fun M_19 =>
some ((gI M_19 1 65), M_19)))))))


def f_X11_removePoint_L55 : Nat → Int32 → Mm → Option Mm
  | 0, _, _ => none
  | n + 1, x4_6, M_7 =>
    (if (gI M_7 1 65) ≤ (x4_6 + (1 : Int32)) then (
    some M_7) else (
    ob1 (f_X11_speedAt (x4_6 + (1 : Int32)) M_7) fun r_9 =>
    chk (inb ((66 : Int32) + ((2 : Int32) * x4_6)) 159) <|
    lt1 (wI M_7 1 (ix ((66 : Int32) + ((2 : Int32) * x4_6))) r_9) fun M_10 =>
    ob1 (f_X11_factorAt (x4_6 + (1 : Int32)) M_10) fun r_11 =>
    chk (inb (((66 : Int32) + ((2 : Int32) * x4_6)) + (1 : Int32)) 159) <|
    lt1 (wI M_10 1 (ix (((66 : Int32) + ((2 : Int32) * x4_6)) + (1 : Int32))) r_11) fun M_12 =>
    lt1 (x4_6 + (1 : Int32)) fun x4_13 =>
    f_X11_removePoint_L55 n x4_13 M_12))

def f_X11_removePoint (x1 : Int32) (M : Mm) : Option (Int32 × Mm) :=
ob1 (f_X11_in x1 (0 : Int32) (100000 : Int32) M) fun r_1 =>
(if r_1 = (0 : Int32) then (
some ((-2000000002 : Int32), M)) else (
ob1 (f_X11_placeOf x1 M) fun r_2 =>
(if r_2 = (gI M 1 65) then (
some ((-2000000003 : Int32), M)) else (
ob1 (f_X11_speedAt r_2 M) fun r_3 =>
(if r_3 = x1 then (
ob1 (f_X11_records M) fun M_4 =>
ob1 (f_X11_factorAt r_2 M_4) fun r_5 =>
ob1 (f_X11_removePoint_L55 1000 r_2 M_4) fun M_8 =>
lt1 (wI M_8 1 65 ((gI M_8 1 65) - (1 : Int32))) fun M_14 =>
some (r_5, M_14)) else (
some ((-2000000003 : Int32), M)))))))


def f_X11_least (x0 : Int32) (M : Mm) : Option Int32 :=
(if (2 : Int32) ≤ x0 then (
some (1 : Int32)) else (
some (0 : Int32)))


def f_X11_most (x0 : Int32) (M : Mm) : Option Int32 :=
(if x0 = (0 : Int32) then (
some (100 : Int32)) else (
(if x0 = (1 : Int32) then (
some (5 : Int32)) else (
(if x0 = (2 : Int32) then (
some (100 : Int32)) else (
(if x0 = (3 : Int32) then (
some (1000000 : Int32)) else (
some (1000 : Int32)))))))))


def f_X11_set (x1 : Int32) (x2 : Int32) (M : Mm) : Option (Int32 × Mm) :=
ob1 (f_X11_in x1 (0 : Int32) (4 : Int32) M) fun r_1 =>
(if r_1 = (0 : Int32) then (
some ((-2000000001 : Int32), M)) else (
ob1 (f_X11_least x1 M) fun r_2 =>
ob1 (f_X11_most x1 M) fun r_3 =>
ob1 (f_X11_in x2 r_2 r_3 M) fun r_4 =>
(if r_4 = (0 : Int32) then (
some ((-2000000002 : Int32), M)) else (
ob1 (f_X11_records M) fun M_5 =>
chk (inb ((78 : Int32) + x1) 159) <|
lt1 ((gI M_5 1 (ix ((78 : Int32) + x1)))) fun x3_6 =>
chk (inb ((78 : Int32) + x1) 159) <|
lt1 (wI M_5 1 (ix ((78 : Int32) + x1)) x2) fun M_7 =>
some (x3_6, M_7)))))


def f_X11_factorFor (x1 : Int64) (M : Mm) : Option Int32 :=
ob1 ((if (0 : Int64) ≤ x1 then (
some x1) else (
some (-x1)))) fun y_1 =>
lt1 ((gI M 1 65)) fun x5_2 =>
(if x5_2 = (0 : Int32) then (
some (1000 : Int32)) else (
ob1 (f_X11_speedAt (0 : Int32) M) fun r_3 =>
(if (Int32.toInt64 r_3) < y_1 then (
ob1 (f_X11_speedAt (x5_2 - (1 : Int32)) M) fun r_4 =>
(if y_1 < (Int32.toInt64 r_4) then (
ob1 (f_X11_placeOf (Int64.toInt32 y_1) M) fun r_5 =>
ob1 (f_X11_speedAt r_5 M) fun r_6 =>
(if (Int32.toInt64 r_6) = y_1 then (
ob1 (f_X11_factorAt r_5 M) fun r_13 =>
some r_13) else (
ob1 (f_X11_speedAt (r_5 - (1 : Int32)) M) fun r_7 =>
lt1 ((Int32.toInt64 r_7)) fun x7_8 =>
ob1 (f_X11_speedAt r_5 M) fun r_9 =>
lt1 ((Int32.toInt64 r_9)) fun x9_10 =>
ob1 (f_X11_factorAt (r_5 - (1 : Int32)) M) fun r_11 =>
ob1 (f_X11_factorAt r_5 M) fun r_12 =>
chk (decide (¬ (x9_10 - x7_8) = 0)) <|
some (Int64.toInt32 ((((Int32.toInt64 r_11) * (x9_10 - y_1)) + ((Int32.toInt64 r_12) * (y_1 - x7_8))) / (x9_10 - x7_8)))))) else (
ob1 (f_X11_factorAt (x5_2 - (1 : Int32)) M) fun r_14 =>
some r_14))) else (
ob1 (f_X11_factorAt (0 : Int32) M) fun r_15 =>
some r_15))))


def f_X11_velocityOf (x1 : Int32) (x2 : Int32) (x3 : Int32) (M : Mm) : Option Int32 :=
ob1 (f_X11_of x1 (4 : Int32) M) fun r_1 =>
lt1 ((Int32.toInt64 (x2 - r_1))) fun x4_2 =>
ob1 (f_X11_of x1 (4 : Int32) M) fun r_3 =>
lt1 ((Int32.toInt64 (x3 - r_3))) fun x6_4 =>
ob1 (f_X11_of x1 (0 : Int32) M) fun r_5 =>
ob1 (f_X11_of x1 (0 : Int32) M) fun r_6 =>
ob1 (f_X11_of x1 (1 : Int32) M) fun r_7 =>
chk (decide (¬ (Int32.toInt64 r_7) = 0)) <|
lt1 (((((Int32.toInt64 r_5) * (Int32.toInt64 r_6)) * (500000 : Int64)) / (Int32.toInt64 r_7))) fun x8_8 =>
chk (decide (¬ ((x4_2 * x6_4) / (1000 : Int64)) = 0)) <|
ob1 (f_X11_held ((x8_8 * (x6_4 - x4_2)) / ((x4_2 * x6_4) / (1000 : Int64))) (100000 : Int64) M) fun r_9 =>
some (Int64.toInt32 r_9)


def f_X11_isAbove (x1 : Int32) (x2 : Int32) (M : Mm) : Option Int32 :=
ob1 (f_X11_of x1 (4 : Int32) M) fun r_1 =>
(if x2 < (r_1 + (1000 : Int32)) then (
some (0 : Int32)) else (
some (1 : Int32)))


def f_X11_isTime (x0 : Int32) (M : Mm) : Option Int32 :=
ob1 (f_X11_in x0 (1000 : Int32) (9999999 : Int32) M) fun r_1 =>
chk (bz r_1) <|
some r_1


def f_X11_shots_L4 (M : Mm) : Nat → Int32 → Int32 → Option Int32
  | 0, _, _ => none
  | n + 1, x1_1, x2_2 =>
    (if (gI M 1 64) ≤ x2_2 then (
    some x1_1) else (
    ob1 (f_X11_of x2_2 (13 : Int32) M) fun r_4 =>
    ob1 ((if r_4 = (-2000000005 : Int32) then (
    some (0 : Int32)) else (
    some (1 : Int32)))) fun y_5 =>
    lt1 ((x1_1 + y_5)) fun x1_6 =>
    lt1 (x2_2 + (1 : Int32)) fun x2_7 =>
    f_X11_shots_L4 M n x1_6 x2_7))

def f_X11_shots (M : Mm) : Option Int32 :=
ob1 (f_X11_shots_L4 M 1000 (0 : Int32) (0 : Int32)) fun x1_3 =>
some x1_3


def f_X11_whyShot (x1 : Int32) (x2 : Int32) (x3 : Int32) (x4 : Int32) (M : Mm) : Option Int32 :=
ob1 (f_X11_isPath x1 M) fun r_1 =>
(if r_1 = (0 : Int32) then (
some (-2000000001 : Int32)) else (
ob1 (f_X11_isTime x2 M) fun r_2 =>
ob1 ((if r_2 = (0 : Int32) then (
some (0 : Int32)) else (
ob1 (f_X11_isTime x3 M) fun r_4 =>
(if r_4 = (0 : Int32) then (
some (0 : Int32)) else (
ob1 (f_X11_in x4 (0 : Int32) (100 : Int32) M) fun r_5 =>
(if r_5 = (0 : Int32) then (
some (0 : Int32)) else (
ob1 (f_X11_isAbove x1 x2 M) fun r_6 =>
(if r_6 = (0 : Int32) then (
some (0 : Int32)) else (
ob1 (f_X11_isAbove x1 x3 M) fun r_7 =>
(if r_7 = (0 : Int32) then (
some (0 : Int32)) else (
some (1 : Int32)))))))))))) fun y_3 =>
(if y_3 = (0 : Int32) then (
some (-2000000002 : Int32)) else (
some (0 : Int32)))))


def f_X11_shoots (x1 : Int32) (x2 : Int32) (x3 : Int32) (x4 : Int32) (M : Mm) : Option (Int32 × Mm) :=
ob1 (f_X11_lay x1 ((13 : Int32) + (gI M 1 83)) x2 M) fun M_1 =>
ob1 (f_X11_lay x1 ((14 : Int32) - (gI M_1 1 83)) x3 M_1) fun M_2 =>
ob1 (f_X11_lay x1 (15 : Int32) x4 M_2) fun M_3 =>
ob1 (f_X11_shots M_3) fun r_4 =>
some (r_4, M_3)


def f_X11_shot (x1 : Int32) (x2 : Int32) (x3 : Int32) (x4 : Int32) (M : Mm) : Option (Int32 × Mm) :=
ob1 (f_X11_whyShot x1 x2 x3 x4 M) fun r_1 =>
(if (0 : Int32) ≤ r_1 then (
ob1 (f_X11_records M) fun M_2 =>
ob2 (f_X11_shoots x1 x2 x3 x4 M_2) fun r_4 M_3 =>
some (r_4, M_3)) else (
some (r_1, M)))


def f_X11_rounded (x0 : Int32) (x1 : Int32) (M : Mm) : Option Int32 :=
ob1 ((if (0 : Int32) ≤ x0 then (
some x0) else (
some (-x0)))) fun y_1 =>
chk (decide (¬ x1 = 0)) <|
chk (decide (¬ x1 = 0)) <|
ob1 ((if ((2 : Int32) * (y_1 - y_1 / x1 * x1)) ≤ x1 then (
some (0 : Int32)) else (
some (1 : Int32)))) fun y_2 =>
lt1 (((y_1 / x1) + y_2)) fun x3_3 =>
(if (0 : Int32) ≤ x0 then (
some x3_3) else (
some (-x3_3)))


def f_X11_takeShifts_L91 (x1_1 : Int32) : Nat → Int32 → Mm → Option Mm
  | 0, _, _ => none
  | n + 1, x2_10, M_11 =>
    (if (2 : Int32) ≤ x2_10 then (
    some M_11) else (
    chk (inb x1_1 4) <|
    ob1 ((if (gI M_11 11 (ix x1_1)) = (0 : Int32) then (
    some (0 : Int32)) else (
    ob1 (f_X11_of x1_1 ((13 : Int32) + x2_10) M_11) fun r_14 =>
    ob1 (f_X11_of x1_1 ((5 : Int32) + x2_10) M_11) fun r_15 =>
    ob1 (f_X11_of x1_1 (3 : Int32) M_11) fun r_16 =>
    ob1 (f_X11_rounded (r_14 - r_15) r_16 M_11) fun r_17 =>
    some r_17))) fun y_13 =>
    chk (inb (((2 : Int32) * x1_1) + x2_10) 8) <|
    lt1 (wI M_11 10 (ix (((2 : Int32) * x1_1) + x2_10)) y_13) fun M_18 =>
    lt1 (x2_10 + (1 : Int32)) fun x2_19 =>
    f_X11_takeShifts_L91 x1_1 n x2_19 M_18))

def f_X11_takeShifts_L2 : Nat → Int32 → Mm → Option Mm
  | 0, _, _ => none
  | n + 1, x1_1, M_2 =>
    (if (gI M_2 1 64) ≤ x1_1 then (
    some M_2) else (
    ob1 (f_X11_of x1_1 (13 : Int32) M_2) fun r_3 =>
    ob1 ((if r_3 = (-2000000005 : Int32) then (
    some (0 : Int32)) else (
    ob1 (f_X11_of x1_1 (15 : Int32) M_2) fun r_5 =>
    (if (gI M_2 1 78) ≤ r_5 then (
    some (4 : Int32)) else (
    some (1 : Int32)))))) fun y_4 =>
    chk (inb x1_1 4) <|
    lt1 (wI M_2 9 (ix x1_1) y_4) fun M_6 =>
    chk (inb x1_1 4) <|
    ob1 ((if (gI M_6 9 (ix x1_1)) = (4 : Int32) then (
    ob1 (f_X11_of x1_1 (5 : Int32) M_6) fun r_8 =>
    (if r_8 = (-2000000005 : Int32) then (
    some (0 : Int32)) else (
    some (1 : Int32)))) else (
    some (0 : Int32)))) fun y_7 =>
    chk (inb x1_1 4) <|
    chk (bz y_7) <|
    lt1 (wI M_6 11 (ix x1_1) y_7) fun M_9 =>
    ob1 (f_X11_takeShifts_L91 x1_1 1000 (0 : Int32) M_9) fun M_12 =>
    lt1 (x1_1 + (1 : Int32)) fun x1_20 =>
    f_X11_takeShifts_L2 n x1_20 M_12))

def f_X11_takeShifts (M : Mm) : Option Mm :=
f_X11_takeShifts_L2 1000 (0 : Int32) M


def f_X11_weightOf_L5 (M : Mm) (x1 : Int32) (x2 : Int32) : Nat → Int32 → Int32 → Option Int32
  | 0, _, _ => none
  | n + 1, x3_1, x4_2 =>
    (if (gI M 1 64) ≤ x4_2 then (
    some x3_1) else (
    chk (inb x4_2 4) <|
    ob1 ((if (gI M 11 (ix x4_2)) = (0 : Int32) then (
    some (0 : Int32)) else (
    (if x1 < (0 : Int32) then (
    ob1 (f_X11_of x4_2 (2 : Int32) M) fun r_5 =>
    some r_5) else (
    chk (inb (((2 : Int32) * x4_2) + x1) 8) <|
    (if (gI M 10 (ix (((2 : Int32) * x4_2) + x1))) = x2 then (
    ob1 (f_X11_of x4_2 (2 : Int32) M) fun r_6 =>
    some r_6) else (
    some (0 : Int32)))))))) fun y_4 =>
    lt1 ((x3_1 + y_4)) fun x3_7 =>
    lt1 (x4_2 + (1 : Int32)) fun x4_8 =>
    f_X11_weightOf_L5 M x1 x2 n x3_7 x4_8))

def f_X11_weightOf (x1 : Int32) (x2 : Int32) (M : Mm) : Option Int32 :=
ob1 (f_X11_weightOf_L5 M x1 x2 1000 (0 : Int32) (0 : Int32)) fun x3_3 =>
some x3_3


def f_X11_vote_L84 (x3_2 : Int32) (M_4 : Mm) (x5_7 : Int32) : Nat → Int32 → Int32 → Option Int32
  | 0, _, _ => none
  | n + 1, x6_10, x7_11 =>
    (if x3_2 ≤ x7_11 then (
    some x6_10) else (
    ob1 ((if x6_10 = (0 : Int32) then (
    some (0 : Int32)) else (
    chk (inb x7_11 4) <|
    (if (gI M_4 14 (ix x7_11)) = x5_7 then (
    some (0 : Int32)) else (
    some (1 : Int32)))))) fun y_13 =>
    lt1 (x7_11 + (1 : Int32)) fun x7_14 =>
    f_X11_vote_L84 x3_2 M_4 x5_7 n y_13 x7_14))

def f_X11_vote_L12 (x1 : Int32) (r_1 : Int32) : Nat → Int32 → Int32 → Mm → Option (Int32 × Mm)
  | 0, _, _, _ => none
  | n + 1, x3_2, x4_3, M_4 =>
    (if (gI M_4 1 64) ≤ x4_3 then (
    some (x3_2, M_4)) else (
    chk (inb (((2 : Int32) * x4_3) + x1) 8) <|
    lt1 ((gI M_4 10 (ix (((2 : Int32) * x4_3) + x1)))) fun x5_7 =>
    chk (inb x4_3 4) <|
    ob1 ((if (gI M_4 11 (ix x4_3)) = (0 : Int32) then (
    some (0 : Int32)) else (
    (if x5_7 = (0 : Int32) then (
    some (0 : Int32)) else (
    ob1 (f_X11_weightOf x1 x5_7 M_4) fun r_9 =>
    (if (r_9 * (100 : Int32)) < ((gI M_4 1 80) * r_1) then (
    some (0 : Int32)) else (
    some (1 : Int32)))))))) fun y_8 =>
    ob1 (f_X11_vote_L84 x3_2 M_4 x5_7 1000 y_8 (0 : Int32)) fun x6_12 =>
    ob2 ((if x6_12 = (0 : Int32) then (
    some (x3_2, M_4)) else (
    chk (inb x3_2 4) <|
    lt1 (wI M_4 14 (ix x3_2) x5_7) fun M_17 =>
    lt1 (x3_2 + (1 : Int32)) fun x3_18 =>
    some (x3_18, M_17)))) fun x3_15 M_16 =>
    lt1 (x4_3 + (1 : Int32)) fun x4_19 =>
    f_X11_vote_L12 x1 r_1 n x3_15 x4_19 M_16))

def f_X11_vote_L170 (x1 : Int32) (x3_5 : Int32) (x4_21 : Int32) : Nat → Int32 → Mm → Option Mm
  | 0, _, _ => none
  | n + 1, x5_23, M_24 =>
    (if x3_5 ≤ x5_23 then (
    some M_24) else (
    chk (inb (((2 : Int32) * x4_21) + x1) 8) <|
    chk (inb x5_23 4) <|
    ob1 ((if (gI M_24 10 (ix (((2 : Int32) * x4_21) + x1))) = (gI M_24 14 (ix x5_23)) then (
    some (0 : Int32)) else (
    chk (inb (((2 : Int32) * x4_21) + x1) 8) <|
    some (gI M_24 10 (ix (((2 : Int32) * x4_21) + x1)))))) fun y_26 =>
    chk (inb (((2 : Int32) * x4_21) + x1) 8) <|
    lt1 (wI M_24 10 (ix (((2 : Int32) * x4_21) + x1)) y_26) fun M_27 =>
    lt1 (x5_23 + (1 : Int32)) fun x5_28 =>
    f_X11_vote_L170 x1 x3_5 x4_21 n x5_28 M_27))

def f_X11_vote_L155 (x1 : Int32) (x3_5 : Int32) : Nat → Int32 → Mm → Option Mm
  | 0, _, _ => none
  | n + 1, x4_21, M_22 =>
    (if (gI M_22 1 64) ≤ x4_21 then (
    some M_22) else (
    ob1 (f_X11_vote_L170 x1 x3_5 x4_21 1000 (0 : Int32) M_22) fun M_25 =>
    lt1 (x4_21 + (1 : Int32)) fun x4_29 =>
    f_X11_vote_L155 x1 x3_5 n x4_29 M_25))

def f_X11_vote (x1 : Int32) (M : Mm) : Option Mm :=
ob1 (f_X11_weightOf (-1 : Int32) (0 : Int32) M) fun r_1 =>
ob2 (f_X11_vote_L12 x1 r_1 1000 (0 : Int32) (0 : Int32) M) fun x3_5 M_6 =>
lt1 (wI M_6 0 15 ((gI M_6 0 15) + x3_5)) fun M_20 =>
f_X11_vote_L155 x1 x3_5 1000 (0 : Int32) M_20


def f_X11_size (x0 : Int32) (M : Mm) : Option Int32 :=
(if (0 : Int32) ≤ x0 then (
some x0) else (
some (-x0)))


def f_X11_timeOf (x1 : Int32) (x2 : Int32) (M : Mm) : Option Int64 :=
ob1 (f_X11_of x1 ((13 : Int32) + x2) M) fun r_1 =>
chk (inb (((2 : Int32) * x1) + x2) 8) <|
ob1 (f_X11_of x1 (3 : Int32) M) fun r_2 =>
some ((Int32.toInt64 r_1) - ((Int32.toInt64 (gI M 10 (ix (((2 : Int32) * x1) + x2)))) * (Int32.toInt64 r_2)))


def f_X11_isOff (x1 : Int32) (x2 : Int32) (M : Mm) : Option Int32 :=
chk (inb ((2 : Int32) * x1) 8) <|
ob1 (f_X11_size (gI M 10 (ix ((2 : Int32) * x1))) M) fun r_1 =>
ob1 ((if x2 < r_1 then (
some (1 : Int32)) else (
chk (inb (((2 : Int32) * x1) + (1 : Int32)) 8) <|
ob1 (f_X11_size (gI M 10 (ix (((2 : Int32) * x1) + (1 : Int32)))) M) fun r_3 =>
(if r_3 ≤ x2 then (
some (0 : Int32)) else (
some (1 : Int32)))))) fun y_2 =>
ob1 (f_X11_of x1 (4 : Int32) M) fun r_4 =>
lt1 ((Int32.toInt64 (r_4 + (1000 : Int32)))) fun x4_5 =>
(if y_2 = (0 : Int32) then (
ob1 (f_X11_timeOf x1 (0 : Int32) M) fun r_6 =>
(if r_6 < x4_5 then (
some (1 : Int32)) else (
ob1 (f_X11_timeOf x1 (1 : Int32) M) fun r_7 =>
(if x4_5 ≤ r_7 then (
some (0 : Int32)) else (
some (1 : Int32)))))) else (
some (1 : Int32)))


def f_X11_weighted_L7 (M : Mm) : Nat → Int64 → Int64 → Int32 → Option (Int64 × Int64)
  | 0, _, _, _ => none
  | n + 1, x1_1, x3_2, x5_3 =>
    (if (gI M 1 64) ≤ x5_3 then (
    some (x1_1, x3_2)) else (
    chk (inb x5_3 4) <|
    ob1 ((if (gI M 13 (ix x5_3)) = (0 : Int32) then (
    some (0 : Int64)) else (
    chk (inb x5_3 4) <|
    ob1 (f_X11_of x5_3 (2 : Int32) M) fun r_7 =>
    some ((gJ M 12 (ix x5_3)) * (Int32.toInt64 r_7))))) fun y_6 =>
    lt1 ((x1_1 + y_6)) fun x1_8 =>
    chk (inb x5_3 4) <|
    ob1 ((if (gI M 13 (ix x5_3)) = (0 : Int32) then (
    some (0 : Int64)) else (
    ob1 (f_X11_of x5_3 (2 : Int32) M) fun r_10 =>
    some (Int32.toInt64 r_10)))) fun y_9 =>
    lt1 ((x3_2 + y_9)) fun x3_11 =>
    lt1 (x5_3 + (1 : Int32)) fun x5_12 =>
    f_X11_weighted_L7 M n x1_8 x3_11 x5_12))

def f_X11_weighted (M : Mm) : Option Int64 :=
ob2 (f_X11_weighted_L7 M 1000 (0 : Int64) (0 : Int64) (0 : Int32)) fun x1_4 x3_5 =>
chk (decide (¬ x3_5 = 0)) <|
some (x1_4 / x3_5)


def f_X11_worksOut_L36 (x1 : Int32) : Nat → Int32 → Mm → Option Mm
  | 0, _, _ => none
  | n + 1, x2_8, M_9 =>
    (if (gI M_9 1 64) ≤ x2_8 then (
    some M_9) else (
    chk (inb x2_8 4) <|
    lt1 (wI M_9 13 (ix x2_8) (0 : Int32)) fun M_11 =>
    chk (inb x2_8 4) <|
    ob1 ((if (gI M_11 9 (ix x2_8)) = (4 : Int32) then (
    chk (inb ((2 : Int32) * x2_8) 8) <|
    ob1 ((if (gI M_11 10 (ix ((2 : Int32) * x2_8))) = (0 : Int32) then (
    chk (inb (((2 : Int32) * x2_8) + (1 : Int32)) 8) <|
    (if (gI M_11 10 (ix (((2 : Int32) * x2_8) + (1 : Int32)))) = (0 : Int32) then (
    some (0 : Int32)) else (
    some (1 : Int32)))) else (
    some (1 : Int32)))) fun y_13 =>
    ob1 (f_X11_isOff x2_8 x1 M_11) fun r_14 =>
    ob1 ((if r_14 = (0 : Int32) then (
    (if y_13 = (0 : Int32) then (
    some (4 : Int32)) else (
    some (3 : Int32)))) else (
    some (2 : Int32)))) fun y_15 =>
    chk (inb x2_8 4) <|
    lt1 (wI M_11 9 (ix x2_8) y_15) fun M_16 =>
    chk (inb x2_8 4) <|
    ob1 ((if (gI M_16 9 (ix x2_8)) < (3 : Int32) then (
    some (0 : Int32)) else (
    some ((1 : Int32) <<< (x2_8 &&& 31))))) fun y_17 =>
    lt1 (wI M_16 0 16 ((gI M_16 0 16) ||| y_17)) fun M_18 =>
    chk (inb x2_8 4) <|
    ob1 ((if (gI M_18 9 (ix x2_8)) = (3 : Int32) then (
    some ((1 : Int32) <<< (x2_8 &&& 31))) else (
    some (0 : Int32)))) fun y_19 =>
    lt1 (wI M_18 0 17 ((gI M_18 0 17) ||| y_19)) fun M_20 =>
    some M_20) else (
    some M_11))) fun M_12 =>
    chk (inb x2_8 4) <|
    ob1 ((if (gI M_12 9 (ix x2_8)) < (3 : Int32) then (
    some M_12) else (
    ob1 (f_X11_timeOf x2_8 (0 : Int32) M_12) fun r_22 =>
    ob1 (f_X11_timeOf x2_8 (1 : Int32) M_12) fun r_23 =>
    ob1 (f_X11_velocityOf x2_8 (Int64.toInt32 r_22) (Int64.toInt32 r_23) M_12) fun r_24 =>
    chk (inb x2_8 4) <|
    lt1 (wJ M_12 12 (ix x2_8) (Int32.toInt64 r_24)) fun M_25 =>
    chk (inb x2_8 4) <|
    lt1 (wI M_25 13 (ix x2_8) (1 : Int32)) fun M_26 =>
    some M_26))) fun M_21 =>
    lt1 (x2_8 + (1 : Int32)) fun x2_27 =>
    f_X11_worksOut_L36 x1 n x2_27 M_21))

def f_X11_worksOut_L248 (x2_30 : Int64) : Nat → Int32 → Mm → Option Mm
  | 0, _, _ => none
  | n + 1, x4_31, M_32 =>
    (if (gI M_32 1 64) ≤ x4_31 then (
    some M_32) else (
    chk (inb x4_31 4) <|
    ob1 ((if (gI M_32 13 (ix x4_31)) = (0 : Int32) then (
    ob1 (f_X11_of x4_31 (7 : Int32) M_32) fun r_35 =>
    (if r_35 = (-2000000005 : Int32) then (
    some M_32) else (
    ob1 (f_X11_of x4_31 (7 : Int32) M_32) fun r_36 =>
    chk (inb x4_31 4) <|
    lt1 (wJ M_32 12 (ix x4_31) ((x2_30 * (Int32.toInt64 r_36)) / (1000 : Int64))) fun M_37 =>
    chk (inb x4_31 4) <|
    lt1 (wI M_37 13 (ix x4_31) (1 : Int32)) fun M_38 =>
    lt1 (wI M_38 0 18 ((gI M_38 0 18) ||| ((1 : Int32) <<< (x4_31 &&& 31)))) fun M_39 =>
    some M_39))) else (
    some M_32))) fun M_34 =>
    lt1 (x4_31 + (1 : Int32)) fun x4_40 =>
    f_X11_worksOut_L248 x2_30 n x4_40 M_34))

def f_X11_worksOut (x1 : Int32) (M : Mm) : Option (Int32 × Mm) :=
lt1 (wI M 0 15 (0 : Int32)) fun M_1 =>
lt1 (wI M_1 0 16 (0 : Int32)) fun M_2 =>
lt1 (wI M_2 0 17 (0 : Int32)) fun M_3 =>
lt1 (wI M_3 0 18 (0 : Int32)) fun M_4 =>
ob1 (f_X11_takeShifts M_4) fun M_5 =>
ob1 (f_X11_vote (0 : Int32) M_5) fun M_6 =>
ob1 (f_X11_vote (1 : Int32) M_6) fun M_7 =>
ob1 (f_X11_worksOut_L36 x1 1000 (0 : Int32) M_7) fun M_10 =>
(if (gI M_10 0 16) = (0 : Int32) then (
some ((0 : Int32), M_10)) else (
ob1 (f_X11_weighted M_10) fun r_28 =>
lt1 (wJ M_10 0 19 r_28) fun M_29 =>
lt1 ((gJ M_29 0 19)) fun x2_30 =>
ob1 (f_X11_worksOut_L248 x2_30 1000 (0 : Int32) M_29) fun M_33 =>
ob1 (f_X11_weighted M_33) fun r_41 =>
lt1 (wJ M_33 0 19 r_41) fun M_42 =>
some ((1 : Int32), M_42)))


def f_X11_roundVelocity (M : Mm) : Option Int32 :=
ob1 (f_X11_factorFor (gJ M 0 19) M) fun r_1 =>
some (Int64.toInt32 (((gJ M 0 19) * (Int32.toInt64 r_1)) / (1000 : Int64)))


def f_X11_tells (x1 : Int32) (M : Mm) : Option Mm :=
chk (inb x1 4) <|
ob1 ((if (gI M 9 (ix x1)) < (3 : Int32) then (
some (0 : Int32)) else (
some (1 : Int32)))) fun y_1 =>
ob1 ((if y_1 = (0 : Int32) then (
some M) else (
ob1 (f_X11_timeOf x1 (0 : Int32) M) fun r_3 =>
lt1 ((Int64.toInt32 r_3)) fun x3_4 =>
ob1 (f_X11_timeOf x1 (1 : Int32) M) fun r_5 =>
lt1 ((Int64.toInt32 r_5)) fun x4_6 =>
ob1 (f_X11_lay x1 (5 : Int32) x3_4 M) fun M_7 =>
ob1 (f_X11_lay x1 (6 : Int32) x4_6 M_7) fun M_8 =>
some M_8))) fun M_2 =>
ob1 ((if y_1 = (0 : Int32) then (
some M_2) else (
(if (gJ M_2 0 19) = (0 : Int64) then (
some M_2) else (
chk (inb x1 4) <|
chk (decide (¬ (gJ M_2 0 19) = 0)) <|
ob1 (f_X11_held (((gJ M_2 12 (ix x1)) * (1000 : Int64)) / (gJ M_2 0 19)) (5000 : Int64) M_2) fun r_10 =>
ob1 (f_X11_lay x1 (7 : Int32) (Int64.toInt32 r_10) M_2) fun M_11 =>
some M_11))))) fun M_9 =>
chk (inb x1 4) <|
ob1 (f_X11_lay x1 (8 : Int32) (gI M_9 9 (ix x1)) M_9) fun M_12 =>
ob1 ((if (gI M_12 0 16) = (0 : Int32) then (
some (-2000000005 : Int32)) else (
chk (inb x1 4) <|
(if (gI M_12 13 (ix x1)) = (0 : Int32) then (
some (-2000000005 : Int32)) else (
chk (inb x1 4) <|
some (Int64.toInt32 (gJ M_12 12 (ix x1)))))))) fun y_13 =>
ob1 (f_X11_lay x1 (9 : Int32) y_13 M_12) fun M_14 =>
ob1 ((if y_1 = (0 : Int32) then (
ob1 (f_X11_of x1 (10 : Int32) M_14) fun r_16 =>
some (r_16 + (1 : Int32))) else (
some (0 : Int32)))) fun y_15 =>
ob1 (f_X11_lay x1 (10 : Int32) y_15 M_14) fun M_17 =>
ob1 (f_X11_of x1 (11 : Int32) M_17) fun r_18 =>
chk (inb x1 4) <|
ob1 ((if (gI M_17 9 (ix x1)) = (3 : Int32) then (
some (1 : Int32)) else (
some (0 : Int32)))) fun y_19 =>
ob1 (f_X11_lay x1 (11 : Int32) (r_18 + y_19) M_17) fun M_20 =>
ob1 (f_X11_of x1 (12 : Int32) M_20) fun r_21 =>
chk (inb x1 4) <|
ob1 ((if (gI M_20 9 (ix x1)) = (2 : Int32) then (
some (1 : Int32)) else (
some (0 : Int32)))) fun y_22 =>
ob1 (f_X11_lay x1 (12 : Int32) (r_21 + y_22) M_20) fun M_23 =>
some M_23


def f_X11_keeps_L3 : Nat → Int32 → Mm → Option Mm
  | 0, _, _ => none
  | n + 1, x3_1, M_2 =>
    (if x3_1 < (6 : Int32) then (
    some M_2) else (
    chk (inb (((87 : Int32) + x3_1) - (6 : Int32)) 159) <|
    chk (inb ((87 : Int32) + x3_1) 159) <|
    lt1 (wI M_2 1 (ix ((87 : Int32) + x3_1)) (gI M_2 1 (ix (((87 : Int32) + x3_1) - (6 : Int32))))) fun M_4 =>
    lt1 (x3_1 + (-1 : Int32)) fun x3_5 =>
    f_X11_keeps_L3 n x3_5 M_4))

def f_X11_keeps (x1 : Int32) (x2 : Int32) (M : Mm) : Option Mm :=
ob1 (f_X11_keeps_L3 1000 (71 : Int32) M) fun M_3 =>
ob1 ((if x1 = (0 : Int32) then (
some (-2000000005 : Int32)) else (
some x2))) fun y_6 =>
lt1 (wI M_3 1 87 y_6) fun M_7 =>
ob1 ((if x1 = (0 : Int32) then (
some (-2000000005 : Int32)) else (
some (Int64.toInt32 (gJ M_7 0 19))))) fun y_8 =>
lt1 (wI M_7 1 88 y_8) fun M_9 =>
lt1 (wI M_9 1 89 (gI M_9 0 16)) fun M_10 =>
lt1 (wI M_10 1 90 (gI M_10 0 17)) fun M_11 =>
lt1 (wI M_11 1 91 (gI M_11 0 18)) fun M_12 =>
lt1 (wI M_12 1 92 (gI M_12 0 15)) fun M_13 =>
ob1 ((if (12 : Int32) ≤ (gI M_13 1 86) then (
some (0 : Int32)) else (
some (1 : Int32)))) fun y_14 =>
lt1 (wI M_13 1 86 ((gI M_13 1 86) + y_14)) fun M_15 =>
some M_15


def f_X11_closes_L28 : Nat → Int32 → Mm → Option Mm
  | 0, _, _ => none
  | n + 1, x3_5, M_6 =>
    (if (gI M_6 1 64) ≤ x3_5 then (
    some M_6) else (
    ob1 (f_X11_tells x3_5 M_6) fun M_8 =>
    lt1 (x3_5 + (1 : Int32)) fun x3_9 =>
    f_X11_closes_L28 n x3_9 M_8))

def f_X11_closes_L52 : Nat → Int32 → Mm → Option Mm
  | 0, _, _ => none
  | n + 1, x3_10, M_11 =>
    (if (gI M_11 1 64) ≤ x3_10 then (
    some M_11) else (
    ob1 (f_X11_lay x3_10 (13 : Int32) (-2000000005 : Int32) M_11) fun M_13 =>
    lt1 (x3_10 + (1 : Int32)) fun x3_14 =>
    f_X11_closes_L52 n x3_14 M_13))

def f_X11_closes (M : Mm) : Option (Int32 × Mm) :=
ob2 (f_X11_worksOut (gI M 1 79) M) fun r_2 M_1 =>
ob1 ((if r_2 = (0 : Int32) then (
some (-2000000005 : Int32)) else (
ob1 (f_X11_roundVelocity M_1) fun r_4 =>
some r_4))) fun y_3 =>
ob1 (f_X11_closes_L28 1000 (0 : Int32) M_1) fun M_7 =>
ob1 (f_X11_closes_L52 1000 (0 : Int32) M_7) fun M_12 =>
ob1 (f_X11_keeps r_2 y_3 M_12) fun M_15 =>
lt1 (wI M_15 1 84 ((gI M_15 1 84) + (1 : Int32))) fun M_16 =>
ob1 ((if r_2 = (0 : Int32) then (
some (1 : Int32)) else (
some (0 : Int32)))) fun y_17 =>
lt1 (wI M_16 1 85 ((gI M_16 1 85) + y_17)) fun M_18 =>
ob1 ((if r_2 = (0 : Int32) then (
some M_18) else (
lt1 (((((Int32.toInt64 y_3) * (Int32.toInt64 (gI M_18 1 81))) * (Int32.toInt64 (gI M_18 1 82))) / (1000 : Int64))) fun x3_20 =>
ob1 ((if x3_20 ≤ (0 : Int64) then (
some (0 : Int64)) else (
some x3_20))) fun y_21 =>
lt1 (wJ M_18 2 0 ((gJ M_18 2 0) + y_21)) fun M_22 =>
ob1 ((if (0 : Int64) ≤ x3_20 then (
some (0 : Int64)) else (
some (-x3_20)))) fun y_23 =>
lt1 (wJ M_22 2 1 ((gJ M_22 2 1) + y_23)) fun M_24 =>
some M_24))) fun M_19 =>
some (y_3, M_19)


def f_X11_close (M : Mm) : Option (Int32 × Mm) :=
(if (gI M 1 64) = (0 : Int32) then (
some ((-2000000003 : Int32), M)) else (
ob1 (f_X11_records M) fun M_1 =>
ob2 (f_X11_closes M_1) fun r_3 M_2 =>
some (r_3, M_2)))


def f_X11_exchanges (x1 : Int32) (x2 : Int32) (M : Mm) : Option Mm :=
ob1 (f_X11_of x1 x2 M) fun r_1 =>
ob1 (f_X11_of x1 (x2 + (1 : Int32)) M) fun r_2 =>
ob1 (f_X11_lay x1 x2 r_2 M) fun M_3 =>
ob1 (f_X11_lay x1 (x2 + (1 : Int32)) r_1 M_3) fun M_4 =>
some M_4


def f_X11_swaps_L18 : Nat → Int32 → Mm → Option Mm
  | 0, _, _ => none
  | n + 1, x1_2, M_3 =>
    (if (gI M_3 1 64) ≤ x1_2 then (
    some M_3) else (
    ob1 (f_X11_of x1_2 (5 : Int32) M_3) fun r_5 =>
    ob1 ((if r_5 = (-2000000005 : Int32) then (
    some M_3) else (
    ob1 (f_X11_exchanges x1_2 (5 : Int32) M_3) fun M_7 =>
    some M_7))) fun M_6 =>
    ob1 (f_X11_of x1_2 (13 : Int32) M_6) fun r_8 =>
    ob1 ((if r_8 = (-2000000005 : Int32) then (
    some M_6) else (
    ob1 (f_X11_exchanges x1_2 (13 : Int32) M_6) fun M_10 =>
    some M_10))) fun M_9 =>
    lt1 (x1_2 + (1 : Int32)) fun x1_11 =>
    f_X11_swaps_L18 n x1_11 M_9))

def f_X11_swaps (M : Mm) : Option (Int32 × Mm) :=
lt1 (wI M 1 83 ((1 : Int32) - (gI M 1 83))) fun M_1 =>
ob1 (f_X11_swaps_L18 1000 (0 : Int32) M_1) fun M_4 =>
some ((gI M_4 1 83), M_4)


def f_X11_swap (M : Mm) : Option (Int32 × Mm) :=
ob1 (f_X11_records M) fun M_1 =>
ob2 (f_X11_swaps M_1) fun r_3 M_2 =>
some (r_3, M_2)


def f_X11_forget (x1 : Int32) (M : Mm) : Option (Int32 × Mm) :=
ob1 (f_X11_isPath x1 M) fun r_1 =>
(if r_1 = (0 : Int32) then (
some ((-2000000001 : Int32), M)) else (
ob1 (f_X11_records M) fun M_2 =>
ob1 (f_X11_of x1 (5 : Int32) M_2) fun r_3 =>
ob1 ((if r_3 = (-2000000005 : Int32) then (
some (0 : Int32)) else (
some (1 : Int32)))) fun y_4 =>
ob1 (f_X11_lay x1 (5 : Int32) (-2000000005 : Int32) M_2) fun M_5 =>
ob1 (f_X11_lay x1 (6 : Int32) (-2000000005 : Int32) M_5) fun M_6 =>
ob1 (f_X11_lay x1 (7 : Int32) (-2000000005 : Int32) M_6) fun M_7 =>
some (y_4, M_7)))


def f_X11_append (x1 : Int32) (M : Mm) : Option (Int32 × Mm) :=
ob1 (f_X11_in x1 (32 : Int32) (126 : Int32) M) fun r_1 =>
(if r_1 = (0 : Int32) then (
some ((-2000000002 : Int32), M)) else (
(if (gI M 0 9) = (100 : Int32) then (
some ((-2000000004 : Int32), M)) else (
chk (inb (gI M 0 9) 100) <|
lt1 (wI M 8 (ix (gI M 0 9)) x1) fun M_2 =>
lt1 (wI M_2 0 9 ((gI M_2 0 9) + (1 : Int32))) fun M_3 =>
some ((gI M_3 0 9), M_3)))))


def f_X11_clearText (M : Mm) : Option (Int32 × Mm) :=
lt1 ((gI M 0 9)) fun x1_1 =>
lt1 (wI M 0 9 (0 : Int32)) fun M_2 =>
some (x1_1, M_2)


def f_X11_here (M : Mm) : Option Int32 :=
(if (gI M 0 9) ≤ (gI M 0 21) then (
some (-1 : Int32)) else (
chk (inb (gI M 0 21) 100) <|
some (gI M 8 (ix (gI M 0 21)))))


def f_X11_passes (x1 : Int32) (M : Mm) : Option (Int32 × Mm) :=
ob1 (f_X11_here M) fun r_1 =>
ob1 ((if r_1 = x1 then (
some (1 : Int32)) else (
some (0 : Int32)))) fun y_2 =>
ob1 ((if y_2 = (0 : Int32) then (
some (0 : Int32)) else (
some (1 : Int32)))) fun y_3 =>
lt1 (wI M 0 21 ((gI M 0 21) + y_3)) fun M_4 =>
chk (bz y_2) <|
some (y_2, M_4)


def f_X11_readNumber_L13 (x1 : Int32) (x4_1 : Int32) : Nat → Mm → Option Mm
  | 0, _ => none
  | n + 1, M_3 =>
    ob1 (f_X11_here M_3) fun r_5 =>
    ob1 (f_X11_in r_5 (48 : Int32) (57 : Int32) M_3) fun r_6 =>
    (if r_6 = (0 : Int32) then (
    some M_3) else (
    (if (x4_1 + (7 : Int32)) ≤ (gI M_3 0 21) then (
    some M_3) else (
    (if (gI M_3 0 21) = x4_1 then (
    chk (inb x1 4) <|
    ob1 (f_X11_here M_3) fun r_7 =>
    chk (inb x1 4) <|
    lt1 (wI M_3 15 (ix x1) ((((10 : Int32) * (gI M_3 15 (ix x1))) + r_7) - (48 : Int32))) fun M_8 =>
    lt1 (wI M_8 0 21 ((gI M_8 0 21) + (1 : Int32))) fun M_9 =>
    f_X11_readNumber_L13 x1 x4_1 n M_9) else (
    chk (inb x4_1 100) <|
    (if (gI M_3 8 (ix x4_1)) = (48 : Int32) then (
    some M_3) else (
    chk (inb x1 4) <|
    ob1 (f_X11_here M_3) fun r_10 =>
    chk (inb x1 4) <|
    lt1 (wI M_3 15 (ix x1) ((((10 : Int32) * (gI M_3 15 (ix x1))) + r_10) - (48 : Int32))) fun M_11 =>
    lt1 (wI M_11 0 21 ((gI M_11 0 21) + (1 : Int32))) fun M_12 =>
    f_X11_readNumber_L13 x1 x4_1 n M_12))))))))

def f_X11_readNumber (x1 : Int32) (x2 : Int32) (x3 : Int32) (M : Mm) : Option (Int32 × Mm) :=
lt1 ((gI M 0 21)) fun x4_1 =>
chk (inb x1 4) <|
lt1 (wI M 15 (ix x1) (0 : Int32)) fun M_2 =>
ob1 (f_X11_readNumber_L13 x1 x4_1 1000 M_2) fun M_4 =>
ob1 ((if (gI M_4 0 21) ≤ x4_1 then (
some (0 : Int32)) else (
chk (inb x1 4) <|
ob1 (f_X11_in (gI M_4 15 (ix x1)) x2 x3 M_4) fun r_14 =>
(if r_14 = (0 : Int32) then (
some (0 : Int32)) else (
some (1 : Int32)))))) fun y_13 =>
ob1 ((if y_13 = (0 : Int32) then (
some x4_1) else (
some (gI M_4 0 21)))) fun y_15 =>
lt1 (wI M_4 0 21 y_15) fun M_16 =>
chk (bz y_13) <|
some (y_13, M_16)


def f_X11_readAct (M : Mm) : Option (Int32 × Mm) :=
ob1 (f_X11_here M) fun r_1 =>
lt1 (wI M 0 22 r_1) fun M_2 =>
(if (gI M_2 0 22) = (115 : Int32) then (
lt1 (wI M_2 0 21 ((gI M_2 0 21) + (1 : Int32))) fun M_3 =>
ob2 ((if (gI M_3 0 22) = (115 : Int32) then (
ob2 (f_X11_readNumber (0 : Int32) (0 : Int32) (3 : Int32) M_3) fun r_7 M_6 =>
(if r_7 = (0 : Int32) then (
some ((0 : Int32), M_6)) else (
ob2 (f_X11_passes (102 : Int32) M_6) fun r_9 M_8 =>
(if r_9 = (0 : Int32) then (
some ((0 : Int32), M_8)) else (
ob2 (f_X11_readNumber (1 : Int32) (1000 : Int32) (9999999 : Int32) M_8) fun r_11 M_10 =>
(if r_11 = (0 : Int32) then (
some ((0 : Int32), M_10)) else (
ob2 (f_X11_passes (98 : Int32) M_10) fun r_13 M_12 =>
(if r_13 = (0 : Int32) then (
some ((0 : Int32), M_12)) else (
ob2 (f_X11_readNumber (2 : Int32) (1000 : Int32) (9999999 : Int32) M_12) fun r_15 M_14 =>
(if r_15 = (0 : Int32) then (
some ((0 : Int32), M_14)) else (
ob2 (f_X11_passes (113 : Int32) M_14) fun r_17 M_16 =>
(if r_17 = (0 : Int32) then (
some ((0 : Int32), M_16)) else (
ob2 (f_X11_readNumber (3 : Int32) (0 : Int32) (100 : Int32) M_16) fun r_19 M_18 =>
(if r_19 = (0 : Int32) then (
some ((0 : Int32), M_18)) else (
some ((1 : Int32), M_18)))))))))))))))) else (
some ((1 : Int32), M_3)))) fun y_4 M_5 =>
(if y_4 = (0 : Int32) then (
some ((0 : Int32), M_5)) else (
ob2 (f_X11_passes (59 : Int32) M_5) fun r_21 M_20 =>
(if r_21 = (0 : Int32) then (
some ((0 : Int32), M_20)) else (
some ((1 : Int32), M_20)))))) else (
(if (gI M_2 0 22) = (99 : Int32) then (
lt1 (wI M_2 0 21 ((gI M_2 0 21) + (1 : Int32))) fun M_22 =>
ob2 ((if (gI M_22 0 22) = (115 : Int32) then (
ob2 (f_X11_readNumber (0 : Int32) (0 : Int32) (3 : Int32) M_22) fun r_26 M_25 =>
(if r_26 = (0 : Int32) then (
some ((0 : Int32), M_25)) else (
ob2 (f_X11_passes (102 : Int32) M_25) fun r_28 M_27 =>
(if r_28 = (0 : Int32) then (
some ((0 : Int32), M_27)) else (
ob2 (f_X11_readNumber (1 : Int32) (1000 : Int32) (9999999 : Int32) M_27) fun r_30 M_29 =>
(if r_30 = (0 : Int32) then (
some ((0 : Int32), M_29)) else (
ob2 (f_X11_passes (98 : Int32) M_29) fun r_32 M_31 =>
(if r_32 = (0 : Int32) then (
some ((0 : Int32), M_31)) else (
ob2 (f_X11_readNumber (2 : Int32) (1000 : Int32) (9999999 : Int32) M_31) fun r_34 M_33 =>
(if r_34 = (0 : Int32) then (
some ((0 : Int32), M_33)) else (
ob2 (f_X11_passes (113 : Int32) M_33) fun r_36 M_35 =>
(if r_36 = (0 : Int32) then (
some ((0 : Int32), M_35)) else (
ob2 (f_X11_readNumber (3 : Int32) (0 : Int32) (100 : Int32) M_35) fun r_38 M_37 =>
(if r_38 = (0 : Int32) then (
some ((0 : Int32), M_37)) else (
some ((1 : Int32), M_37)))))))))))))))) else (
some ((1 : Int32), M_22)))) fun y_23 M_24 =>
(if y_23 = (0 : Int32) then (
some ((0 : Int32), M_24)) else (
ob2 (f_X11_passes (59 : Int32) M_24) fun r_40 M_39 =>
(if r_40 = (0 : Int32) then (
some ((0 : Int32), M_39)) else (
some ((1 : Int32), M_39)))))) else (
(if (gI M_2 0 22) = (119 : Int32) then (
lt1 (wI M_2 0 21 ((gI M_2 0 21) + (1 : Int32))) fun M_41 =>
ob2 ((if (gI M_41 0 22) = (115 : Int32) then (
ob2 (f_X11_readNumber (0 : Int32) (0 : Int32) (3 : Int32) M_41) fun r_45 M_44 =>
(if r_45 = (0 : Int32) then (
some ((0 : Int32), M_44)) else (
ob2 (f_X11_passes (102 : Int32) M_44) fun r_47 M_46 =>
(if r_47 = (0 : Int32) then (
some ((0 : Int32), M_46)) else (
ob2 (f_X11_readNumber (1 : Int32) (1000 : Int32) (9999999 : Int32) M_46) fun r_49 M_48 =>
(if r_49 = (0 : Int32) then (
some ((0 : Int32), M_48)) else (
ob2 (f_X11_passes (98 : Int32) M_48) fun r_51 M_50 =>
(if r_51 = (0 : Int32) then (
some ((0 : Int32), M_50)) else (
ob2 (f_X11_readNumber (2 : Int32) (1000 : Int32) (9999999 : Int32) M_50) fun r_53 M_52 =>
(if r_53 = (0 : Int32) then (
some ((0 : Int32), M_52)) else (
ob2 (f_X11_passes (113 : Int32) M_52) fun r_55 M_54 =>
(if r_55 = (0 : Int32) then (
some ((0 : Int32), M_54)) else (
ob2 (f_X11_readNumber (3 : Int32) (0 : Int32) (100 : Int32) M_54) fun r_57 M_56 =>
(if r_57 = (0 : Int32) then (
some ((0 : Int32), M_56)) else (
some ((1 : Int32), M_56)))))))))))))))) else (
some ((1 : Int32), M_41)))) fun y_42 M_43 =>
(if y_42 = (0 : Int32) then (
some ((0 : Int32), M_43)) else (
ob2 (f_X11_passes (59 : Int32) M_43) fun r_59 M_58 =>
(if r_59 = (0 : Int32) then (
some ((0 : Int32), M_58)) else (
some ((1 : Int32), M_58)))))) else (
some ((0 : Int32), M_2)))))))


def f_X11_faultOf_L5 : Nat → Mm → Option (Int32 × Mm)
  | 0, _ => none
  | n + 1, M_2 =>
    (if (gI M_2 0 9) ≤ (gI M_2 0 21) then (
    some ((-1 : Int32), M_2)) else (
    ob2 (f_X11_readAct M_2) fun r_4 M_3 =>
    (if r_4 = (0 : Int32) then (
    some ((gI M_3 0 21), M_3)) else (
    f_X11_faultOf_L5 n M_3))))

def f_X11_faultOf (M : Mm) : Option (Int32 × Mm) :=
lt1 (wI M 0 21 (0 : Int32)) fun M_1 =>
f_X11_faultOf_L5 1000 M_1


def f_X11_faultPosition (M : Mm) : Option (Int32 × Mm) :=
ob2 (f_X11_faultOf M) fun r_2 M_1 =>
(if (0 : Int32) ≤ r_2 then (
some (r_2, M_1)) else (
some ((-2000000005 : Int32), M_1)))


def f_X11_does (M : Mm) : Option (Int32 × Mm) :=
(if (gI M 0 22) = (115 : Int32) then (
ob1 (f_X11_whyShot (gI M 15 0) (gI M 15 1) (gI M 15 2) (gI M 15 3) M) fun r_13 =>
(if (0 : Int32) ≤ r_13 then (
ob2 (f_X11_shoots (gI M 15 0) (gI M 15 1) (gI M 15 2) (gI M 15 3) M) fun r_15 M_14 =>
some ((1 : Int32), M_14)) else (
some ((0 : Int32), M)))) else (
(if (gI M 0 22) = (99 : Int32) then (
(if (gI M 1 64) = (0 : Int32) then (
some ((0 : Int32), M)) else (
ob2 ((if (gI M 0 22) = (99 : Int32) then (
ob2 (f_X11_closes M) fun r_12 M_11 =>
some (r_12, M_11)) else (
ob2 (f_X11_swaps M) fun r_10 M_9 =>
some (r_10, M_9)))) fun y_7 M_8 =>
some ((1 : Int32), M_8)))) else (
ob2 ((if (gI M 0 22) = (99 : Int32) then (
ob2 (f_X11_closes M) fun r_6 M_5 =>
some (r_6, M_5)) else (
ob2 (f_X11_swaps M) fun r_4 M_3 =>
some (r_4, M_3)))) fun y_1 M_2 =>
some ((1 : Int32), M_2)))))


def f_X11_run_L21 : Nat → Int32 → Mm → Option (Int32 × Mm)
  | 0, _, _ => none
  | n + 1, x1_5, M_6 =>
    (if (gI M_6 0 9) ≤ (gI M_6 0 21) then (
    some (x1_5, M_6)) else (
    ob2 (f_X11_readAct M_6) fun r_10 M_9 =>
    (if r_10 = (0 : Int32) then (
    some (x1_5, M_9)) else (
    ob2 (f_X11_does M_9) fun r_12 M_11 =>
    (if r_12 = (0 : Int32) then (
    some (x1_5, M_11)) else (
    lt1 (x1_5 + (1 : Int32)) fun x1_13 =>
    f_X11_run_L21 n x1_13 M_11))))))

def f_X11_run (M : Mm) : Option (Int32 × Mm) :=
ob2 (f_X11_faultOf M) fun r_2 M_1 =>
(if r_2 < (0 : Int32) then (
ob1 (f_X11_records M_1) fun M_3 =>
lt1 (wI M_3 0 21 (0 : Int32)) fun M_4 =>
ob2 (f_X11_run_L21 1000 (0 : Int32) M_4) fun x1_7 M_8 =>
some (x1_7, M_8)) else (
some ((-2000000003 : Int32), M_1)))


def f_X11_undo_L22 : Nat → Int32 → Mm → Option Mm
  | 0, _, _ => none
  | n + 1, x1_2, M_3 =>
    (if (159 : Int32) ≤ x1_2 then (
    some M_3) else (
    chk (inb (((159 : Int32) * (gI M_3 0 4)) + x1_2) 795) <|
    chk (inb x1_2 159) <|
    lt1 (wI M_3 1 (ix x1_2) (gI M_3 3 (ix (((159 : Int32) * (gI M_3 0 4)) + x1_2)))) fun M_5 =>
    lt1 (x1_2 + (1 : Int32)) fun x1_6 =>
    f_X11_undo_L22 n x1_6 M_5))

def f_X11_undo (M : Mm) : Option (Int32 × Mm) :=
(if (gI M 0 4) = (0 : Int32) then (
some ((-2000000003 : Int32), M)) else (
lt1 (wI M 0 4 ((gI M 0 4) - (1 : Int32))) fun M_1 =>
ob1 (f_X11_undo_L22 1000 (0 : Int32) M_1) fun M_4 =>
chk (inb ((2 : Int32) * (gI M_4 0 4)) 10) <|
lt1 (wJ M_4 2 0 (gJ M_4 4 (ix ((2 : Int32) * (gI M_4 0 4))))) fun M_7 =>
chk (inb (((2 : Int32) * (gI M_7 0 4)) + (1 : Int32)) 10) <|
lt1 (wJ M_7 2 1 (gJ M_7 4 (ix (((2 : Int32) * (gI M_7 0 4)) + (1 : Int32))))) fun M_8 =>
some ((gI M_8 0 4), M_8)))


def f_X11_save_L14 (x1 : Int32) : Nat → Int32 → Mm → Option Mm
  | 0, _, _ => none
  | n + 1, x2_2, M_3 =>
    (if (159 : Int32) ≤ x2_2 then (
    some M_3) else (
    chk (inb x2_2 159) <|
    chk (inb (((159 : Int32) * x1) + x2_2) 318) <|
    lt1 (wI M_3 5 (ix (((159 : Int32) * x1) + x2_2)) (gI M_3 1 (ix x2_2))) fun M_5 =>
    lt1 (x2_2 + (1 : Int32)) fun x2_6 =>
    f_X11_save_L14 x1 n x2_6 M_5))

def f_X11_save (x1 : Int32) (M : Mm) : Option (Int32 × Mm) :=
ob1 (f_X11_in x1 (0 : Int32) (1 : Int32) M) fun r_1 =>
(if r_1 = (0 : Int32) then (
some ((-2000000001 : Int32), M)) else (
ob1 (f_X11_save_L14 x1 1000 (0 : Int32) M) fun M_4 =>
chk (inb ((2 : Int32) * x1) 4) <|
lt1 (wJ M_4 6 (ix ((2 : Int32) * x1)) (gJ M_4 2 0)) fun M_7 =>
chk (inb (((2 : Int32) * x1) + (1 : Int32)) 4) <|
lt1 (wJ M_7 6 (ix (((2 : Int32) * x1) + (1 : Int32))) (gJ M_7 2 1)) fun M_8 =>
chk (inb x1 2) <|
lt1 (wI M_8 7 (ix x1) (1 : Int32)) fun M_9 =>
some ((gI M_9 1 84), M_9)))


def f_X11_restore_L30 (x1 : Int32) : Nat → Int32 → Mm → Option Mm
  | 0, _, _ => none
  | n + 1, x2_3, M_4 =>
    (if (159 : Int32) ≤ x2_3 then (
    some M_4) else (
    chk (inb (((159 : Int32) * x1) + x2_3) 318) <|
    chk (inb x2_3 159) <|
    lt1 (wI M_4 1 (ix x2_3) (gI M_4 5 (ix (((159 : Int32) * x1) + x2_3)))) fun M_6 =>
    lt1 (x2_3 + (1 : Int32)) fun x2_7 =>
    f_X11_restore_L30 x1 n x2_7 M_6))

def f_X11_restore (x1 : Int32) (M : Mm) : Option (Int32 × Mm) :=
ob1 (f_X11_in x1 (0 : Int32) (1 : Int32) M) fun r_1 =>
(if r_1 = (0 : Int32) then (
some ((-2000000001 : Int32), M)) else (
chk (inb x1 2) <|
(if (gI M 7 (ix x1)) = (0 : Int32) then (
some ((-2000000003 : Int32), M)) else (
ob1 (f_X11_records M) fun M_2 =>
ob1 (f_X11_restore_L30 x1 1000 (0 : Int32) M_2) fun M_5 =>
chk (inb ((2 : Int32) * x1) 4) <|
lt1 (wJ M_5 2 0 (gJ M_5 6 (ix ((2 : Int32) * x1)))) fun M_8 =>
chk (inb (((2 : Int32) * x1) + (1 : Int32)) 4) <|
lt1 (wJ M_8 2 1 (gJ M_8 6 (ix (((2 : Int32) * x1) + (1 : Int32))))) fun M_9 =>
some ((gI M_9 1 84), M_9)))))


def f_X11_fails (x1 : Int32) (M : Mm) : Option Int32 :=
ob1 (f_X11_of x1 (10 : Int32) M) fun r_1 =>
(if r_1 < (3 : Int32) then (
some (0 : Int32)) else (
some (1 : Int32)))


def f_X11_path (x1 : Int32) (x2 : Int32) (M : Mm) : Option Int32 :=
ob1 (f_X11_isPath x1 M) fun r_1 =>
(if r_1 = (0 : Int32) then (
some (-2000000001 : Int32)) else (
ob1 (f_X11_in x2 (0 : Int32) (13 : Int32) M) fun r_2 =>
(if r_2 = (0 : Int32) then (
some (-2000000002 : Int32)) else (
(if x2 = (13 : Int32) then (
ob1 (f_X11_fails x1 M) fun r_4 =>
(if r_4 = (0 : Int32) then (
some (0 : Int32)) else (
some (1 : Int32)))) else (
ob1 (f_X11_of x1 x2 M) fun r_3 =>
some r_3))))))


def f_X11_told (x1 : Int32) (x2 : Int32) (M : Mm) : Option Int32 :=
ob1 (f_X11_isPath x1 M) fun r_1 =>
(if r_1 = (0 : Int32) then (
some (-2000000001 : Int32)) else (
ob1 (f_X11_in x2 (0 : Int32) (2 : Int32) M) fun r_2 =>
(if r_2 = (0 : Int32) then (
some (-2000000002 : Int32)) else (
ob1 (f_X11_of x1 (13 : Int32) M) fun r_3 =>
(if r_3 = (-2000000005 : Int32) then (
some (-2000000005 : Int32)) else (
ob1 (f_X11_of x1 ((13 : Int32) + x2) M) fun r_4 =>
some r_4))))))


def f_X11_sound (x1 : Int32) (M : Mm) : Option Int64 :=
ob1 (f_X11_isPath x1 M) fun r_1 =>
(if r_1 = (0 : Int32) then (
some (-2000000001 : Int64)) else (
ob1 (f_X11_of x1 (5 : Int32) M) fun r_2 =>
(if r_2 = (-2000000005 : Int32) then (
some (-2000000005 : Int64)) else (
ob1 (f_X11_of x1 (5 : Int32) M) fun r_3 =>
ob1 (f_X11_of x1 (4 : Int32) M) fun r_4 =>
lt1 ((Int32.toInt64 (r_3 - r_4))) fun x2_5 =>
ob1 (f_X11_of x1 (6 : Int32) M) fun r_6 =>
ob1 (f_X11_of x1 (4 : Int32) M) fun r_7 =>
lt1 ((Int32.toInt64 (r_6 - r_7))) fun x4_8 =>
ob1 (f_X11_of x1 (0 : Int32) M) fun r_9 =>
chk (decide (¬ ((x2_5 * x4_8) / (1000 : Int64)) = 0)) <|
some ((((Int32.toInt64 r_9) * (500000 : Int64)) * (x2_5 + x4_8)) / ((x2_5 * x4_8) / (1000 : Int64)))))))


def f_X11_factor (x1 : Int32) (M : Mm) : Option Int32 :=
ob1 (f_X11_in x1 (-100000 : Int32) (100000 : Int32) M) fun r_1 =>
(if r_1 = (0 : Int32) then (
some (-2000000002 : Int32)) else (
ob1 (f_X11_factorFor (Int32.toInt64 x1) M) fun r_2 =>
some r_2))


def f_X11_round (x1 : Int32) (x2 : Int32) (M : Mm) : Option Int32 :=
ob1 (f_X11_in x1 (0 : Int32) ((gI M 1 86) - (1 : Int32)) M) fun r_1 =>
(if r_1 = (0 : Int32) then (
some (-2000000001 : Int32)) else (
ob1 (f_X11_in x2 (0 : Int32) (5 : Int32) M) fun r_2 =>
(if r_2 = (0 : Int32) then (
some (-2000000002 : Int32)) else (
chk (inb (((87 : Int32) + ((6 : Int32) * x1)) + x2) 159) <|
some (gI M 1 (ix (((87 : Int32) + ((6 : Int32) * x1)) + x2)))))))


def f_X11_volume (x1 : Int32) (M : Mm) : Option Int64 :=
ob1 (f_X11_in x1 (0 : Int32) (2 : Int32) M) fun r_1 =>
(if r_1 = (0 : Int32) then (
some (-2000000002 : Int64)) else (
(if x1 = (2 : Int32) then (
some ((gJ M 2 0) - (gJ M 2 1))) else (
chk (inb x1 2) <|
some (gJ M 2 (ix x1))))))


def f_X11_layVelocities_L37 (x3_6 : Int32) : Nat → Int32 → Mm → Option (Int32 × Mm)
  | 0, _, _ => none
  | n + 1, x4_9, M_10 =>
    (if x4_9 ≤ (0 : Int32) then (
    some (x4_9, M_10)) else (
    chk (inb (x4_9 - (1 : Int32)) 12) <|
    (if (gI M_10 16 (ix (x4_9 - (1 : Int32)))) ≤ x3_6 then (
    some (x4_9, M_10)) else (
    chk (inb (x4_9 - (1 : Int32)) 12) <|
    chk (inb x4_9 12) <|
    lt1 (wI M_10 16 (ix x4_9) (gI M_10 16 (ix (x4_9 - (1 : Int32))))) fun M_13 =>
    lt1 (x4_9 + (-1 : Int32)) fun x4_14 =>
    f_X11_layVelocities_L37 x3_6 n x4_14 M_13))))

def f_X11_layVelocities_L4 : Nat → Int32 → Int32 → Mm → Option (Int32 × Mm)
  | 0, _, _, _ => none
  | n + 1, x1_1, x2_2, M_3 =>
    (if (gI M_3 1 86) ≤ x2_2 then (
    some (x1_1, M_3)) else (
    chk (inb ((87 : Int32) + ((6 : Int32) * x2_2)) 159) <|
    lt1 ((gI M_3 1 (ix ((87 : Int32) + ((6 : Int32) * x2_2))))) fun x3_6 =>
    ob2 ((if x3_6 = (-2000000005 : Int32) then (
    some (x1_1, M_3)) else (
    ob2 (f_X11_layVelocities_L37 x3_6 1000 x1_1 M_3) fun x4_11 M_12 =>
    chk (inb x4_11 12) <|
    lt1 (wI M_12 16 (ix x4_11) x3_6) fun M_15 =>
    lt1 (x1_1 + (1 : Int32)) fun x1_16 =>
    some (x1_16, M_15)))) fun x1_7 M_8 =>
    lt1 (x2_2 + (1 : Int32)) fun x2_17 =>
    f_X11_layVelocities_L4 n x1_7 x2_17 M_8))

def f_X11_layVelocities (M : Mm) : Option (Int32 × Mm) :=
ob2 (f_X11_layVelocities_L4 1000 (0 : Int32) (0 : Int32) M) fun x1_4 M_5 =>
some (x1_4, M_5)


def f_X11_statistic_L41 (M_2 : Mm) (r_3 : Int32) : Nat → Int64 → Int32 → Option Int64
  | 0, _, _ => none
  | n + 1, x3_4, x5_5 =>
    (if r_3 ≤ x5_5 then (
    some x3_4) else (
    chk (inb x5_5 12) <|
    lt1 ((x3_4 + (Int32.toInt64 (gI M_2 16 (ix x5_5))))) fun x3_7 =>
    lt1 (x5_5 + (1 : Int32)) fun x5_8 =>
    f_X11_statistic_L41 M_2 r_3 n x3_7 x5_8))

def f_X11_statistic (x1 : Int32) (M : Mm) : Option (Int32 × Mm) :=
ob1 (f_X11_in x1 (0 : Int32) (4 : Int32) M) fun r_1 =>
(if r_1 = (0 : Int32) then (
some ((-2000000002 : Int32), M)) else (
ob2 (f_X11_layVelocities M) fun r_3 M_2 =>
(if x1 = (0 : Int32) then (
(if x1 = (0 : Int32) then (
some (r_3, M_2)) else (
some ((-2000000005 : Int32), M_2)))) else (
(if r_3 = (0 : Int32) then (
(if x1 = (0 : Int32) then (
some (r_3, M_2)) else (
some ((-2000000005 : Int32), M_2)))) else (
ob1 (f_X11_statistic_L41 M_2 r_3 1000 (0 : Int64) (0 : Int32)) fun x3_6 =>
(if x1 = (1 : Int32) then (
some ((gI M_2 16 0), M_2)) else (
(if x1 = (2 : Int32) then (
chk (inb (r_3 - (1 : Int32)) 12) <|
some ((gI M_2 16 (ix (r_3 - (1 : Int32)))), M_2)) else (
(if x1 = (3 : Int32) then (
chk (decide (¬ (Int32.toInt64 r_3) = 0)) <|
some ((Int64.toInt32 (x3_6 / (Int32.toInt64 r_3))), M_2)) else (
(if (r_3 - r_3 / (2 : Int32) * (2 : Int32)) = (1 : Int32) then (
chk (inb (r_3 / (2 : Int32)) 12) <|
some ((gI M_2 16 (ix (r_3 / (2 : Int32)))), M_2)) else (
chk (inb ((r_3 / (2 : Int32)) - (1 : Int32)) 12) <|
chk (inb (r_3 / (2 : Int32)) 12) <|
some ((((gI M_2 16 (ix ((r_3 / (2 : Int32)) - (1 : Int32)))) + (gI M_2 16 (ix (r_3 / (2 : Int32))))) / (2 : Int32)), M_2)))))))))))))))


def f_X11_isAhead (x1 : Int32) (x2 : Int32) (M : Mm) : Option Int32 :=
ob1 (f_X11_fails x1 M) fun r_1 =>
ob1 (f_X11_fails x2 M) fun r_2 =>
(if r_1 = r_2 then (
ob1 (f_X11_of x1 (10 : Int32) M) fun r_3 =>
ob1 (f_X11_of x2 (10 : Int32) M) fun r_4 =>
(if r_3 = r_4 then (
ob1 (f_X11_of x1 (11 : Int32) M) fun r_5 =>
ob1 (f_X11_of x1 (12 : Int32) M) fun r_6 =>
lt1 ((r_5 + r_6)) fun x3_7 =>
ob1 (f_X11_of x2 (11 : Int32) M) fun r_8 =>
ob1 (f_X11_of x2 (12 : Int32) M) fun r_9 =>
lt1 ((r_8 + r_9)) fun x4_10 =>
(if x3_7 = x4_10 then (
ob1 (f_X11_of x1 (2 : Int32) M) fun r_11 =>
ob1 (f_X11_of x2 (2 : Int32) M) fun r_12 =>
(if r_11 = r_12 then (
(if x2 ≤ x1 then (
some (0 : Int32)) else (
some (1 : Int32)))) else (
ob1 (f_X11_of x1 (2 : Int32) M) fun r_13 =>
ob1 (f_X11_of x2 (2 : Int32) M) fun r_14 =>
(if r_13 ≤ r_14 then (
some (0 : Int32)) else (
some (1 : Int32)))))) else (
(if x4_10 ≤ x3_7 then (
some (0 : Int32)) else (
some (1 : Int32)))))) else (
ob1 (f_X11_of x1 (10 : Int32) M) fun r_15 =>
ob1 (f_X11_of x2 (10 : Int32) M) fun r_16 =>
(if r_16 ≤ r_15 then (
some (0 : Int32)) else (
some (1 : Int32)))))) else (
ob1 (f_X11_fails x2 M) fun r_17 =>
chk (bz r_17) <|
some r_17))


def f_X11_trust_L25 (M : Mm) (x2_1 : Int32) : Nat → Int32 → Int32 → Option Int32
  | 0, _, _ => none
  | n + 1, x3_2, x4_3 =>
    (if (gI M 1 64) ≤ x4_3 then (
    some x3_2) else (
    ob1 ((if x4_3 = x2_1 then (
    some (0 : Int32)) else (
    ob1 (f_X11_isAhead x4_3 x2_1 M) fun r_6 =>
    (if r_6 = (0 : Int32) then (
    some (0 : Int32)) else (
    some (1 : Int32)))))) fun y_5 =>
    lt1 ((x3_2 + y_5)) fun x3_7 =>
    lt1 (x4_3 + (1 : Int32)) fun x4_8 =>
    f_X11_trust_L25 M x2_1 n x3_7 x4_8))

def f_X11_trust_L9 (M : Mm) (x1 : Int32) : Nat → Int32 → Option Int32
  | 0, _ => none
  | n + 1, x2_1 =>
    (if (gI M 1 64) ≤ x2_1 then (
    some (-2000000005 : Int32)) else (
    ob1 (f_X11_trust_L25 M x2_1 1000 (0 : Int32) (0 : Int32)) fun x3_4 =>
    (if x3_4 = x1 then (
    some x2_1) else (
    lt1 (x2_1 + (1 : Int32)) fun x2_9 =>
    f_X11_trust_L9 M x1 n x2_9))))

def f_X11_trust (x1 : Int32) (M : Mm) : Option Int32 :=
(if (0 : Int32) ≤ x1 then (
f_X11_trust_L9 M x1 1000 (0 : Int32)) else (
some (-2000000002 : Int32)))


def f_X11_failing_L4 (M : Mm) : Nat → Int32 → Int32 → Option Int32
  | 0, _, _ => none
  | n + 1, x1_1, x2_2 =>
    (if (gI M 1 64) ≤ x2_2 then (
    some x1_1) else (
    ob1 (f_X11_fails x2_2 M) fun r_4 =>
    ob1 ((if r_4 = (0 : Int32) then (
    some (0 : Int32)) else (
    some (1 : Int32)))) fun y_5 =>
    lt1 ((x1_1 + y_5)) fun x1_6 =>
    lt1 (x2_2 + (1 : Int32)) fun x2_7 =>
    f_X11_failing_L4 M n x1_6 x2_7))

def f_X11_failing (M : Mm) : Option Int32 :=
ob1 (f_X11_failing_L4 M 1000 (0 : Int32) (0 : Int32)) fun x1_3 =>
some x1_3


def f_X11_total (x1 : Int32) (M : Mm) : Option Int32 :=
(if x1 = (0 : Int32) then (
some (gI M 1 64)) else (
(if x1 = (1 : Int32) then (
some (gI M 1 65)) else (
(if x1 = (2 : Int32) then (
ob1 (f_X11_shots M) fun r_1 =>
some r_1) else (
(if x1 = (3 : Int32) then (
chk (inb (((84 : Int32) + x1) - (3 : Int32)) 159) <|
some (gI M 1 (ix (((84 : Int32) + x1) - (3 : Int32))))) else (
(if x1 = (4 : Int32) then (
chk (inb (((84 : Int32) + x1) - (3 : Int32)) 159) <|
some (gI M 1 (ix (((84 : Int32) + x1) - (3 : Int32))))) else (
(if x1 = (5 : Int32) then (
chk (inb (((84 : Int32) + x1) - (3 : Int32)) 159) <|
some (gI M 1 (ix (((84 : Int32) + x1) - (3 : Int32))))) else (
(if x1 = (6 : Int32) then (
some (gI M 1 83)) else (
(if x1 = (7 : Int32) then (
ob1 (f_X11_failing M) fun r_2 =>
some r_2) else (
(if x1 = (8 : Int32) then (
some (gI M 0 4)) else (
(if x1 = (9 : Int32) then (
some (gI M 0 9)) else (
ob1 (f_X11_in x1 (10 : Int32) (14 : Int32) M) fun r_3 =>
(if r_3 = (0 : Int32) then (
some (-2000000002 : Int32)) else (
chk (inb (((78 : Int32) + x1) - (10 : Int32)) 159) <|
some (gI M 1 (ix (((78 : Int32) + x1) - (10 : Int32))))))))))))))))))))))))))


def f_X11_velocity (x1 : Int32) (x2 : Int32) (x3 : Int32) (M : Mm) : Option Int32 :=
ob1 (f_X11_whyShot x1 x2 x3 (0 : Int32) M) fun r_1 =>
(if (0 : Int32) ≤ r_1 then (
ob1 (f_X11_velocityOf x1 x2 x3 M) fun r_2 =>
some r_2) else (
some r_1))


def f_X11_ideal (x1 : Int32) (x2 : Int32) (x3 : Int32) (x4 : Int32) (M : Mm) : Option Int32 :=
ob1 (f_X11_isPath x1 M) fun r_1 =>
(if r_1 = (0 : Int32) then (
some (-2000000001 : Int32)) else (
ob1 (f_X11_in x2 (300 : Int32) (3000 : Int32) M) fun r_2 =>
(if r_2 = (0 : Int32) then (
some (-2000000002 : Int32)) else (
ob1 (f_X11_in x3 (-20000 : Int32) (20000 : Int32) M) fun r_3 =>
(if r_3 = (0 : Int32) then (
some (-2000000002 : Int32)) else (
ob1 (f_X11_of x1 (1 : Int32) M) fun r_4 =>
ob1 (f_X11_of x1 (0 : Int32) M) fun r_5 =>
chk (decide (¬ r_5 = 0)) <|
lt1 (((x3 * r_4) / r_5)) fun x5_6 =>
ob1 ((if x4 = (0 : Int32) then (
some x5_6) else (
some (-x5_6)))) fun y_7 =>
lt1 ((((Int32.toInt64 x2) * (1000 : Int64)) + (Int32.toInt64 y_7))) fun x6_8 =>
ob1 (f_X11_of x1 (0 : Int32) M) fun r_9 =>
chk (decide (¬ x6_8 = 0)) <|
ob1 (f_X11_of x1 (4 : Int32) M) fun r_10 =>
some ((Int64.toInt32 (((Int32.toInt64 r_9) * (1000000000 : Int64)) / x6_8)) + r_10)))))))


def f_X11_wouldBe (M : Mm) : Option (Int32 × Mm) :=
(if (gI M 1 64) = (0 : Int32) then (
some ((-2000000003 : Int32), M)) else (
ob2 (f_X11_worksOut (gI M 1 79) M) fun r_2 M_1 =>
(if r_2 = (0 : Int32) then (
some ((-2000000005 : Int32), M_1)) else (
ob1 (f_X11_roundVelocity M_1) fun r_3 =>
some (r_3, M_1)))))


def f_X11_wouldBecome (x1 : Int32) (M : Mm) : Option (Int32 × Mm) :=
ob1 (f_X11_isPath x1 M) fun r_1 =>
(if r_1 = (0 : Int32) then (
some ((-2000000001 : Int32), M)) else (
ob2 (f_X11_worksOut (gI M 1 79) M) fun r_3 M_2 =>
chk (inb x1 4) <|
some ((gI M_2 9 (ix x1)), M_2)))


def f_X11_skipsNeeded_L18 (M_3 : Mm) : Nat → Int32 → Int32 → Option Int32
  | 0, _, _ => none
  | n + 1, x3_5, x4_6 =>
    (if (gI M_3 1 64) ≤ x4_6 then (
    some x3_5) else (
    ob1 ((if x3_5 = (0 : Int32) then (
    chk (inb x4_6 4) <|
    (if (gI M_3 9 (ix x4_6)) = (2 : Int32) then (
    some (1 : Int32)) else (
    some (0 : Int32)))) else (
    some (1 : Int32)))) fun y_8 =>
    lt1 (x4_6 + (1 : Int32)) fun x4_9 =>
    f_X11_skipsNeeded_L18 M_3 n y_8 x4_9))

def f_X11_skipsNeeded_L2 : Nat → Int32 → Mm → Option (Int32 × Mm)
  | 0, _, _ => none
  | n + 1, x1_1, M_2 =>
    (if (5 : Int32) < x1_1 then (
    some ((-2000000005 : Int32), M_2)) else (
    ob2 (f_X11_worksOut x1_1 M_2) fun r_4 M_3 =>
    ob1 (f_X11_skipsNeeded_L18 M_3 1000 (0 : Int32) (0 : Int32)) fun x3_7 =>
    (if x3_7 = (0 : Int32) then (
    some (x1_1, M_3)) else (
    lt1 (x1_1 + (1 : Int32)) fun x1_10 =>
    f_X11_skipsNeeded_L2 n x1_10 M_3))))

def f_X11_skipsNeeded (M : Mm) : Option (Int32 × Mm) :=
f_X11_skipsNeeded_L2 1000 (0 : Int32) M

