/-! THE LAW: models of its methods, by gen_lawm.py out of the bytecode -/
def lz0 : Mm := (fun _ _ => 0, fun _ _ => 0)
def f_L_low (x0 : Int32) (x1 : Int32) (M : Mm) : Option Int32 :=
chk (decide (¬ x1 = 0)) <|
some ((x0 &&& (2147483647 : Int32)) - (x0 &&& (2147483647 : Int32)) / x1 * x1)

def f_L_paths_L454 (r_1 : Int32) (x2_2 : Int32) (x3_3 : Int32) (x4_4 : Int32) (r_7 : Int32) : Nat → Int32 → Int32 → Int32 → Mm → Option (Int32 × Mm)
  | 0, _, _, _, _ => none
  | n + 1, x6_8, x7_9, x8_10, M_11 =>
    (if r_1 ≤ x8_10 then (
    (if x2_2 = (((1 : Int32) <<< (r_1 &&& 31)) - (1 : Int32)) then (
    ob1 (f_X10_trust r_1 M_11) fun r_12 =>
    (if r_12 = (-2000000005 : Int32) then (
    ob1 (f_X10_total (7 : Int32) M_11) fun r_13 =>
    (if r_13 = x3_3 then (
    ob1 (f_X10_total (2 : Int32) M_11) fun r_14 =>
    (if r_14 = x4_4 then (
    ob1 (f_X10_path r_1 (0 : Int32) M_11) fun r_15 =>
    (if r_15 = (-2000000001 : Int32) then (
    ob1 ((if r_7 = (-2000000005 : Int32) then (
    some (1 : Int32)) else (
    ob1 (f_X10_total (11 : Int32) M_11) fun r_17 =>
    (if r_7 ≤ r_17 then (
    some (0 : Int32)) else (
    some (1 : Int32)))))) fun y_16 =>
    (if x6_8 = y_16 then (
    ob2 (f_X10_wouldBe M_11) fun r_19 M_18 =>
    ob2 ((if r_1 = (0 : Int32) then (
    some ((-2000000003 : Int32), M_18)) else (
    (if x7_9 = (0 : Int32) then (
    some ((-2000000005 : Int32), M_18)) else (
    ob2 (f_X10_wouldBe M_18) fun r_23 M_22 =>
    some (r_23, M_22)))))) fun y_20 M_21 =>
    (if r_19 = y_20 then (
    (if r_1 = (0 : Int32) then (
    some ((1 : Int32), M_21)) else (
    ob2 (f_X10_wouldBe M_21) fun r_25 M_24 =>
    ob1 ((if r_25 = (-2000000005 : Int32) then (
    some (0 : Int32)) else (
    some (1 : Int32)))) fun y_26 =>
    (if x7_9 = y_26 then (
    some ((1 : Int32), M_24)) else (
    some ((0 : Int32), M_24)))))) else (
    some ((0 : Int32), M_21)))) else (
    some ((0 : Int32), M_11)))) else (
    some ((0 : Int32), M_11)))) else (
    some ((0 : Int32), M_11)))) else (
    some ((0 : Int32), M_11)))) else (
    some ((0 : Int32), M_11)))) else (
    some ((0 : Int32), M_11)))) else (
    ob2 (f_X10_wouldBecome x8_10 M_11) fun r_28 M_27 =>
    ob1 ((if x6_8 = (0 : Int32) then (
    (if r_28 = (2 : Int32) then (
    some (1 : Int32)) else (
    some (0 : Int32)))) else (
    some (1 : Int32)))) fun y_29 =>
    ob1 ((if x7_9 = (0 : Int32) then (
    (if r_28 ≤ (2 : Int32) then (
    some (0 : Int32)) else (
    some (1 : Int32)))) else (
    some (1 : Int32)))) fun y_30 =>
    ob1 ((if r_28 = (0 : Int32) then (
    some (1 : Int32)) else (
    some (0 : Int32)))) fun y_31 =>
    ob1 (f_X10_told x8_10 (0 : Int32) M_27) fun r_32 =>
    ob1 ((if r_32 = (-2000000005 : Int32) then (
    some (1 : Int32)) else (
    some (0 : Int32)))) fun y_33 =>
    (if y_31 = y_33 then (
    ob1 ((if r_28 = (1 : Int32) then (
    some (1 : Int32)) else (
    some (0 : Int32)))) fun y_34 =>
    ob1 (f_X10_told x8_10 (2 : Int32) M_27) fun r_35 =>
    ob1 ((if r_35 = (-2000000005 : Int32) then (
    some (0 : Int32)) else (
    ob1 (f_X10_told x8_10 (2 : Int32) M_27) fun r_37 =>
    ob1 (f_X10_total (10 : Int32) M_27) fun r_38 =>
    (if r_38 ≤ r_37 then (
    some (0 : Int32)) else (
    some (1 : Int32)))))) fun y_36 =>
    (if y_34 = y_36 then (
    lt1 (x8_10 + (1 : Int32)) fun x8_39 =>
    f_L_paths_L454 r_1 x2_2 x3_3 x4_4 r_7 n y_29 y_30 x8_39 M_27) else (
    some ((0 : Int32), M_27)))) else (
    some ((0 : Int32), M_27)))))

def f_L_paths_J433 (x5_5 : Int32) (x2_45 : Int32) (x3_47 : Int32) (x4_50 : Int32) (K : Int32 → Int32 → Int32 → Int32 → Option (Int32 × Mm)) : Option (Int32 × Mm) :=
lt1 (x5_5 + (1 : Int32)) fun x5_58 =>
K x2_45 x3_47 x4_50 x5_58

def f_L_paths_J376 (M : Mm) (x5_5 : Int32) (r_40 : Int32) (x2_45 : Int32) (x3_47 : Int32) (x4_50 : Int32) (K : Int32 → Int32 → Int32 → Int32 → Option (Int32 × Mm)) : Option (Int32 × Mm) :=
(if x5_5 ≤ (0 : Int32) then (
f_L_paths_J433 x5_5 x2_45 x3_47 x4_50 K) else (
ob1 (f_X10_path r_40 (13 : Int32) M) fun r_59 =>
ob1 (f_X10_trust (x5_5 - (1 : Int32)) M) fun r_60 =>
ob1 (f_X10_path r_60 (13 : Int32) M) fun r_61 =>
(if r_59 = r_61 then (
ob1 (f_X10_path r_40 (10 : Int32) M) fun r_62 =>
ob1 (f_X10_trust (x5_5 - (1 : Int32)) M) fun r_63 =>
ob1 (f_X10_path r_63 (10 : Int32) M) fun r_64 =>
(if r_64 ≤ r_62 then (
f_L_paths_J433 x5_5 x2_45 x3_47 x4_50 K) else (
some ((0 : Int32), M)))) else (
f_L_paths_J433 x5_5 x2_45 x3_47 x4_50 K))))

def f_L_paths_J333 (M : Mm) (x5_5 : Int32) (r_40 : Int32) (x2_45 : Int32) (x3_47 : Int32) (x4_50 : Int32) (K : Int32 → Int32 → Int32 → Int32 → Option (Int32 × Mm)) : Option (Int32 × Mm) :=
ob1 (f_X10_path x5_5 (7 : Int32) M) fun r_57 =>
(if r_57 = (-2000000005 : Int32) then (
f_L_paths_J376 M x5_5 r_40 x2_45 x3_47 x4_50 K) else (
ob1 (f_X10_path x5_5 (7 : Int32) M) fun r_65 =>
(if r_65 < (-5000 : Int32) then (
some ((0 : Int32), M)) else (
ob1 (f_X10_path x5_5 (7 : Int32) M) fun r_66 =>
(if r_66 ≤ (5000 : Int32) then (
f_L_paths_J376 M x5_5 r_40 x2_45 x3_47 x4_50 K) else (
some ((0 : Int32), M)))))))

def f_L_paths_J303 (M : Mm) (x5_5 : Int32) (r_40 : Int32) (x2_45 : Int32) (x3_47 : Int32) (x4_50 : Int32) (K : Int32 → Int32 → Int32 → Int32 → Option (Int32 × Mm)) : Option (Int32 × Mm) :=
(if x5_5 ≤ (0 : Int32) then (
f_L_paths_J333 M x5_5 r_40 x2_45 x3_47 x4_50 K) else (
ob1 (f_X10_path r_40 (13 : Int32) M) fun r_67 =>
ob1 (f_X10_trust (x5_5 - (1 : Int32)) M) fun r_68 =>
ob1 (f_X10_path r_68 (13 : Int32) M) fun r_69 =>
(if r_67 < r_69 then (
some ((0 : Int32), M)) else (
f_L_paths_J333 M x5_5 r_40 x2_45 x3_47 x4_50 K))))

def f_L_paths_J271 (M : Mm) (x5_5 : Int32) (r_40 : Int32) (r_44 : Int32) (x2_45 : Int32) (x3_47 : Int32) (x4_50 : Int32) (K : Int32 → Int32 → Int32 → Int32 → Option (Int32 × Mm)) : Option (Int32 × Mm) :=
(if r_44 ≤ (2 : Int32) then (
f_L_paths_J303 M x5_5 r_40 x2_45 x3_47 x4_50 K) else (
ob1 (f_X10_path x5_5 (9 : Int32) M) fun r_70 =>
(if r_70 < (-100000 : Int32) then (
some ((0 : Int32), M)) else (
ob1 (f_X10_path x5_5 (9 : Int32) M) fun r_71 =>
(if (100000 : Int32) < r_71 then (
some ((0 : Int32), M)) else (
f_L_paths_J303 M x5_5 r_40 x2_45 x3_47 x4_50 K))))))

def f_L_paths_J249 (M : Mm) (x5_5 : Int32) (r_40 : Int32) (r_44 : Int32) (x2_45 : Int32) (x3_47 : Int32) (x4_50 : Int32) (K : Int32 → Int32 → Int32 → Int32 → Option (Int32 × Mm)) : Option (Int32 × Mm) :=
(if r_44 < (0 : Int32) then (
f_L_paths_J271 M x5_5 r_40 r_44 x2_45 x3_47 x4_50 K) else (
(if (3 : Int32) ≤ r_44 then (
f_L_paths_J271 M x5_5 r_40 r_44 x2_45 x3_47 x4_50 K) else (
ob1 (f_X10_path x5_5 (10 : Int32) M) fun r_72 =>
(if r_72 = (0 : Int32) then (
some ((0 : Int32), M)) else (
f_L_paths_J271 M x5_5 r_40 r_44 x2_45 x3_47 x4_50 K))))))

def f_L_paths_J195 (M : Mm) (x5_5 : Int32) (r_40 : Int32) (r_44 : Int32) (x2_45 : Int32) (x3_47 : Int32) (x4_50 : Int32) (K : Int32 → Int32 → Int32 → Int32 → Option (Int32 × Mm)) : Option (Int32 × Mm) :=
ob1 (f_X10_path x5_5 (13 : Int32) M) fun r_53 =>
ob1 ((if r_53 = (1 : Int32) then (
some (1 : Int32)) else (
some (0 : Int32)))) fun y_54 =>
ob1 (f_X10_path x5_5 (10 : Int32) M) fun r_55 =>
ob1 ((if r_55 ≤ (2 : Int32) then (
some (0 : Int32)) else (
some (1 : Int32)))) fun y_56 =>
(if y_54 = y_56 then (
(if r_44 ≤ (2 : Int32) then (
f_L_paths_J249 M x5_5 r_40 r_44 x2_45 x3_47 x4_50 K) else (
ob1 (f_X10_path x5_5 (10 : Int32) M) fun r_73 =>
(if r_73 = (0 : Int32) then (
f_L_paths_J249 M x5_5 r_40 r_44 x2_45 x3_47 x4_50 K) else (
some ((0 : Int32), M)))))) else (
some ((0 : Int32), M)))

def f_L_paths_J175 (M : Mm) (x5_5 : Int32) (r_40 : Int32) (r_41 : Int32) (r_44 : Int32) (x2_45 : Int32) (x3_47 : Int32) (x4_50 : Int32) (K : Int32 → Int32 → Int32 → Int32 → Option (Int32 × Mm)) : Option (Int32 × Mm) :=
(if r_41 = (-2000000005 : Int32) then (
ob1 (f_X10_sound x5_5 M) fun r_74 =>
(if r_74 = (-2000000005 : Int64) then (
f_L_paths_J195 M x5_5 r_40 r_44 x2_45 x3_47 x4_50 K) else (
some ((0 : Int32), M)))) else (
f_L_paths_J195 M x5_5 r_40 r_44 x2_45 x3_47 x4_50 K))

def f_L_paths_L16 (M : Mm) (r_1 : Int32) : Nat → Int32 → Int32 → Int32 → Int32 → Option (Int32 × Mm)
  | 0, _, _, _, _ => none
  | n + 1, x2_2, x3_3, x4_4, x5_5 =>
    (if r_1 ≤ x5_5 then (
    ob2 (f_X10_skipsNeeded M) fun r_7 M_6 =>
    f_L_paths_L454 r_1 x2_2 x3_3 x4_4 r_7 1000 (0 : Int32) (0 : Int32) (0 : Int32) M_6) else (
    ob1 (f_X10_trust x5_5 M) fun r_40 =>
    ob1 (f_X10_path x5_5 (5 : Int32) M) fun r_41 =>
    ob1 (f_X10_path x5_5 (6 : Int32) M) fun r_42 =>
    ob1 (f_X10_path x5_5 (4 : Int32) M) fun r_43 =>
    ob1 (f_X10_path x5_5 (8 : Int32) M) fun r_44 =>
    lt1 ((x2_2 ||| ((1 : Int32) <<< (r_40 &&& 31)))) fun x2_45 =>
    ob1 (f_X10_path x5_5 (13 : Int32) M) fun r_46 =>
    lt1 ((x3_3 + r_46)) fun x3_47 =>
    ob1 (f_X10_told x5_5 (0 : Int32) M) fun r_48 =>
    ob1 ((if r_48 = (-2000000005 : Int32) then (
    some (0 : Int32)) else (
    some (1 : Int32)))) fun y_49 =>
    lt1 ((x4_4 + y_49)) fun x4_50 =>
    ob1 ((if r_41 = (-2000000005 : Int32) then (
    some (1 : Int32)) else (
    some (0 : Int32)))) fun y_51 =>
    ob1 ((if r_42 = (-2000000005 : Int32) then (
    some (1 : Int32)) else (
    some (0 : Int32)))) fun y_52 =>
    (if y_51 = y_52 then (
    (if r_41 = (-2000000005 : Int32) then (
    f_L_paths_J175 M x5_5 r_40 r_41 r_44 x2_45 x3_47 x4_50 (f_L_paths_L16 M r_1 n)) else (
    (if r_41 < (r_43 + (1000 : Int32)) then (
    some ((0 : Int32), M)) else (
    (if r_42 < (r_43 + (1000 : Int32)) then (
    some ((0 : Int32), M)) else (
    ob1 (f_X10_sound x5_5 M) fun r_75 =>
    (if r_75 ≤ (0 : Int64) then (
    some ((0 : Int32), M)) else (
    f_L_paths_J175 M x5_5 r_40 r_41 r_44 x2_45 x3_47 x4_50 (f_L_paths_L16 M r_1 n)))))))))) else (
    some ((0 : Int32), M)))))

def f_L_paths (M : Mm) : Option (Int32 × Mm) :=
ob1 (f_X10_total (0 : Int32) M) fun r_1 =>
f_L_paths_L16 M r_1 1000 (0 : Int32) (0 : Int32) (0 : Int32) (0 : Int32)

def f_L_figures_J394 (x3_4 : Int32) (x6_18 : Int32) (r_20 : Int32) : Option Int32 :=
(if x6_18 = (2 : Int32) then (
(if r_20 = x3_4 then (
some (1 : Int32)) else (
some (0 : Int32)))) else (
some (1 : Int32)))

def f_L_figures_L337 (M : Mm) (x1_2 : Int32) (x2_3 : Int32) (x3_4 : Int32) : Nat → Int32 → Int32 → Option Int32
  | 0, _, _ => none
  | n + 1, x5_17, x6_18 =>
    (if (5 : Int32) ≤ x6_18 then (
    some x5_17) else (
    ob1 (f_X10_statistic x6_18 M) fun r_20 =>
    ob1 ((if x5_17 = (0 : Int32) then (
    some (0 : Int32)) else (
    (if x1_2 = (0 : Int32) then (
    (if r_20 = (-2000000005 : Int32) then (
    some (1 : Int32)) else (
    some (0 : Int32)))) else (
    (if r_20 < x2_3 then (
    some (0 : Int32)) else (
    (if x3_4 < r_20 then (
    some (0 : Int32)) else (
    (if x6_18 = (1 : Int32) then (
    (if r_20 = x2_3 then (
    f_L_figures_J394 x3_4 x6_18 r_20) else (
    some (0 : Int32)))) else (
    f_L_figures_J394 x3_4 x6_18 r_20))))))))))) fun y_21 =>
    lt1 (x6_18 + (1 : Int32)) fun x6_22 =>
    f_L_figures_L337 M x1_2 x2_3 x3_4 n y_21 x6_22))

def f_L_figures_L422 (M : Mm) : Nat → Int32 → Int32 → Option Int32
  | 0, _, _ => none
  | n + 1, x5_23, x6_24 =>
    (if (9000 : Int32) ≤ x6_24 then (
    some x5_23) else (
    ob1 ((if x5_23 = (0 : Int32) then (
    some (0 : Int32)) else (
    ob1 (f_X10_factor x6_24 M) fun r_27 =>
    (if r_27 < (500 : Int32) then (
    some (0 : Int32)) else (
    ob1 (f_X10_factor x6_24 M) fun r_28 =>
    (if (1500 : Int32) < r_28 then (
    some (0 : Int32)) else (
    ob1 (f_X10_factor (-x6_24) M) fun r_29 =>
    ob1 (f_X10_factor x6_24 M) fun r_30 =>
    (if r_29 = r_30 then (
    some (1 : Int32)) else (
    some (0 : Int32)))))))))) fun y_26 =>
    lt1 (x6_24 + (1700 : Int32)) fun x6_31 =>
    f_L_figures_L422 M n y_26 x6_31))

def f_L_figures_J189 (x2_3 : Int32) : Option Int32 :=
some x2_3

def f_L_figures_J184 (r_32 : Int32) : Option Int32 :=
some r_32

def f_L_figures_J213 (x3_4 : Int32) : Option Int32 :=
some x3_4

def f_L_figures_J208 (r_32 : Int32) : Option Int32 :=
some r_32

def f_L_figures_J143 (M : Mm) (x1_2 : Int32) (x2_3 : Int32) (x3_4 : Int32) (x5_5 : Int32) (r_32 : Int32) (K : Int32 → Int32 → Int32 → Int32 → Option Int32) : Option Int32 :=
ob1 (f_X10_round x5_5 (5 : Int32) M) fun r_41 =>
(if r_41 < (0 : Int32) then (
some (0 : Int32)) else (
ob1 (f_X10_round x5_5 (5 : Int32) M) fun r_42 =>
(if r_42 ≤ (8 : Int32) then (
ob1 ((if r_32 = (-2000000005 : Int32) then (
f_L_figures_J189 x2_3) else (
(if x1_2 = (0 : Int32) then (
f_L_figures_J184 r_32) else (
(if x2_3 ≤ r_32 then (
f_L_figures_J189 x2_3) else (
f_L_figures_J184 r_32))))))) fun y_43 =>
ob1 ((if r_32 = (-2000000005 : Int32) then (
f_L_figures_J213 x3_4) else (
(if x1_2 = (0 : Int32) then (
f_L_figures_J208 r_32) else (
(if r_32 ≤ x3_4 then (
f_L_figures_J213 x3_4) else (
f_L_figures_J208 r_32))))))) fun y_44 =>
ob1 ((if r_32 = (-2000000005 : Int32) then (
some (0 : Int32)) else (
some (1 : Int32)))) fun y_45 =>
lt1 ((x1_2 + y_45)) fun x1_46 =>
lt1 (x5_5 + (1 : Int32)) fun x5_47 =>
K x1_46 y_43 y_44 x5_47) else (
some (0 : Int32)))))

def f_L_figures_L16 (M : Mm) (r_1 : Int32) : Nat → Int32 → Int32 → Int32 → Int32 → Option Int32
  | 0, _, _, _, _ => none
  | n + 1, x1_2, x2_3, x3_4, x5_5 =>
    (if r_1 ≤ x5_5 then (
    ob1 (f_X10_statistic (0 : Int32) M) fun r_6 =>
    ob1 ((if r_6 = x1_2 then (
    ob1 (f_X10_round r_1 (0 : Int32) M) fun r_8 =>
    (if r_8 = (-2000000001 : Int32) then (
    ob1 (f_X10_volume (0 : Int32) M) fun r_9 =>
    (if r_9 < (0 : Int64) then (
    some (0 : Int32)) else (
    ob1 (f_X10_volume (1 : Int32) M) fun r_10 =>
    (if r_10 < (0 : Int64) then (
    some (0 : Int32)) else (
    ob1 (f_X10_volume (2 : Int32) M) fun r_11 =>
    ob1 (f_X10_volume (0 : Int32) M) fun r_12 =>
    ob1 (f_X10_volume (1 : Int32) M) fun r_13 =>
    (if r_11 = (r_12 - r_13) then (
    (if (12 : Int32) < r_1 then (
    some (0 : Int32)) else (
    ob1 (f_X10_total (3 : Int32) M) fun r_14 =>
    (if r_14 < r_1 then (
    some (0 : Int32)) else (
    ob1 (f_X10_total (4 : Int32) M) fun r_15 =>
    ob1 (f_X10_total (3 : Int32) M) fun r_16 =>
    (if r_16 < r_15 then (
    some (0 : Int32)) else (
    some (1 : Int32)))))))) else (
    some (0 : Int32)))))))) else (
    some (0 : Int32)))) else (
    some (0 : Int32)))) fun y_7 =>
    ob1 (f_L_figures_L337 M x1_2 x2_3 x3_4 1000 y_7 (1 : Int32)) fun x5_19 =>
    ob1 (f_L_figures_L422 M 1000 x5_19 (0 : Int32)) fun x5_25 =>
    chk (bz x5_25) <|
    some x5_25) else (
    ob1 (f_X10_round x5_5 (0 : Int32) M) fun r_32 =>
    ob1 (f_X10_round x5_5 (2 : Int32) M) fun r_33 =>
    ob1 ((if r_32 = (-2000000005 : Int32) then (
    some (1 : Int32)) else (
    some (0 : Int32)))) fun y_34 =>
    ob1 ((if r_33 = (0 : Int32) then (
    some (1 : Int32)) else (
    some (0 : Int32)))) fun y_35 =>
    (if y_34 = y_35 then (
    ob1 ((if r_32 = (-2000000005 : Int32) then (
    some (1 : Int32)) else (
    some (0 : Int32)))) fun y_36 =>
    ob1 (f_X10_round x5_5 (1 : Int32) M) fun r_37 =>
    ob1 ((if r_37 = (-2000000005 : Int32) then (
    some (1 : Int32)) else (
    some (0 : Int32)))) fun y_38 =>
    (if y_36 = y_38 then (
    ob1 (f_X10_round x5_5 (3 : Int32) M) fun r_39 =>
    (if (r_39 &&& (r_33 ^^^ (-1 : Int32))) = (0 : Int32) then (
    ob1 (f_X10_round x5_5 (4 : Int32) M) fun r_40 =>
    (if (r_40 &&& r_33) = (0 : Int32) then (
    (if r_32 = (-2000000005 : Int32) then (
    ob1 (f_X10_round x5_5 (4 : Int32) M) fun r_48 =>
    (if r_48 = (0 : Int32) then (
    f_L_figures_J143 M x1_2 x2_3 x3_4 x5_5 r_32 (f_L_figures_L16 M r_1 n)) else (
    some (0 : Int32)))) else (
    f_L_figures_J143 M x1_2 x2_3 x3_4 x5_5 r_32 (f_L_figures_L16 M r_1 n)))) else (
    some (0 : Int32)))) else (
    some (0 : Int32)))) else (
    some (0 : Int32)))) else (
    some (0 : Int32)))))

def f_L_figures (M : Mm) : Option Int32 :=
ob1 (f_X10_total (5 : Int32) M) fun r_1 =>
f_L_figures_L16 M r_1 1000 (0 : Int32) (0 : Int32) (0 : Int32) (0 : Int32)

def f_L_closes_L45 (r_1 : Int32) : Nat → Int32 → Mm → Mm → Option (Mm × Mm)
  | 0, _, _, _ => none
  | n + 1, x10_7, M_8, N_9 =>
    (if r_1 ≤ x10_7 then (
    some (M_8, N_9)) else (
    ob2 (f_X10_wouldBecome x10_7 M_8) fun r_13 M_12 =>
    chk (inb x10_7 4) <|
    lt1 (wI N_9 0 (ix x10_7) r_13) fun N_14 =>
    ob1 (f_X10_path x10_7 (5 : Int32) M_12) fun r_15 =>
    chk (inb ((2 : Int32) * x10_7) 8) <|
    lt1 (wI N_14 1 (ix ((2 : Int32) * x10_7)) r_15) fun N_16 =>
    ob1 (f_X10_path x10_7 (7 : Int32) M_12) fun r_17 =>
    chk (inb (((2 : Int32) * x10_7) + (1 : Int32)) 8) <|
    lt1 (wI N_16 1 (ix (((2 : Int32) * x10_7) + (1 : Int32))) r_17) fun N_18 =>
    lt1 (x10_7 + (1 : Int32)) fun x10_19 =>
    f_L_closes_L45 r_1 n x10_19 M_12 N_18))

def f_L_closes_J369 (y_37 : Int32) (y_39 : Int32) (r_40 : Int32) : Option Int32 :=
ob1 ((if r_40 = (-2000000005 : Int32) then (
some (0 : Int32)) else (
some (1 : Int32)))) fun y_46 =>
ob1 ((if y_37 = (0 : Int32) then (
(if y_39 = (0 : Int32) then (
some (0 : Int32)) else (
some (1 : Int32)))) else (
some (1 : Int32)))) fun y_47 =>
(if y_46 = y_47 then (
some (1 : Int32)) else (
some (0 : Int32)))

def f_L_closes_J350 (N_11 : Mm) (x15_31 : Int32) (y_37 : Int32) (y_39 : Int32) (r_40 : Int32) : Option Int32 :=
(if y_39 = (0 : Int32) then (
f_L_closes_J369 y_37 y_39 r_40) else (
chk (inb (((2 : Int32) * x15_31) + (1 : Int32)) 8) <|
(if (gI N_11 1 (ix (((2 : Int32) * x15_31) + (1 : Int32)))) = (-2000000005 : Int32) then (
some (0 : Int32)) else (
f_L_closes_J369 y_37 y_39 r_40))))

def f_L_closes_J430 (x11_27 : Int32) : Option Int32 :=
some x11_27

def f_L_closes_J425 (r_40 : Int32) : Option Int32 :=
some r_40

def f_L_closes_J458 (x12_28 : Int32) : Option Int32 :=
some x12_28

def f_L_closes_J453 (r_40 : Int32) : Option Int32 :=
some r_40

def f_L_closes_L183 (r_1 : Int32) (N_11 : Mm) (M_20 : Mm) : Nat → Int32 → Int32 → Int32 → Int32 → Int32 → Option (Int32 × Int32 × Int32 × Int32)
  | 0, _, _, _, _, _ => none
  | n + 1, x11_27, x12_28, x13_29, x14_30, x15_31 =>
    (if r_1 ≤ x15_31 then (
    some (x11_27, x12_28, x13_29, x14_30)) else (
    (if x14_30 = (0 : Int32) then (
    some (x11_27, x12_28, x13_29, x14_30)) else (
    ob1 (f_X10_round (0 : Int32) (2 : Int32) M_20) fun r_36 =>
    ob1 ((if ((r_36 >>> (x15_31 &&& 31)) &&& (1 : Int32)) = (1 : Int32) then (
    some (1 : Int32)) else (
    some (0 : Int32)))) fun y_37 =>
    ob1 (f_X10_round (0 : Int32) (4 : Int32) M_20) fun r_38 =>
    ob1 ((if ((r_38 >>> (x15_31 &&& 31)) &&& (1 : Int32)) = (1 : Int32) then (
    some (1 : Int32)) else (
    some (0 : Int32)))) fun y_39 =>
    ob1 (f_X10_path x15_31 (9 : Int32) M_20) fun r_40 =>
    ob1 (f_X10_path x15_31 (8 : Int32) M_20) fun r_41 =>
    chk (inb x15_31 4) <|
    ob1 ((if r_41 = (gI N_11 0 (ix x15_31)) then (
    chk (inb x15_31 4) <|
    ob1 ((if (gI N_11 0 (ix x15_31)) ≤ (2 : Int32) then (
    some (0 : Int32)) else (
    some (1 : Int32)))) fun y_43 =>
    (if y_37 = y_43 then (
    ob1 (f_X10_round (0 : Int32) (3 : Int32) M_20) fun r_44 =>
    chk (inb x15_31 4) <|
    ob1 ((if (gI N_11 0 (ix x15_31)) = (3 : Int32) then (
    some (1 : Int32)) else (
    some (0 : Int32)))) fun y_45 =>
    (if ((r_44 >>> (x15_31 &&& 31)) &&& (1 : Int32)) = y_45 then (
    (if y_37 = (0 : Int32) then (
    ob1 (f_X10_path x15_31 (5 : Int32) M_20) fun r_48 =>
    chk (inb ((2 : Int32) * x15_31) 8) <|
    (if r_48 = (gI N_11 1 (ix ((2 : Int32) * x15_31))) then (
    ob1 (f_X10_path x15_31 (7 : Int32) M_20) fun r_49 =>
    chk (inb (((2 : Int32) * x15_31) + (1 : Int32)) 8) <|
    (if r_49 = (gI N_11 1 (ix (((2 : Int32) * x15_31) + (1 : Int32)))) then (
    f_L_closes_J350 N_11 x15_31 y_37 y_39 r_40) else (
    some (0 : Int32)))) else (
    some (0 : Int32)))) else (
    f_L_closes_J350 N_11 x15_31 y_37 y_39 r_40))) else (
    some (0 : Int32)))) else (
    some (0 : Int32)))) else (
    some (0 : Int32)))) fun y_42 =>
    ob1 ((if r_40 = (-2000000005 : Int32) then (
    f_L_closes_J430 x11_27) else (
    (if x13_29 = (0 : Int32) then (
    f_L_closes_J425 r_40) else (
    (if x11_27 ≤ r_40 then (
    f_L_closes_J430 x11_27) else (
    f_L_closes_J425 r_40))))))) fun y_50 =>
    ob1 ((if r_40 = (-2000000005 : Int32) then (
    f_L_closes_J458 x12_28) else (
    (if x13_29 = (0 : Int32) then (
    f_L_closes_J453 r_40) else (
    (if r_40 ≤ x12_28 then (
    f_L_closes_J458 x12_28) else (
    f_L_closes_J453 r_40))))))) fun y_51 =>
    ob1 ((if r_40 = (-2000000005 : Int32) then (
    some (0 : Int32)) else (
    some (1 : Int32)))) fun y_52 =>
    lt1 ((x13_29 + y_52)) fun x13_53 =>
    lt1 (x15_31 + (1 : Int32)) fun x15_54 =>
    f_L_closes_L183 r_1 N_11 M_20 n y_50 y_51 x13_53 y_42 x15_54))))

def f_L_closes_J574 (r_5 : Int64) (r_6 : Int64) (M_20 : Mm) (y_55 : Int64) : Option (Int32 × Mm) :=
ob1 (f_X10_volume (0 : Int32) M_20) fun r_58 =>
ob1 ((if y_55 ≤ (0 : Int64) then (
some (0 : Int64)) else (
some y_55))) fun y_59 =>
(if r_58 = (r_5 + y_59) then (
ob1 (f_X10_volume (1 : Int32) M_20) fun r_60 =>
ob1 ((if (0 : Int64) ≤ y_55 then (
some (0 : Int64)) else (
some y_55))) fun y_61 =>
(if r_60 = (r_6 - y_61) then (
some ((1 : Int32), M_20)) else (
some ((0 : Int32), M_20)))) else (
some ((0 : Int32), M_20)))

def f_L_closes (M : Mm) : Option (Int32 × Mm) :=
ob1 (f_X10_total (0 : Int32) M) fun r_1 =>
ob2 (f_X10_wouldBe M) fun r_3 M_2 =>
ob1 (f_X10_total (3 : Int32) M_2) fun r_4 =>
ob1 (f_X10_volume (0 : Int32) M_2) fun r_5 =>
ob1 (f_X10_volume (1 : Int32) M_2) fun r_6 =>
ob2 (f_L_closes_L45 r_1 1000 (0 : Int32) M_2 lz0) fun M_10 N_11 =>
ob2 (f_X10_close M_10) fun r_21 M_20 =>
(if r_21 = (-2000000003 : Int32) then (
(if r_1 = (0 : Int32) then (
(if r_3 = (-2000000003 : Int32) then (
some ((1 : Int32), M_20)) else (
some ((0 : Int32), M_20)))) else (
some ((0 : Int32), M_20)))) else (
ob1 ((if r_21 = r_3 then (
ob1 (f_X10_total (3 : Int32) M_20) fun r_24 =>
(if r_24 = (r_4 + (1 : Int32)) then (
ob1 (f_X10_total (2 : Int32) M_20) fun r_25 =>
(if r_25 = (0 : Int32) then (
ob1 (f_X10_round (0 : Int32) (0 : Int32) M_20) fun r_26 =>
(if r_26 = r_21 then (
some (1 : Int32)) else (
some (0 : Int32)))) else (
some (0 : Int32)))) else (
some (0 : Int32)))) else (
some (0 : Int32)))) fun y_23 =>
ob4 (f_L_closes_L183 r_1 N_11 M_20 1000 (0 : Int32) (0 : Int32) (0 : Int32) y_23 (0 : Int32)) fun x11_32 x12_33 x13_34 x14_35 =>
ob1 ((if r_21 = (-2000000005 : Int32) then (
some (0 : Int64)) else (
ob1 (f_X10_total (13 : Int32) M_20) fun r_56 =>
ob1 (f_X10_total (14 : Int32) M_20) fun r_57 =>
some ((((Int32.toInt64 r_21) * (Int32.toInt64 r_56)) * (Int32.toInt64 r_57)) / (1000 : Int64))))) fun y_55 =>
(if x14_35 = (0 : Int32) then (
some ((0 : Int32), M_20)) else (
(if x13_34 = (0 : Int32) then (
(if r_21 = (-2000000005 : Int32) then (
ob1 (f_X10_round (0 : Int32) (1 : Int32) M_20) fun r_64 =>
(if r_64 = (-2000000005 : Int32) then (
f_L_closes_J574 r_5 r_6 M_20 y_55) else (
some ((0 : Int32), M_20)))) else (
some ((0 : Int32), M_20)))) else (
ob1 (f_X10_round (0 : Int32) (1 : Int32) M_20) fun r_62 =>
(if r_62 < x11_32 then (
some ((0 : Int32), M_20)) else (
ob1 (f_X10_round (0 : Int32) (1 : Int32) M_20) fun r_63 =>
(if x12_33 < r_63 then (
some ((0 : Int32), M_20)) else (
f_L_closes_J574 r_5 r_6 M_20 y_55))))))))))

def f_L_shoots (x1 : Int32) (x2 : Int32) (x3 : Int32) (M : Mm) : Option (Int32 × Mm) :=
ob1 (f_L_low x3 (7001 : Int32) M) fun r_1 =>
lt1 ((r_1 - (3500 : Int32))) fun x4_2 =>
ob1 (f_L_low x2 (40 : Int32) M) fun r_3 =>
lt1 (((1450 : Int32) + r_3)) fun x5_4 =>
ob1 (f_X10_ideal x1 x5_4 x4_2 (0 : Int32) M) fun r_5 =>
ob1 (f_X10_ideal x1 x5_4 x4_2 (1 : Int32) M) fun r_6 =>
ob1 (f_X10_path x1 (3 : Int32) M) fun r_7 =>
ob1 (f_L_low (x2 >>> ((6 : Int32) &&& 31)) (3 : Int32) M) fun r_8 =>
ob1 ((if r_8 = (0 : Int32) then (
ob1 (f_L_low (x2 >>> ((8 : Int32) &&& 31)) (5 : Int32) M) fun r_10 =>
some ((r_10 - (2 : Int32)) * r_7)) else (
some (0 : Int32)))) fun y_9 =>
ob1 (f_X10_path x1 (4 : Int32) M) fun r_11 =>
ob1 ((if (r_11 + (1000 : Int32)) ≤ (r_5 + y_9) then (
some (r_5 + y_9)) else (
some r_5))) fun y_12 =>
ob1 (f_L_low (x2 >>> ((3 : Int32) &&& 31)) (101 : Int32) M) fun r_13 =>
ob1 (f_X10_velocity x1 y_12 r_6 M) fun r_14 =>
ob2 (f_X10_shot x1 y_12 r_6 r_13 M) fun r_16 M_15 =>
ob1 (f_X10_total (6 : Int32) M_15) fun r_18 =>
ob1 ((if r_18 = (1 : Int32) then (
some (1 : Int32)) else (
some (0 : Int32)))) fun y_19 =>
ob1 (f_X10_ideal x1 x5_4 (-x4_2) (1 : Int32) M_15) fun r_20 =>
(if r_5 = r_20 then (
ob1 (f_X10_velocity x1 r_6 y_12 M_15) fun r_21 =>
(if r_14 = (-r_21) then (
ob1 (f_X10_total (2 : Int32) M_15) fun r_22 =>
(if r_16 = r_22 then (
ob1 (f_X10_told x1 (0 : Int32) M_15) fun r_23 =>
ob1 ((if y_19 = (0 : Int32) then (
some y_12) else (
some r_6))) fun y_24 =>
(if r_23 = y_24 then (
ob1 (f_X10_told x1 (1 : Int32) M_15) fun r_25 =>
ob1 ((if y_19 = (0 : Int32) then (
some r_6) else (
some y_12))) fun y_26 =>
(if r_25 = y_26 then (
ob1 (f_X10_told x1 (2 : Int32) M_15) fun r_27 =>
(if r_27 = r_13 then (
some ((1 : Int32), M_15)) else (
some ((0 : Int32), M_15)))) else (
some ((0 : Int32), M_15)))) else (
some ((0 : Int32), M_15)))) else (
some ((0 : Int32), M_15)))) else (
some ((0 : Int32), M_15)))) else (
some ((0 : Int32), M_15)))

def f_L_acts_J565 (x2 : Int32) (x6_78 : Int32) (x7_80 : Int32) (M_82 : Mm) : Option (Int32 × Mm) :=
ob1 (f_X10_factor x6_78 M_82) fun r_85 =>
(if r_85 = x7_80 then (
ob1 (f_X10_factor (-x6_78) M_82) fun r_86 =>
(if r_86 = x7_80 then (
ob1 (f_L_low (x2 >>> ((9 : Int32) &&& 31)) (3 : Int32) M_82) fun r_87 =>
(if (0 : Int32) < r_87 then (
some ((1 : Int32), M_82)) else (
ob2 (f_X10_removePoint x6_78 M_82) fun r_89 M_88 =>
(if r_89 = x7_80 then (
ob2 (f_X10_removePoint x6_78 M_88) fun r_92 M_91 =>
(if r_92 = (-2000000003 : Int32) then (
some ((1 : Int32), M_91)) else (
some ((0 : Int32), M_91)))) else (
some ((0 : Int32), M_88)))))) else (
some ((0 : Int32), M_82)))) else (
some ((0 : Int32), M_82)))

def f_L_acts_J253 (r_112 : Int32) (M_117 : Mm) : Option (Int32 × Mm) :=
ob2 (f_X10_wouldBe M_117) fun r_125 M_124 =>
ob1 ((if r_112 = (-2000000005 : Int32) then (
some (-2000000005 : Int32)) else (
some (-r_112)))) fun y_126 =>
(if r_125 = y_126 then (
some ((1 : Int32), M_124)) else (
some ((0 : Int32), M_124)))

def f_L_acts_J104 (x6_141 : Int32) (M_143 : Mm) : Option (Int32 × Mm) :=
(if x6_141 = (0 : Int32) then (
some ((0 : Int32), M_143)) else (
ob2 (f_L_closes M_143) fun r_146 M_145 =>
(if r_146 = (0 : Int32) then (
some ((0 : Int32), M_145)) else (
some ((1 : Int32), M_145)))))

def f_L_acts_L36 (x1 : Int32) (x2 : Int32) (r_1 : Int32) (r_2 : Int32) : Nat → Int32 → Int32 → Mm → Option (Int32 × Mm)
  | 0, _, _, _ => none
  | n + 1, x6_141, x7_142, M_143 =>
    (if r_2 ≤ x7_142 then (
    f_L_acts_J104 x6_141 M_143) else (
    (if x6_141 = (0 : Int32) then (
    f_L_acts_J104 x6_141 M_143) else (
    ob1 (f_L_low (x1 >>> (((4 : Int32) + x7_142) &&& 31)) (5 : Int32) M_143) fun r_148 =>
    ob2 ((if r_148 = (0 : Int32) then (
    some ((1 : Int32), M_143)) else (
    ob1 ((if (4 : Int32) ≤ r_1 then (
    some ((x2 >>> (x7_142 &&& 31)) ^^^ x1)) else (
    some x2))) fun y_152 =>
    ob2 (f_L_shoots x7_142 ((x1 >>> (x7_142 &&& 31)) ^^^ x2) y_152 M_143) fun r_154 M_153 =>
    (if r_154 = (0 : Int32) then (
    some ((0 : Int32), M_153)) else (
    some ((1 : Int32), M_153)))))) fun y_149 M_150 =>
    lt1 (x7_142 + (1 : Int32)) fun x7_156 =>
    f_L_acts_L36 x1 x2 r_1 r_2 n y_149 x7_156 M_150))))

def f_L_acts (x1 : Int32) (x2 : Int32) (M : Mm) : Option (Int32 × Mm) :=
ob1 (f_L_low x1 (16 : Int32) M) fun r_1 =>
ob1 (f_X10_total (0 : Int32) M) fun r_2 =>
ob1 (f_L_low (x2 >>> ((1 : Int32) &&& 31)) r_2 M) fun r_3 =>
(if (6 : Int32) ≤ r_1 then (
(if (8 : Int32) ≤ r_1 then (
(if r_1 = (8 : Int32) then (
ob2 (f_L_shoots r_3 (x1 >>> ((4 : Int32) &&& 31)) x2 M) fun r_136 M_135 =>
chk (bz r_136) <|
some (r_136, M_135)) else (
(if r_1 = (9 : Int32) then (
ob2 (f_X10_wouldBe M) fun r_112 M_111 =>
ob1 (f_X10_path r_3 (5 : Int32) M_111) fun r_113 =>
ob1 (f_X10_path r_3 (6 : Int32) M_111) fun r_114 =>
ob1 (f_X10_told r_3 (0 : Int32) M_111) fun r_115 =>
ob1 (f_X10_total (6 : Int32) M_111) fun r_116 =>
ob2 (f_X10_swap M_111) fun r_118 M_117 =>
ob2 ((if r_118 = ((1 : Int32) - r_116) then (
ob1 (f_X10_path r_3 (5 : Int32) M_117) fun r_122 =>
(if r_122 = r_114 then (
ob1 (f_X10_path r_3 (6 : Int32) M_117) fun r_123 =>
(if r_123 = r_113 then (
(if r_115 = (-2000000005 : Int32) then (
f_L_acts_J253 r_112 M_117) else (
ob1 (f_X10_told r_3 (1 : Int32) M_117) fun r_127 =>
(if r_127 = r_115 then (
f_L_acts_J253 r_112 M_117) else (
some ((0 : Int32), M_117)))))) else (
some ((0 : Int32), M_117)))) else (
some ((0 : Int32), M_117)))) else (
some ((0 : Int32), M_117)))) fun y_120 M_121 =>
(if y_120 = (0 : Int32) then (
some ((0 : Int32), M_121)) else (
ob1 (f_L_low x2 (2 : Int32) M_121) fun r_128 =>
(if r_128 = (0 : Int32) then (
some ((1 : Int32), M_121)) else (
ob2 (f_X10_swap M_121) fun r_130 M_129 =>
(if r_130 = r_116 then (
ob1 (f_X10_path r_3 (5 : Int32) M_129) fun r_132 =>
(if r_132 = r_113 then (
ob2 (f_X10_wouldBe M_129) fun r_134 M_133 =>
(if r_134 = r_112 then (
some ((1 : Int32), M_133)) else (
some ((0 : Int32), M_133)))) else (
some ((0 : Int32), M_129)))) else (
some ((0 : Int32), M_129)))))))) else (
(if r_1 = (10 : Int32) then (
ob1 (f_L_low x2 (5 : Int32) M) fun r_95 =>
ob1 ((if r_95 = (0 : Int32) then (
ob1 (f_L_low (x2 >>> ((3 : Int32) &&& 31)) (101 : Int32) M) fun r_99 =>
some r_99) else (
(if r_95 = (1 : Int32) then (
ob1 (f_L_low (x2 >>> ((3 : Int32) &&& 31)) (6 : Int32) M) fun r_98 =>
some r_98) else (
ob1 (f_L_low (x2 >>> ((3 : Int32) &&& 31)) (100 : Int32) M) fun r_97 =>
some ((1 : Int32) + r_97)))))) fun y_96 =>
ob1 (f_X10_total ((10 : Int32) + r_95) M) fun r_100 =>
ob2 (f_X10_set r_95 y_96 M) fun r_102 M_101 =>
(if r_102 = r_100 then (
ob1 (f_X10_total ((10 : Int32) + r_95) M_101) fun r_104 =>
(if r_104 = y_96 then (
ob2 (f_X10_undo M_101) fun r_106 M_105 =>
(if r_106 < (0 : Int32) then (
some ((0 : Int32), M_105)) else (
ob1 (f_X10_total ((10 : Int32) + r_95) M_105) fun r_107 =>
(if r_107 = r_100 then (
ob2 (f_X10_set r_95 y_96 M_105) fun r_109 M_108 =>
(if r_109 = r_100 then (
some ((1 : Int32), M_108)) else (
some ((0 : Int32), M_108)))) else (
some ((0 : Int32), M_105)))))) else (
some ((0 : Int32), M_101)))) else (
some ((0 : Int32), M_101)))) else (
(if r_1 = (11 : Int32) then (
ob1 (f_L_low x2 (9 : Int32) M) fun r_77 =>
lt1 ((r_77 * (500 : Int32))) fun x6_78 =>
ob1 (f_L_low (x2 >>> ((4 : Int32) &&& 31)) (1001 : Int32) M) fun r_79 =>
lt1 (((500 : Int32) + r_79)) fun x7_80 =>
ob1 (f_X10_total (1 : Int32) M) fun r_81 =>
ob2 (f_X10_setPoint x6_78 x7_80 M) fun r_83 M_82 =>
(if r_83 = (-2000000004 : Int32) then (
(if r_81 = (6 : Int32) then (
ob1 (f_X10_total (1 : Int32) M_82) fun r_94 =>
(if r_94 = (6 : Int32) then (
some ((1 : Int32), M_82)) else (
some ((0 : Int32), M_82)))) else (
some ((0 : Int32), M_82)))) else (
(if r_83 = r_81 then (
f_L_acts_J565 x2 x6_78 x7_80 M_82) else (
(if r_83 = (r_81 + (1 : Int32)) then (
f_L_acts_J565 x2 x6_78 x7_80 M_82) else (
some ((0 : Int32), M_82)))))))) else (
(if r_1 = (12 : Int32) then (
ob1 (f_L_low (x2 >>> ((3 : Int32) &&& 31)) (1000 : Int32) M) fun r_64 =>
lt1 (((1 : Int32) + r_64)) fun x6_65 =>
ob1 (f_X10_path r_3 (2 : Int32) M) fun r_66 =>
ob2 (f_X10_setWeight r_3 x6_65 M) fun r_68 M_67 =>
(if r_68 = r_66 then (
ob1 (f_X10_path r_3 (2 : Int32) M_67) fun r_70 =>
(if r_70 = x6_65 then (
ob2 (f_X10_setWeight r_2 (1 : Int32) M_67) fun r_72 M_71 =>
(if r_72 = (-2000000001 : Int32) then (
ob2 (f_X10_setWeight r_3 (0 : Int32) M_71) fun r_75 M_74 =>
(if r_75 = (-2000000002 : Int32) then (
some ((1 : Int32), M_74)) else (
some ((0 : Int32), M_74)))) else (
some ((0 : Int32), M_71)))) else (
some ((0 : Int32), M_67)))) else (
some ((0 : Int32), M_67)))) else (
(if r_1 = (13 : Int32) then (
ob1 (f_X10_path r_3 (5 : Int32) M) fun r_51 =>
ob1 ((if r_51 = (-2000000005 : Int32) then (
some (0 : Int32)) else (
some (1 : Int32)))) fun y_52 =>
ob2 (f_X10_forget r_3 M) fun r_54 M_53 =>
(if r_54 = y_52 then (
ob1 (f_X10_path r_3 (5 : Int32) M_53) fun r_56 =>
(if r_56 = (-2000000005 : Int32) then (
ob1 (f_X10_path r_3 (7 : Int32) M_53) fun r_57 =>
(if r_57 = (-2000000005 : Int32) then (
ob1 (f_L_low (x2 >>> ((4 : Int32) &&& 31)) (2 : Int32) M_53) fun r_58 =>
(if r_58 = (0 : Int32) then (
some ((1 : Int32), M_53)) else (
ob2 (f_X10_undo M_53) fun r_60 M_59 =>
(if r_60 < (0 : Int32) then (
some ((0 : Int32), M_59)) else (
ob1 (f_X10_path r_3 (5 : Int32) M_59) fun r_61 =>
ob1 ((if r_61 = (-2000000005 : Int32) then (
some (1 : Int32)) else (
some (0 : Int32)))) fun y_62 =>
ob1 ((if y_52 = (0 : Int32) then (
some (1 : Int32)) else (
some (0 : Int32)))) fun y_63 =>
(if y_62 = y_63 then (
some ((1 : Int32), M_59)) else (
some ((0 : Int32), M_59)))))))) else (
some ((0 : Int32), M_53)))) else (
some ((0 : Int32), M_53)))) else (
some ((0 : Int32), M_53)))) else (
(if r_1 = (14 : Int32) then (
ob1 (f_L_low x2 (2 : Int32) M) fun r_30 =>
ob1 (f_X10_total (3 : Int32) M) fun r_31 =>
ob2 (f_X10_wouldBe M) fun r_33 M_32 =>
ob1 (f_X10_volume (2 : Int32) M_32) fun r_34 =>
ob2 (f_X10_save r_30 M_32) fun r_36 M_35 =>
(if r_36 = r_31 then (
ob2 (f_L_closes M_35) fun r_38 M_37 =>
(if r_38 = (0 : Int32) then (
some ((0 : Int32), M_37)) else (
ob2 (f_X10_swap M_37) fun r_41 M_40 =>
(if r_41 < (0 : Int32) then (
some ((0 : Int32), M_40)) else (
ob2 (f_X10_restore r_30 M_40) fun r_44 M_43 =>
(if r_44 = r_31 then (
ob2 (f_X10_wouldBe M_43) fun r_47 M_46 =>
(if r_47 = r_33 then (
ob1 (f_X10_volume (2 : Int32) M_46) fun r_48 =>
(if r_48 = r_34 then (
ob2 (f_X10_save (2 : Int32) M_46) fun r_50 M_49 =>
(if r_50 = (-2000000001 : Int32) then (
some ((1 : Int32), M_49)) else (
some ((0 : Int32), M_49)))) else (
some ((0 : Int32), M_46)))) else (
some ((0 : Int32), M_46)))) else (
some ((0 : Int32), M_43)))))))) else (
some ((0 : Int32), M_35)))) else (
ob1 (f_X10_total (3 : Int32) M) fun r_4 =>
ob2 (f_X10_wouldBe M) fun r_6 M_5 =>
ob1 (f_X10_total (8 : Int32) M_5) fun r_7 =>
ob2 (f_X10_shot r_2 (5000 : Int32) (5000 : Int32) (50 : Int32) M_5) fun r_9 M_8 =>
(if r_9 = (-2000000001 : Int32) then (
ob2 (f_X10_shot r_3 (999 : Int32) (9000 : Int32) (50 : Int32) M_8) fun r_12 M_11 =>
(if r_12 = (-2000000002 : Int32) then (
ob2 (f_X10_set (5 : Int32) (1 : Int32) M_11) fun r_15 M_14 =>
(if r_15 = (-2000000001 : Int32) then (
ob2 (f_X10_setPoint (0 : Int32) (0 : Int32) M_14) fun r_18 M_17 =>
(if r_18 = (-2000000002 : Int32) then (
ob1 (f_X10_round (-1 : Int32) (0 : Int32) M_17) fun r_20 =>
(if r_20 = (-2000000001 : Int32) then (
ob1 (f_X10_total (8 : Int32) M_17) fun r_21 =>
(if r_21 = r_7 then (
ob2 (f_L_closes M_17) fun r_23 M_22 =>
(if r_23 = (0 : Int32) then (
some ((0 : Int32), M_22)) else (
ob2 (f_X10_undo M_22) fun r_26 M_25 =>
(if r_26 < (0 : Int32) then (
some ((0 : Int32), M_25)) else (
ob1 (f_X10_total (3 : Int32) M_25) fun r_27 =>
(if r_27 = r_4 then (
ob2 (f_X10_wouldBe M_25) fun r_29 M_28 =>
(if r_29 = r_6 then (
some ((1 : Int32), M_28)) else (
some ((0 : Int32), M_28)))) else (
some ((0 : Int32), M_25)))))))) else (
some ((0 : Int32), M_17)))) else (
some ((0 : Int32), M_17)))) else (
some ((0 : Int32), M_17)))) else (
some ((0 : Int32), M_14)))) else (
some ((0 : Int32), M_11)))) else (
some ((0 : Int32), M_8)))))))))))))))))) else (
ob2 (f_L_closes M) fun r_139 M_138 =>
chk (bz r_139) <|
some (r_139, M_138)))) else (
f_L_acts_L36 x1 x2 r_1 r_2 1000 (1 : Int32) (0 : Int32) M))
