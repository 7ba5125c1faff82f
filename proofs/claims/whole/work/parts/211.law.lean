def L_law_J232 (σ : Mem) (L : Nat) (xs : Nat → Int32) (x3 : Int32) (kb : Mem → Int32 → Option (Mem × Unit)) (k1599 : Mem → Option (Mem × Unit)) : Option (Mem × Unit) := (ck (x3 + (1 : Int32)) L <| ck (x3 + (2 : Int32)) L <| (X7_row σ ((xs (x3 + (1 : Int32)).toNatClampNeg)) ((xs (x3 + (2 : Int32)).toNatClampNeg))).bind fun q1 => ck (x3 + (1 : Int32)) L <| ck (x3 + (2 : Int32)) L <| (X8_row q1.1 ((xs (x3 + (1 : Int32)).toNatClampNeg)) ((xs (x3 + (2 : Int32)).toNatClampNeg))).bind fun q2 => if q1.2 = q2.2 then (kb q2.1 ((x3 + (6 : Int32)))) else none)
def L_law_J265 (σ : Mem) (L : Nat) (xs : Nat → Int32) (x3 : Int32) (kb : Mem → Int32 → Option (Mem × Unit)) (k1599 : Mem → Option (Mem × Unit)) : Option (Mem × Unit) := (ck (x3 + (1 : Int32)) L <| ck (x3 + (2 : Int32)) L <| ck (x3 + (3 : Int32)) L <| (X7_lay σ ((xs (x3 + (1 : Int32)).toNatClampNeg)) ((xs (x3 + (2 : Int32)).toNatClampNeg)) ((xs (x3 + (3 : Int32)).toNatClampNeg))).bind fun q5 => ck (x3 + (1 : Int32)) L <| ck (x3 + (2 : Int32)) L <| ck (x3 + (3 : Int32)) L <| (X8_lay q5.1 ((xs (x3 + (1 : Int32)).toNatClampNeg)) ((xs (x3 + (2 : Int32)).toNatClampNeg)) ((xs (x3 + (3 : Int32)).toNatClampNeg))).bind fun q6 => if q5.2 = q6.2 then (kb q6.1 ((x3 + (6 : Int32)))) else none)
def L_law_J308 (σ : Mem) (L : Nat) (xs : Nat → Int32) (x3 : Int32) (kb : Mem → Int32 → Option (Mem × Unit)) (k1599 : Mem → Option (Mem × Unit)) : Option (Mem × Unit) := (ck (x3 + (1 : Int32)) L <| ck (x3 + (2 : Int32)) L <| (X7_at σ ((xs (x3 + (1 : Int32)).toNatClampNeg)) ((xs (x3 + (2 : Int32)).toNatClampNeg))).bind fun q9 => ck (x3 + (1 : Int32)) L <| ck (x3 + (2 : Int32)) L <| (X8_at q9.1 ((xs (x3 + (1 : Int32)).toNatClampNeg)) ((xs (x3 + (2 : Int32)).toNatClampNeg))).bind fun q10 => if q9.2 = q10.2 then (kb q10.1 ((x3 + (6 : Int32)))) else none)
def L_law_J341 (σ : Mem) (L : Nat) (xs : Nat → Int32) (x3 : Int32) (kb : Mem → Int32 → Option (Mem × Unit)) (k1599 : Mem → Option (Mem × Unit)) : Option (Mem × Unit) := (ck (x3 + (1 : Int32)) L <| (X7_tear σ ((xs (x3 + (1 : Int32)).toNatClampNeg))).bind fun q13 => ck (x3 + (1 : Int32)) L <| (X8_tear q13.1 ((xs (x3 + (1 : Int32)).toNatClampNeg))).bind fun q14 => if q13.2 = q14.2 then (kb q14.1 ((x3 + (6 : Int32)))) else none)
def L_law_J364 (σ : Mem) (L : Nat) (xs : Nat → Int32) (x3 : Int32) (kb : Mem → Int32 → Option (Mem × Unit)) (k1599 : Mem → Option (Mem × Unit)) : Option (Mem × Unit) := (ck (x3 + (1 : Int32)) L <| ck (x3 + (2 : Int32)) L <| ck (x3 + (3 : Int32)) L <| ck (x3 + (4 : Int32)) L <| ck (x3 + (5 : Int32)) L <| (X7_copy σ ((xs (x3 + (1 : Int32)).toNatClampNeg)) ((xs (x3 + (2 : Int32)).toNatClampNeg)) ((xs (x3 + (3 : Int32)).toNatClampNeg)) ((xs (x3 + (4 : Int32)).toNatClampNeg)) ((xs (x3 + (5 : Int32)).toNatClampNeg))).bind fun q17 => ck (x3 + (1 : Int32)) L <| ck (x3 + (2 : Int32)) L <| ck (x3 + (3 : Int32)) L <| ck (x3 + (4 : Int32)) L <| ck (x3 + (5 : Int32)) L <| (X8_copy q17.1 ((xs (x3 + (1 : Int32)).toNatClampNeg)) ((xs (x3 + (2 : Int32)).toNatClampNeg)) ((xs (x3 + (3 : Int32)).toNatClampNeg)) ((xs (x3 + (4 : Int32)).toNatClampNeg)) ((xs (x3 + (5 : Int32)).toNatClampNeg))).bind fun q18 => if q17.2 = q18.2 then (kb q18.1 ((x3 + (6 : Int32)))) else none)
def L_law_J427 (σ : Mem) (L : Nat) (xs : Nat → Int32) (x3 : Int32) (kb : Mem → Int32 → Option (Mem × Unit)) (k1599 : Mem → Option (Mem × Unit)) : Option (Mem × Unit) := (ck (x3 + (1 : Int32)) L <| (X7_mean σ ((xs (x3 + (1 : Int32)).toNatClampNeg))).bind fun q21 => ck (x3 + (1 : Int32)) L <| (X8_mean q21.1 ((xs (x3 + (1 : Int32)).toNatClampNeg))).bind fun q22 => if q21.2 = q22.2 then (kb q22.1 ((x3 + (6 : Int32)))) else none)
def L_law_J450 (σ : Mem) (L : Nat) (xs : Nat → Int32) (x3 : Int32) (kb : Mem → Int32 → Option (Mem × Unit)) (k1599 : Mem → Option (Mem × Unit)) : Option (Mem × Unit) := (ck (x3 + (1 : Int32)) L <| ck (x3 + (2 : Int32)) L <| (X7_text σ ((xs (x3 + (1 : Int32)).toNatClampNeg)) ((xs (x3 + (2 : Int32)).toNatClampNeg))).bind fun q25 => ck (x3 + (1 : Int32)) L <| ck (x3 + (2 : Int32)) L <| (X8_text q25.1 ((xs (x3 + (1 : Int32)).toNatClampNeg)) ((xs (x3 + (2 : Int32)).toNatClampNeg))).bind fun q26 => if q25.2 = q26.2 then (kb q26.1 ((x3 + (6 : Int32)))) else none)
def L_law_J483 (σ : Mem) (L : Nat) (xs : Nat → Int32) (x3 : Int32) (kb : Mem → Int32 → Option (Mem × Unit)) (k1599 : Mem → Option (Mem × Unit)) : Option (Mem × Unit) := (ck (x3 + (1 : Int32)) L <| ck (x3 + (2 : Int32)) L <| ck (x3 + (3 : Int32)) L <| (X7_put σ ((xs (x3 + (1 : Int32)).toNatClampNeg)) ((xs (x3 + (2 : Int32)).toNatClampNeg)) ((xs (x3 + (3 : Int32)).toNatClampNeg))).bind fun q29 => ck (x3 + (1 : Int32)) L <| ck (x3 + (2 : Int32)) L <| ck (x3 + (3 : Int32)) L <| (X8_put q29.1 ((xs (x3 + (1 : Int32)).toNatClampNeg)) ((xs (x3 + (2 : Int32)).toNatClampNeg)) ((xs (x3 + (3 : Int32)).toNatClampNeg))).bind fun q30 => if q29.2 = q30.2 then (kb q30.1 ((x3 + (6 : Int32)))) else none)
def L_law_J526 (σ : Mem) (L : Nat) (xs : Nat → Int32) (x3 : Int32) (kb : Mem → Int32 → Option (Mem × Unit)) (k1599 : Mem → Option (Mem × Unit)) : Option (Mem × Unit) := (ck (x3 + (1 : Int32)) L <| (X7_fault σ ((xs (x3 + (1 : Int32)).toNatClampNeg))).bind fun q33 => ck (x3 + (1 : Int32)) L <| (X8_fault q33.1 ((xs (x3 + (1 : Int32)).toNatClampNeg))).bind fun q34 => if q33.2 = q34.2 then (kb q34.1 ((x3 + (6 : Int32)))) else none)
def L_law_J549 (σ : Mem) (L : Nat) (xs : Nat → Int32) (x3 : Int32) (kb : Mem → Int32 → Option (Mem × Unit)) (k1599 : Mem → Option (Mem × Unit)) : Option (Mem × Unit) := (ck (x3 + (1 : Int32)) L <| (X7_press σ ((xs (x3 + (1 : Int32)).toNatClampNeg))).bind fun q37 => ck (x3 + (1 : Int32)) L <| (X8_press q37.1 ((xs (x3 + (1 : Int32)).toNatClampNeg))).bind fun q38 => if q37.2 = q38.2 then (kb q38.1 ((x3 + (6 : Int32)))) else none)
def L_law_J572 (σ : Mem) (L : Nat) (xs : Nat → Int32) (x3 : Int32) (kb : Mem → Int32 → Option (Mem × Unit)) (k1599 : Mem → Option (Mem × Unit)) : Option (Mem × Unit) := (ck (x3 + (1 : Int32)) L <| ck (x3 + (2 : Int32)) L <| (X7_law σ ((xs (x3 + (1 : Int32)).toNatClampNeg)) ((xs (x3 + (2 : Int32)).toNatClampNeg))).bind fun q41 => ck (x3 + (1 : Int32)) L <| ck (x3 + (2 : Int32)) L <| (X8_law q41.1 ((xs (x3 + (1 : Int32)).toNatClampNeg)) ((xs (x3 + (2 : Int32)).toNatClampNeg))).bind fun q42 => if q41.2 = q42.2 then (kb q42.1 ((x3 + (6 : Int32)))) else none)
def L_law_J605 (σ : Mem) (L : Nat) (xs : Nat → Int32) (x3 : Int32) (kb : Mem → Int32 → Option (Mem × Unit)) (k1599 : Mem → Option (Mem × Unit)) : Option (Mem × Unit) := (ck (x3 + (1 : Int32)) L <| ck (x3 + (2 : Int32)) L <| (X7_mark σ ((xs (x3 + (1 : Int32)).toNatClampNeg)) ((xs (x3 + (2 : Int32)).toNatClampNeg))).bind fun q45 => ck (x3 + (1 : Int32)) L <| ck (x3 + (2 : Int32)) L <| (X8_mark q45.1 ((xs (x3 + (1 : Int32)).toNatClampNeg)) ((xs (x3 + (2 : Int32)).toNatClampNeg))).bind fun q46 => if q45.2 = q46.2 then (kb q46.1 ((x3 + (6 : Int32)))) else none)
def L_law_J638 (σ : Mem) (L : Nat) (xs : Nat → Int32) (x3 : Int32) (kb : Mem → Int32 → Option (Mem × Unit)) (k1599 : Mem → Option (Mem × Unit)) : Option (Mem × Unit) := (ck (x3 + (1 : Int32)) L <| ck (x3 + (2 : Int32)) L <| (X7_hush σ ((xs (x3 + (1 : Int32)).toNatClampNeg)) ((xs (x3 + (2 : Int32)).toNatClampNeg))).bind fun q49 => ck (x3 + (1 : Int32)) L <| ck (x3 + (2 : Int32)) L <| (X8_hush q49.1 ((xs (x3 + (1 : Int32)).toNatClampNeg)) ((xs (x3 + (2 : Int32)).toNatClampNeg))).bind fun q50 => if q49.2 = q50.2 then (kb q50.1 ((x3 + (6 : Int32)))) else none)
def L_law_J671 (σ : Mem) (L : Nat) (xs : Nat → Int32) (x3 : Int32) (kb : Mem → Int32 → Option (Mem × Unit)) (k1599 : Mem → Option (Mem × Unit)) : Option (Mem × Unit) := (ck (x3 + (1 : Int32)) L <| ck (x3 + (2 : Int32)) L <| (X7_swap σ ((xs (x3 + (1 : Int32)).toNatClampNeg)) ((xs (x3 + (2 : Int32)).toNatClampNeg))).bind fun q53 => ck (x3 + (1 : Int32)) L <| ck (x3 + (2 : Int32)) L <| (X8_swap q53.1 ((xs (x3 + (1 : Int32)).toNatClampNeg)) ((xs (x3 + (2 : Int32)).toNatClampNeg))).bind fun q54 => if q53.2 = q54.2 then (kb q54.1 ((x3 + (6 : Int32)))) else none)
def L_law_J704 (σ : Mem) (L : Nat) (xs : Nat → Int32) (x3 : Int32) (kb : Mem → Int32 → Option (Mem × Unit)) (k1599 : Mem → Option (Mem × Unit)) : Option (Mem × Unit) := (ck (x3 + (1 : Int32)) L <| ck (x3 + (2 : Int32)) L <| (X7_set σ ((xs (x3 + (1 : Int32)).toNatClampNeg)) ((xs (x3 + (2 : Int32)).toNatClampNeg))).bind fun q57 => ck (x3 + (1 : Int32)) L <| ck (x3 + (2 : Int32)) L <| (X8_set q57.1 ((xs (x3 + (1 : Int32)).toNatClampNeg)) ((xs (x3 + (2 : Int32)).toNatClampNeg))).bind fun q58 => if q57.2 = q58.2 then (kb q58.1 ((x3 + (6 : Int32)))) else none)
def L_law_J737 (σ : Mem) (L : Nat) (xs : Nat → Int32) (x3 : Int32) (kb : Mem → Int32 → Option (Mem × Unit)) (k1599 : Mem → Option (Mem × Unit)) : Option (Mem × Unit) := (ck (x3 + (1 : Int32)) L <| ck (x3 + (2 : Int32)) L <| (X7_by σ ((xs (x3 + (1 : Int32)).toNatClampNeg)) ((xs (x3 + (2 : Int32)).toNatClampNeg))).bind fun q61 => ck (x3 + (1 : Int32)) L <| ck (x3 + (2 : Int32)) L <| (X8_by q61.1 ((xs (x3 + (1 : Int32)).toNatClampNeg)) ((xs (x3 + (2 : Int32)).toNatClampNeg))).bind fun q62 => if q61.2 = q62.2 then (kb q62.1 ((x3 + (6 : Int32)))) else none)
def L_law_J770 (σ : Mem) (L : Nat) (xs : Nat → Int32) (x3 : Int32) (kb : Mem → Int32 → Option (Mem × Unit)) (k1599 : Mem → Option (Mem × Unit)) : Option (Mem × Unit) := (ck (x3 + (1 : Int32)) L <| (X7_first σ ((xs (x3 + (1 : Int32)).toNatClampNeg))).bind fun q65 => ck (x3 + (1 : Int32)) L <| (X8_first q65.1 ((xs (x3 + (1 : Int32)).toNatClampNeg))).bind fun q66 => if q65.2 = q66.2 then (kb q66.1 ((x3 + (6 : Int32)))) else none)
def L_law_J793 (σ : Mem) (L : Nat) (xs : Nat → Int32) (x3 : Int32) (kb : Mem → Int32 → Option (Mem × Unit)) (k1599 : Mem → Option (Mem × Unit)) : Option (Mem × Unit) := (ck (x3 + (1 : Int32)) L <| ck (x3 + (2 : Int32)) L <| ck (x3 + (3 : Int32)) L <| (X7_again σ ((xs (x3 + (1 : Int32)).toNatClampNeg)) ((xs (x3 + (2 : Int32)).toNatClampNeg)) ((xs (x3 + (3 : Int32)).toNatClampNeg))).bind fun q69 => ck (x3 + (1 : Int32)) L <| ck (x3 + (2 : Int32)) L <| ck (x3 + (3 : Int32)) L <| (X8_again q69.1 ((xs (x3 + (1 : Int32)).toNatClampNeg)) ((xs (x3 + (2 : Int32)).toNatClampNeg)) ((xs (x3 + (3 : Int32)).toNatClampNeg))).bind fun q70 => if q69.2 = q70.2 then (kb q70.1 ((x3 + (6 : Int32)))) else none)
def L_law_J836 (σ : Mem) (L : Nat) (xs : Nat → Int32) (x3 : Int32) (kb : Mem → Int32 → Option (Mem × Unit)) (k1599 : Mem → Option (Mem × Unit)) : Option (Mem × Unit) := (ck (x3 + (1 : Int32)) L <| (X7_rests σ ((xs (x3 + (1 : Int32)).toNatClampNeg))).bind fun q73 => ck (x3 + (1 : Int32)) L <| (X8_rests q73.1 ((xs (x3 + (1 : Int32)).toNatClampNeg))).bind fun q74 => if q73.2 = q74.2 then (kb q74.1 ((x3 + (6 : Int32)))) else none)
def L_law_J859 (σ : Mem) (L : Nat) (xs : Nat → Int32) (x3 : Int32) (kb : Mem → Int32 → Option (Mem × Unit)) (k1599 : Mem → Option (Mem × Unit)) : Option (Mem × Unit) := (ck (x3 + (1 : Int32)) L <| ck (x3 + (2 : Int32)) L <| (X7_same σ ((xs (x3 + (1 : Int32)).toNatClampNeg)) ((xs (x3 + (2 : Int32)).toNatClampNeg))).bind fun q77 => ck (x3 + (1 : Int32)) L <| ck (x3 + (2 : Int32)) L <| (X8_same q77.1 ((xs (x3 + (1 : Int32)).toNatClampNeg)) ((xs (x3 + (2 : Int32)).toNatClampNeg))).bind fun q78 => if q77.2 = q78.2 then (kb q78.1 ((x3 + (6 : Int32)))) else none)
def L_law_J892 (σ : Mem) (L : Nat) (xs : Nat → Int32) (x3 : Int32) (kb : Mem → Int32 → Option (Mem × Unit)) (k1599 : Mem → Option (Mem × Unit)) : Option (Mem × Unit) := (ck (x3 + (1 : Int32)) L <| ck (x3 + (2 : Int32)) L <| (X7_meant σ ((xs (x3 + (1 : Int32)).toNatClampNeg)) ((xs (x3 + (2 : Int32)).toNatClampNeg))).bind fun q81 => ck (x3 + (1 : Int32)) L <| ck (x3 + (2 : Int32)) L <| (X8_meant q81.1 ((xs (x3 + (1 : Int32)).toNatClampNeg)) ((xs (x3 + (2 : Int32)).toNatClampNeg))).bind fun q82 => if q81.2 = q82.2 then (kb q82.1 ((x3 + (6 : Int32)))) else none)
def L_law_J925 (σ : Mem) (L : Nat) (xs : Nat → Int32) (x3 : Int32) (kb : Mem → Int32 → Option (Mem × Unit)) (k1599 : Mem → Option (Mem × Unit)) : Option (Mem × Unit) := (ck (x3 + (1 : Int32)) L <| ck (x3 + (2 : Int32)) L <| (X7_smallest σ ((xs (x3 + (1 : Int32)).toNatClampNeg)) ((xs (x3 + (2 : Int32)).toNatClampNeg))).bind fun q85 => ck (x3 + (1 : Int32)) L <| ck (x3 + (2 : Int32)) L <| (X8_smallest q85.1 ((xs (x3 + (1 : Int32)).toNatClampNeg)) ((xs (x3 + (2 : Int32)).toNatClampNeg))).bind fun q86 => if q85.2 = q86.2 then (kb q86.1 ((x3 + (6 : Int32)))) else none)
def L_law_J958 (σ : Mem) (L : Nat) (xs : Nat → Int32) (x3 : Int32) (kb : Mem → Int32 → Option (Mem × Unit)) (k1599 : Mem → Option (Mem × Unit)) : Option (Mem × Unit) := (ck (x3 + (1 : Int32)) L <| (X7_outs σ ((xs (x3 + (1 : Int32)).toNatClampNeg))).bind fun q89 => ck (x3 + (1 : Int32)) L <| (X8_outs q89.1 ((xs (x3 + (1 : Int32)).toNatClampNeg))).bind fun q90 => if q89.2 = q90.2 then (kb q90.1 ((x3 + (6 : Int32)))) else none)
def L_law_J981 (σ : Mem) (L : Nat) (xs : Nat → Int32) (x3 : Int32) (kb : Mem → Int32 → Option (Mem × Unit)) (k1599 : Mem → Option (Mem × Unit)) : Option (Mem × Unit) := (ck (x3 + (1 : Int32)) L <| ck (x3 + (2 : Int32)) L <| (X7_twins σ ((xs (x3 + (1 : Int32)).toNatClampNeg)) ((xs (x3 + (2 : Int32)).toNatClampNeg))).bind fun q93 => ck (x3 + (1 : Int32)) L <| ck (x3 + (2 : Int32)) L <| (X8_twins q93.1 ((xs (x3 + (1 : Int32)).toNatClampNeg)) ((xs (x3 + (2 : Int32)).toNatClampNeg))).bind fun q94 => if q93.2 = q94.2 then (kb q94.1 ((x3 + (6 : Int32)))) else none)
def L_law_J1014 (σ : Mem) (L : Nat) (xs : Nat → Int32) (x3 : Int32) (kb : Mem → Int32 → Option (Mem × Unit)) (k1599 : Mem → Option (Mem × Unit)) : Option (Mem × Unit) := (ck (x3 + (1 : Int32)) L <| ck (x3 + (2 : Int32)) L <| (X7_harmless σ ((xs (x3 + (1 : Int32)).toNatClampNeg)) ((xs (x3 + (2 : Int32)).toNatClampNeg))).bind fun q97 => ck (x3 + (1 : Int32)) L <| ck (x3 + (2 : Int32)) L <| (X8_harmless q97.1 ((xs (x3 + (1 : Int32)).toNatClampNeg)) ((xs (x3 + (2 : Int32)).toNatClampNeg))).bind fun q98 => if q97.2 = q98.2 then (kb q98.1 ((x3 + (6 : Int32)))) else none)
def L_law_J1047 (σ : Mem) (L : Nat) (xs : Nat → Int32) (x3 : Int32) (kb : Mem → Int32 → Option (Mem × Unit)) (k1599 : Mem → Option (Mem × Unit)) : Option (Mem × Unit) := (ck (x3 + (1 : Int32)) L <| ck (x3 + (2 : Int32)) L <| ck (x3 + (3 : Int32)) L <| (X7_believed σ ((xs (x3 + (1 : Int32)).toNatClampNeg)) ((xs (x3 + (2 : Int32)).toNatClampNeg)) ((xs (x3 + (3 : Int32)).toNatClampNeg))).bind fun q101 => ck (x3 + (1 : Int32)) L <| ck (x3 + (2 : Int32)) L <| ck (x3 + (3 : Int32)) L <| (X8_believed q101.1 ((xs (x3 + (1 : Int32)).toNatClampNeg)) ((xs (x3 + (2 : Int32)).toNatClampNeg)) ((xs (x3 + (3 : Int32)).toNatClampNeg))).bind fun q102 => if q101.2 = q102.2 then (kb q102.1 ((x3 + (6 : Int32)))) else none)
def L_law_J1090 (σ : Mem) (L : Nat) (xs : Nat → Int32) (x3 : Int32) (kb : Mem → Int32 → Option (Mem × Unit)) (k1599 : Mem → Option (Mem × Unit)) : Option (Mem × Unit) := (ck (x3 + (1 : Int32)) L <| (X7_forbid σ ((xs (x3 + (1 : Int32)).toNatClampNeg))).bind fun q105 => ck (x3 + (1 : Int32)) L <| (X8_forbid q105.1 ((xs (x3 + (1 : Int32)).toNatClampNeg))).bind fun q106 => if q105.2 = q106.2 then (kb q106.1 ((x3 + (6 : Int32)))) else none)
def L_law_J1113 (σ : Mem) (L : Nat) (xs : Nat → Int32) (x3 : Int32) (kb : Mem → Int32 → Option (Mem × Unit)) (k1599 : Mem → Option (Mem × Unit)) : Option (Mem × Unit) := (ck (x3 + (1 : Int32)) L <| ck (x3 + (2 : Int32)) L <| (X7_silence σ ((xs (x3 + (1 : Int32)).toNatClampNeg)) ((xs (x3 + (2 : Int32)).toNatClampNeg))).bind fun q109 => ck (x3 + (1 : Int32)) L <| ck (x3 + (2 : Int32)) L <| (X8_silence q109.1 ((xs (x3 + (1 : Int32)).toNatClampNeg)) ((xs (x3 + (2 : Int32)).toNatClampNeg))).bind fun q110 => if q109.2 = q110.2 then (kb q110.1 ((x3 + (6 : Int32)))) else none)
def L_law_J1146 (σ : Mem) (L : Nat) (xs : Nat → Int32) (x3 : Int32) (kb : Mem → Int32 → Option (Mem × Unit)) (k1599 : Mem → Option (Mem × Unit)) : Option (Mem × Unit) := (ck (x3 + (1 : Int32)) L <| ck (x3 + (2 : Int32)) L <| (X7_which σ ((xs (x3 + (1 : Int32)).toNatClampNeg)) ((xs (x3 + (2 : Int32)).toNatClampNeg))).bind fun q113 => ck (x3 + (1 : Int32)) L <| ck (x3 + (2 : Int32)) L <| (X8_which q113.1 ((xs (x3 + (1 : Int32)).toNatClampNeg)) ((xs (x3 + (2 : Int32)).toNatClampNeg))).bind fun q114 => if q113.2 = q114.2 then (kb q114.1 ((x3 + (6 : Int32)))) else none)
def L_law_J1179 (σ : Mem) (L : Nat) (xs : Nat → Int32) (x3 : Int32) (kb : Mem → Int32 → Option (Mem × Unit)) (k1599 : Mem → Option (Mem × Unit)) : Option (Mem × Unit) := (ck (x3 + (1 : Int32)) L <| ck (x3 + (2 : Int32)) L <| ck (x3 + (3 : Int32)) L <| (X7_kinds σ ((xs (x3 + (1 : Int32)).toNatClampNeg)) ((xs (x3 + (2 : Int32)).toNatClampNeg)) ((xs (x3 + (3 : Int32)).toNatClampNeg))).bind fun q117 => ck (x3 + (1 : Int32)) L <| ck (x3 + (2 : Int32)) L <| ck (x3 + (3 : Int32)) L <| (X8_kinds q117.1 ((xs (x3 + (1 : Int32)).toNatClampNeg)) ((xs (x3 + (2 : Int32)).toNatClampNeg)) ((xs (x3 + (3 : Int32)).toNatClampNeg))).bind fun q118 => if q117.2 = q118.2 then (kb q118.1 ((x3 + (6 : Int32)))) else none)
def L_law_J1222 (σ : Mem) (L : Nat) (xs : Nat → Int32) (x3 : Int32) (kb : Mem → Int32 → Option (Mem × Unit)) (k1599 : Mem → Option (Mem × Unit)) : Option (Mem × Unit) := (ck (x3 + (1 : Int32)) L <| ck (x3 + (2 : Int32)) L <| ck (x3 + (3 : Int32)) L <| (X7_odds σ ((xs (x3 + (1 : Int32)).toNatClampNeg)) ((xs (x3 + (2 : Int32)).toNatClampNeg)) ((xs (x3 + (3 : Int32)).toNatClampNeg))).bind fun q121 => ck (x3 + (1 : Int32)) L <| ck (x3 + (2 : Int32)) L <| ck (x3 + (3 : Int32)) L <| (X8_odds q121.1 ((xs (x3 + (1 : Int32)).toNatClampNeg)) ((xs (x3 + (2 : Int32)).toNatClampNeg)) ((xs (x3 + (3 : Int32)).toNatClampNeg))).bind fun q122 => if q121.2 = q122.2 then (kb q122.1 ((x3 + (6 : Int32)))) else none)
def L_law_J1265 (σ : Mem) (L : Nat) (xs : Nat → Int32) (x3 : Int32) (kb : Mem → Int32 → Option (Mem × Unit)) (k1599 : Mem → Option (Mem × Unit)) : Option (Mem × Unit) := (ck (x3 + (1 : Int32)) L <| ck (x3 + (2 : Int32)) L <| (X7_mid σ ((xs (x3 + (1 : Int32)).toNatClampNeg)) ((xs (x3 + (2 : Int32)).toNatClampNeg))).bind fun q125 => ck (x3 + (1 : Int32)) L <| ck (x3 + (2 : Int32)) L <| (X8_mid q125.1 ((xs (x3 + (1 : Int32)).toNatClampNeg)) ((xs (x3 + (2 : Int32)).toNatClampNeg))).bind fun q126 => if q125.2 = q126.2 then (kb q126.1 ((x3 + (6 : Int32)))) else none)
def L_law_J1298 (σ : Mem) (L : Nat) (xs : Nat → Int32) (x3 : Int32) (kb : Mem → Int32 → Option (Mem × Unit)) (k1599 : Mem → Option (Mem × Unit)) : Option (Mem × Unit) := (ck (x3 + (1 : Int32)) L <| (X7_print σ ((xs (x3 + (1 : Int32)).toNatClampNeg))).bind fun q129 => ck (x3 + (1 : Int32)) L <| (X8_print q129.1 ((xs (x3 + (1 : Int32)).toNatClampNeg))).bind fun q130 => if q129.2 = q130.2 then (kb q130.1 ((x3 + (6 : Int32)))) else none)
def L_law_J1321 (σ : Mem) (L : Nat) (xs : Nat → Int32) (x3 : Int32) (kb : Mem → Int32 → Option (Mem × Unit)) (k1599 : Mem → Option (Mem × Unit)) : Option (Mem × Unit) := (ck (x3 + (1 : Int32)) L <| (X7_ink σ ((xs (x3 + (1 : Int32)).toNatClampNeg))).bind fun q133 => ck (x3 + (1 : Int32)) L <| (X8_ink q133.1 ((xs (x3 + (1 : Int32)).toNatClampNeg))).bind fun q134 => if q133.2 = q134.2 then (kb q134.1 ((x3 + (6 : Int32)))) else none)
def L_law_J1344 (σ : Mem) (L : Nat) (xs : Nat → Int32) (x3 : Int32) (kb : Mem → Int32 → Option (Mem × Unit)) (k1599 : Mem → Option (Mem × Unit)) : Option (Mem × Unit) := (ck (x3 + (1 : Int32)) L <| (X7_undo σ ((xs (x3 + (1 : Int32)).toNatClampNeg))).bind fun q137 => ck (x3 + (1 : Int32)) L <| (X8_undo q137.1 ((xs (x3 + (1 : Int32)).toNatClampNeg))).bind fun q138 => if q137.2 = q138.2 then (kb q138.1 ((x3 + (6 : Int32)))) else none)
def L_law_J1367 (σ : Mem) (L : Nat) (xs : Nat → Int32) (x3 : Int32) (kb : Mem → Int32 → Option (Mem × Unit)) (k1599 : Mem → Option (Mem × Unit)) : Option (Mem × Unit) := (ck (x3 + (1 : Int32)) L <| ck (x3 + (2 : Int32)) L <| (X7_drawer σ ((xs (x3 + (1 : Int32)).toNatClampNeg)) ((xs (x3 + (2 : Int32)).toNatClampNeg))).bind fun q141 => ck (x3 + (1 : Int32)) L <| ck (x3 + (2 : Int32)) L <| (X8_drawer q141.1 ((xs (x3 + (1 : Int32)).toNatClampNeg)) ((xs (x3 + (2 : Int32)).toNatClampNeg))).bind fun q142 => if q141.2 = q142.2 then (kb q142.1 ((x3 + (6 : Int32)))) else none)
def L_law_J1400 (σ : Mem) (L : Nat) (xs : Nat → Int32) (x3 : Int32) (kb : Mem → Int32 → Option (Mem × Unit)) (k1599 : Mem → Option (Mem × Unit)) : Option (Mem × Unit) := (ck (x3 + (1 : Int32)) L <| ck (x3 + (2 : Int32)) L <| (X7_lots σ ((xs (x3 + (1 : Int32)).toNatClampNeg)) ((xs (x3 + (2 : Int32)).toNatClampNeg))).bind fun q145 => ck (x3 + (1 : Int32)) L <| ck (x3 + (2 : Int32)) L <| (X8_lots q145.1 ((xs (x3 + (1 : Int32)).toNatClampNeg)) ((xs (x3 + (2 : Int32)).toNatClampNeg))).bind fun q146 => if q145.2 = q146.2 then (kb q146.1 ((x3 + (6 : Int32)))) else none)
def L_law_J1433 (σ : Mem) (L : Nat) (xs : Nat → Int32) (x3 : Int32) (kb : Mem → Int32 → Option (Mem × Unit)) (k1599 : Mem → Option (Mem × Unit)) : Option (Mem × Unit) := (ck (x3 + (1 : Int32)) L <| (X7_keep σ ((xs (x3 + (1 : Int32)).toNatClampNeg))).bind fun q149 => ck (x3 + (1 : Int32)) L <| (X8_keep q149.1 ((xs (x3 + (1 : Int32)).toNatClampNeg))).bind fun q150 => if q149.2 = q150.2 then (kb q150.1 ((x3 + (6 : Int32)))) else none)
def L_law_J1456 (σ : Mem) (L : Nat) (xs : Nat → Int32) (x3 : Int32) (kb : Mem → Int32 → Option (Mem × Unit)) (k1599 : Mem → Option (Mem × Unit)) : Option (Mem × Unit) := (ck (x3 + (1 : Int32)) L <| (X7_on σ ((xs (x3 + (1 : Int32)).toNatClampNeg))).bind fun q153 => ck (x3 + (1 : Int32)) L <| (X8_on q153.1 ((xs (x3 + (1 : Int32)).toNatClampNeg))).bind fun q154 => if q153.2 = q154.2 then (kb q154.1 ((x3 + (6 : Int32)))) else none)
def L_law_J1479 (σ : Mem) (L : Nat) (xs : Nat → Int32) (x3 : Int32) (kb : Mem → Int32 → Option (Mem × Unit)) (k1599 : Mem → Option (Mem × Unit)) : Option (Mem × Unit) := ((X7_asked σ).bind fun q157 => (X8_asked q157.1).bind fun q158 => if q157.2 = q158.2 then (kb q158.1 ((x3 + (6 : Int32)))) else none)
def L_law_J1492 (σ : Mem) (L : Nat) (xs : Nat → Int32) (x3 : Int32) (kb : Mem → Int32 → Option (Mem × Unit)) (k1599 : Mem → Option (Mem × Unit)) : Option (Mem × Unit) := ((X7_upper σ).bind fun q161 => (X8_upper q161.1).bind fun q162 => if (lg_cmp q161.2 q162.2) = 0 then (kb q162.1 ((x3 + (6 : Int32)))) else none)
def L_law_J1506 (σ : Mem) (L : Nat) (xs : Nat → Int32) (x3 : Int32) (kb : Mem → Int32 → Option (Mem × Unit)) (k1599 : Mem → Option (Mem × Unit)) : Option (Mem × Unit) := ((X7_lower σ).bind fun q165 => (X8_lower q165.1).bind fun q166 => if (lg_cmp q165.2 q166.2) = 0 then (kb q166.1 ((x3 + (6 : Int32)))) else none)
def L_law_J1520 (σ : Mem) (L : Nat) (xs : Nat → Int32) (x3 : Int32) (kb : Mem → Int32 → Option (Mem × Unit)) (k1599 : Mem → Option (Mem × Unit)) : Option (Mem × Unit) := (ck (x3 + (1 : Int32)) L <| (X7_count σ ((xs (x3 + (1 : Int32)).toNatClampNeg))).bind fun q169 => ck (x3 + (1 : Int32)) L <| (X8_count q169.1 ((xs (x3 + (1 : Int32)).toNatClampNeg))).bind fun q170 => if q169.2 = q170.2 then (kb q170.1 ((x3 + (6 : Int32)))) else none)
def L_law_J1543 (σ : Mem) (L : Nat) (xs : Nat → Int32) (x3 : Int32) (kb : Mem → Int32 → Option (Mem × Unit)) (k1599 : Mem → Option (Mem × Unit)) : Option (Mem × Unit) := ((X7_finding σ).bind fun q173 => (X8_finding q173.1).bind fun q174 => if q173.2 = q174.2 then (kb q174.1 ((x3 + (6 : Int32)))) else none)
def L_law_J1556 (σ : Mem) (L : Nat) (xs : Nat → Int32) (x3 : Int32) (kb : Mem → Int32 → Option (Mem × Unit)) (k1599 : Mem → Option (Mem × Unit)) : Option (Mem × Unit) := (ck (x3 + (1 : Int32)) L <| (X7_findings σ ((xs (x3 + (1 : Int32)).toNatClampNeg))).bind fun q177 => ck (x3 + (1 : Int32)) L <| (X8_findings q177.1 ((xs (x3 + (1 : Int32)).toNatClampNeg))).bind fun q178 => if q177.2 = q178.2 then (kb q178.1 ((x3 + (6 : Int32)))) else none)
def L_law_J1579 (σ : Mem) (L : Nat) (xs : Nat → Int32) (x3 : Int32) (kb : Mem → Int32 → Option (Mem × Unit)) (k1599 : Mem → Option (Mem × Unit)) : Option (Mem × Unit) := ((X7_digest σ).bind fun q181 => (X8_digest q181.1).bind fun q182 => if (lg_cmp q181.2 q182.2) = 0 then (kb q182.1 ((x3 + (6 : Int32)))) else none)
def L_law_L18 (L : Nat) (xs : Nat → Int32) (k1599 : Mem → Option (Mem × Unit)) : Nat → Mem → Int32 → Option (Mem × Unit)
  | 0, _, _ => none
  | n + 1, σ, x3 => (if ((Int32.ofNat L) - (6 : Int32)) < x3 then k1599 σ else (ck x3 L <| if ((xs x3.toNatClampNeg) &&& (63 : Int32)) = (0 : Int32) then (L_law_J232 σ L xs x3 (L_law_L18 L xs k1599 n) k1599) else if ((xs x3.toNatClampNeg) &&& (63 : Int32)) = (1 : Int32) then (L_law_J265 σ L xs x3 (L_law_L18 L xs k1599 n) k1599) else if ((xs x3.toNatClampNeg) &&& (63 : Int32)) = (2 : Int32) then (L_law_J308 σ L xs x3 (L_law_L18 L xs k1599 n) k1599) else if ((xs x3.toNatClampNeg) &&& (63 : Int32)) = (3 : Int32) then (L_law_J341 σ L xs x3 (L_law_L18 L xs k1599 n) k1599) else if ((xs x3.toNatClampNeg) &&& (63 : Int32)) = (4 : Int32) then (L_law_J364 σ L xs x3 (L_law_L18 L xs k1599 n) k1599) else if ((xs x3.toNatClampNeg) &&& (63 : Int32)) = (5 : Int32) then (L_law_J427 σ L xs x3 (L_law_L18 L xs k1599 n) k1599) else if ((xs x3.toNatClampNeg) &&& (63 : Int32)) = (6 : Int32) then (L_law_J450 σ L xs x3 (L_law_L18 L xs k1599 n) k1599) else if ((xs x3.toNatClampNeg) &&& (63 : Int32)) = (7 : Int32) then (L_law_J483 σ L xs x3 (L_law_L18 L xs k1599 n) k1599) else if ((xs x3.toNatClampNeg) &&& (63 : Int32)) = (8 : Int32) then (L_law_J526 σ L xs x3 (L_law_L18 L xs k1599 n) k1599) else if ((xs x3.toNatClampNeg) &&& (63 : Int32)) = (9 : Int32) then (L_law_J549 σ L xs x3 (L_law_L18 L xs k1599 n) k1599) else if ((xs x3.toNatClampNeg) &&& (63 : Int32)) = (10 : Int32) then (L_law_J572 σ L xs x3 (L_law_L18 L xs k1599 n) k1599) else if ((xs x3.toNatClampNeg) &&& (63 : Int32)) = (11 : Int32) then (L_law_J605 σ L xs x3 (L_law_L18 L xs k1599 n) k1599) else if ((xs x3.toNatClampNeg) &&& (63 : Int32)) = (12 : Int32) then (L_law_J638 σ L xs x3 (L_law_L18 L xs k1599 n) k1599) else if ((xs x3.toNatClampNeg) &&& (63 : Int32)) = (13 : Int32) then (L_law_J671 σ L xs x3 (L_law_L18 L xs k1599 n) k1599) else if ((xs x3.toNatClampNeg) &&& (63 : Int32)) = (14 : Int32) then (L_law_J704 σ L xs x3 (L_law_L18 L xs k1599 n) k1599) else if ((xs x3.toNatClampNeg) &&& (63 : Int32)) = (15 : Int32) then (L_law_J737 σ L xs x3 (L_law_L18 L xs k1599 n) k1599) else if ((xs x3.toNatClampNeg) &&& (63 : Int32)) = (16 : Int32) then (L_law_J770 σ L xs x3 (L_law_L18 L xs k1599 n) k1599) else if ((xs x3.toNatClampNeg) &&& (63 : Int32)) = (17 : Int32) then (L_law_J793 σ L xs x3 (L_law_L18 L xs k1599 n) k1599) else if ((xs x3.toNatClampNeg) &&& (63 : Int32)) = (18 : Int32) then (L_law_J836 σ L xs x3 (L_law_L18 L xs k1599 n) k1599) else if ((xs x3.toNatClampNeg) &&& (63 : Int32)) = (19 : Int32) then (L_law_J859 σ L xs x3 (L_law_L18 L xs k1599 n) k1599) else if ((xs x3.toNatClampNeg) &&& (63 : Int32)) = (20 : Int32) then (L_law_J892 σ L xs x3 (L_law_L18 L xs k1599 n) k1599) else if ((xs x3.toNatClampNeg) &&& (63 : Int32)) = (21 : Int32) then (L_law_J925 σ L xs x3 (L_law_L18 L xs k1599 n) k1599) else if ((xs x3.toNatClampNeg) &&& (63 : Int32)) = (22 : Int32) then (L_law_J958 σ L xs x3 (L_law_L18 L xs k1599 n) k1599) else if ((xs x3.toNatClampNeg) &&& (63 : Int32)) = (23 : Int32) then (L_law_J981 σ L xs x3 (L_law_L18 L xs k1599 n) k1599) else if ((xs x3.toNatClampNeg) &&& (63 : Int32)) = (24 : Int32) then (L_law_J1014 σ L xs x3 (L_law_L18 L xs k1599 n) k1599) else if ((xs x3.toNatClampNeg) &&& (63 : Int32)) = (25 : Int32) then (L_law_J1047 σ L xs x3 (L_law_L18 L xs k1599 n) k1599) else if ((xs x3.toNatClampNeg) &&& (63 : Int32)) = (26 : Int32) then (L_law_J1090 σ L xs x3 (L_law_L18 L xs k1599 n) k1599) else if ((xs x3.toNatClampNeg) &&& (63 : Int32)) = (27 : Int32) then (L_law_J1113 σ L xs x3 (L_law_L18 L xs k1599 n) k1599) else if ((xs x3.toNatClampNeg) &&& (63 : Int32)) = (28 : Int32) then (L_law_J1146 σ L xs x3 (L_law_L18 L xs k1599 n) k1599) else if ((xs x3.toNatClampNeg) &&& (63 : Int32)) = (29 : Int32) then (L_law_J1179 σ L xs x3 (L_law_L18 L xs k1599 n) k1599) else if ((xs x3.toNatClampNeg) &&& (63 : Int32)) = (30 : Int32) then (L_law_J1222 σ L xs x3 (L_law_L18 L xs k1599 n) k1599) else if ((xs x3.toNatClampNeg) &&& (63 : Int32)) = (31 : Int32) then (L_law_J1265 σ L xs x3 (L_law_L18 L xs k1599 n) k1599) else if ((xs x3.toNatClampNeg) &&& (63 : Int32)) = (32 : Int32) then (L_law_J1298 σ L xs x3 (L_law_L18 L xs k1599 n) k1599) else if ((xs x3.toNatClampNeg) &&& (63 : Int32)) = (33 : Int32) then (L_law_J1321 σ L xs x3 (L_law_L18 L xs k1599 n) k1599) else if ((xs x3.toNatClampNeg) &&& (63 : Int32)) = (34 : Int32) then (L_law_J1344 σ L xs x3 (L_law_L18 L xs k1599 n) k1599) else if ((xs x3.toNatClampNeg) &&& (63 : Int32)) = (35 : Int32) then (L_law_J1367 σ L xs x3 (L_law_L18 L xs k1599 n) k1599) else if ((xs x3.toNatClampNeg) &&& (63 : Int32)) = (36 : Int32) then (L_law_J1400 σ L xs x3 (L_law_L18 L xs k1599 n) k1599) else if ((xs x3.toNatClampNeg) &&& (63 : Int32)) = (37 : Int32) then (L_law_J1433 σ L xs x3 (L_law_L18 L xs k1599 n) k1599) else if ((xs x3.toNatClampNeg) &&& (63 : Int32)) = (38 : Int32) then (L_law_J1456 σ L xs x3 (L_law_L18 L xs k1599 n) k1599) else if ((xs x3.toNatClampNeg) &&& (63 : Int32)) = (39 : Int32) then (L_law_J1479 σ L xs x3 (L_law_L18 L xs k1599 n) k1599) else if ((xs x3.toNatClampNeg) &&& (63 : Int32)) = (40 : Int32) then (L_law_J1492 σ L xs x3 (L_law_L18 L xs k1599 n) k1599) else if ((xs x3.toNatClampNeg) &&& (63 : Int32)) = (41 : Int32) then (L_law_J1506 σ L xs x3 (L_law_L18 L xs k1599 n) k1599) else if ((xs x3.toNatClampNeg) &&& (63 : Int32)) = (42 : Int32) then (L_law_J1520 σ L xs x3 (L_law_L18 L xs k1599 n) k1599) else if ((xs x3.toNatClampNeg) &&& (63 : Int32)) = (43 : Int32) then (L_law_J1543 σ L xs x3 (L_law_L18 L xs k1599 n) k1599) else if ((xs x3.toNatClampNeg) &&& (63 : Int32)) = (44 : Int32) then (L_law_J1556 σ L xs x3 (L_law_L18 L xs k1599 n) k1599) else if ((xs x3.toNatClampNeg) &&& (63 : Int32)) = (45 : Int32) then (L_law_J1579 σ L xs x3 (L_law_L18 L xs k1599 n) k1599) else (L_law_L18 L xs k1599 n σ ((x3 + (6 : Int32))))))
set_option maxRecDepth 100000 in
set_option maxHeartbeats 4000000 in
theorem t_L_law_J232 (X : GX) (hAD : hADp X) (σ : Mem) (L : Nat) (xs : Nat → Int32) (x3 : Int32) (b : Nat) (hSC : SC X b L xs) (kb : Mem → Int32 → Option (Mem × Unit)) (k1599 : Mem → Option (Mem × Unit)) (hkb : ∀ (σ : Mem) (y3 : Int32), GS (lawK X) X mL_law σ 18 [(0, .ref b), (1, .ref (xad X (0))), (2, .ref (xad X (98))), (3, .int y3)] [] (kb σ y3)) (hk1599 : ∀ (σ : Mem), GS (lawK X) X mL_law σ 1599 [] [] (k1599 σ)) : GS (lawK X) X mL_law σ 232 [(0, .ref b), (1, .ref (xad X (0))), (2, .ref (xad X (98))), (3, .int x3)] [] (L_law_J232 σ L xs x3 kb k1599) := by
  unfold L_law_J232
  refine g_aload_n 1 dL_law_232 rfl ?_
  refine g_aload_n 0 dL_law_233 rfl ?_
  refine g_iload_n 3 dL_law_234 rfl ?_
  refine g_iconst (1 : Int32) dL_law_235 (by decide) ?_
  refine g_iadd dL_law_236 ?_
  refine g_sld hSC dL_law_237 (fun _ => ?_)
  refine g_aload_n 0 dL_law_238 rfl ?_
  refine g_iload_n 3 dL_law_239 rfl ?_
  refine g_iconst (2 : Int32) dL_law_240 (by decide) ?_
  refine g_iadd dL_law_241 ?_
  refine g_sld hSC dL_law_242 (fun _ => ?_)
  refine g_callVI (c_X7_row σ ((xs (x3 + (1 : Int32)).toNatClampNeg)) ((xs (x3 + (2 : Int32)).toNatClampNeg))) okX7_row ⟨by decide, by decide⟩ ml_L_13 sh_0 no_0 rfl rfl [.int ((xs (x3 + (1 : Int32)).toNatClampNeg)), .int ((xs (x3 + (2 : Int32)).toNatClampNeg))] rfl rfl rfl (Nat.le_of_ble_eq_true rfl) dL_law_243 (fun q1 => ?_)
  refine g_aload_n 2 dL_law_246 rfl ?_
  refine g_aload_n 0 dL_law_247 rfl ?_
  refine g_iload_n 3 dL_law_248 rfl ?_
  refine g_iconst (1 : Int32) dL_law_249 (by decide) ?_
  refine g_iadd dL_law_250 ?_
  refine g_sld hSC dL_law_251 (fun _ => ?_)
  refine g_aload_n 0 dL_law_252 rfl ?_
  refine g_iload_n 3 dL_law_253 rfl ?_
  refine g_iconst (2 : Int32) dL_law_254 (by decide) ?_
  refine g_iadd dL_law_255 ?_
  refine g_sld hSC dL_law_256 (fun _ => ?_)
  refine g_callVI (c_X8_row q1.1 ((xs (x3 + (1 : Int32)).toNatClampNeg)) ((xs (x3 + (2 : Int32)).toNatClampNeg))) okX8_row ⟨by decide, by decide⟩ ml_L_17 sh_98 no_98 rfl rfl [.int ((xs (x3 + (1 : Int32)).toNatClampNeg)), .int ((xs (x3 + (2 : Int32)).toNatClampNeg))] rfl rfl rfl (Nat.le_of_ble_eq_true rfl) dL_law_257 (fun q2 => ?_)
  refine g_icmp_eq 1593 dL_law_260 rfl (fun _ => ?_) (fun _ => ?_)
  · refine g_iinc 3 [(3, .int ((x3 + (6 : Int32)))), (0, .ref b), (1, .ref (xad X (0))), (2, .ref (xad X (98)))] dL_law_1593 rfl (v := x3 + (6 : Int32)) rfl (by decide) rfl ?_
    refine g_goto 18 dL_law_1596 rfl ?_
    refine g_sub [1, 2, 3, 0] rfl ?_
    exact hkb q2.1 ((x3 + (6 : Int32)))
  · refine g_iconst (0 : Int32) dL_law_263 (by decide) ?_
    exact g_none

set_option maxRecDepth 100000 in
set_option maxHeartbeats 4000000 in
theorem t_L_law_J265 (X : GX) (hAD : hADp X) (σ : Mem) (L : Nat) (xs : Nat → Int32) (x3 : Int32) (b : Nat) (hSC : SC X b L xs) (kb : Mem → Int32 → Option (Mem × Unit)) (k1599 : Mem → Option (Mem × Unit)) (hkb : ∀ (σ : Mem) (y3 : Int32), GS (lawK X) X mL_law σ 18 [(0, .ref b), (1, .ref (xad X (0))), (2, .ref (xad X (98))), (3, .int y3)] [] (kb σ y3)) (hk1599 : ∀ (σ : Mem), GS (lawK X) X mL_law σ 1599 [] [] (k1599 σ)) : GS (lawK X) X mL_law σ 265 [(0, .ref b), (1, .ref (xad X (0))), (2, .ref (xad X (98))), (3, .int x3)] [] (L_law_J265 σ L xs x3 kb k1599) := by
  unfold L_law_J265
  refine g_aload_n 1 dL_law_265 rfl ?_
  refine g_aload_n 0 dL_law_266 rfl ?_
  refine g_iload_n 3 dL_law_267 rfl ?_
  refine g_iconst (1 : Int32) dL_law_268 (by decide) ?_
  refine g_iadd dL_law_269 ?_
  refine g_sld hSC dL_law_270 (fun _ => ?_)
  refine g_aload_n 0 dL_law_271 rfl ?_
  refine g_iload_n 3 dL_law_272 rfl ?_
  refine g_iconst (2 : Int32) dL_law_273 (by decide) ?_
  refine g_iadd dL_law_274 ?_
  refine g_sld hSC dL_law_275 (fun _ => ?_)
  refine g_aload_n 0 dL_law_276 rfl ?_
  refine g_iload_n 3 dL_law_277 rfl ?_
  refine g_iconst (3 : Int32) dL_law_278 (by decide) ?_
  refine g_iadd dL_law_279 ?_
  refine g_sld hSC dL_law_280 (fun _ => ?_)
  refine g_callVI (c_X7_lay σ ((xs (x3 + (1 : Int32)).toNatClampNeg)) ((xs (x3 + (2 : Int32)).toNatClampNeg)) ((xs (x3 + (3 : Int32)).toNatClampNeg))) okX7_lay ⟨by decide, by decide⟩ ml_L_18 sh_0 no_0 rfl rfl [.int ((xs (x3 + (1 : Int32)).toNatClampNeg)), .int ((xs (x3 + (2 : Int32)).toNatClampNeg)), .int ((xs (x3 + (3 : Int32)).toNatClampNeg))] rfl rfl rfl (Nat.le_of_ble_eq_true rfl) dL_law_281 (fun q5 => ?_)
  refine g_aload_n 2 dL_law_284 rfl ?_
  refine g_aload_n 0 dL_law_285 rfl ?_
  refine g_iload_n 3 dL_law_286 rfl ?_
  refine g_iconst (1 : Int32) dL_law_287 (by decide) ?_
  refine g_iadd dL_law_288 ?_
  refine g_sld hSC dL_law_289 (fun _ => ?_)
  refine g_aload_n 0 dL_law_290 rfl ?_
  refine g_iload_n 3 dL_law_291 rfl ?_
  refine g_iconst (2 : Int32) dL_law_292 (by decide) ?_
  refine g_iadd dL_law_293 ?_
  refine g_sld hSC dL_law_294 (fun _ => ?_)
  refine g_aload_n 0 dL_law_295 rfl ?_
  refine g_iload_n 3 dL_law_296 rfl ?_
  refine g_iconst (3 : Int32) dL_law_297 (by decide) ?_
  refine g_iadd dL_law_298 ?_
  refine g_sld hSC dL_law_299 (fun _ => ?_)
  refine g_callVI (c_X8_lay q5.1 ((xs (x3 + (1 : Int32)).toNatClampNeg)) ((xs (x3 + (2 : Int32)).toNatClampNeg)) ((xs (x3 + (3 : Int32)).toNatClampNeg))) okX8_lay ⟨by decide, by decide⟩ ml_L_22 sh_98 no_98 rfl rfl [.int ((xs (x3 + (1 : Int32)).toNatClampNeg)), .int ((xs (x3 + (2 : Int32)).toNatClampNeg)), .int ((xs (x3 + (3 : Int32)).toNatClampNeg))] rfl rfl rfl (Nat.le_of_ble_eq_true rfl) dL_law_300 (fun q6 => ?_)
  refine g_icmp_eq 1593 dL_law_303 rfl (fun _ => ?_) (fun _ => ?_)
  · refine g_iinc 3 [(3, .int ((x3 + (6 : Int32)))), (0, .ref b), (1, .ref (xad X (0))), (2, .ref (xad X (98)))] dL_law_1593 rfl (v := x3 + (6 : Int32)) rfl (by decide) rfl ?_
    refine g_goto 18 dL_law_1596 rfl ?_
    refine g_sub [1, 2, 3, 0] rfl ?_
    exact hkb q6.1 ((x3 + (6 : Int32)))
  · refine g_iconst (0 : Int32) dL_law_306 (by decide) ?_
    exact g_none

set_option maxRecDepth 100000 in
set_option maxHeartbeats 4000000 in
theorem t_L_law_J308 (X : GX) (hAD : hADp X) (σ : Mem) (L : Nat) (xs : Nat → Int32) (x3 : Int32) (b : Nat) (hSC : SC X b L xs) (kb : Mem → Int32 → Option (Mem × Unit)) (k1599 : Mem → Option (Mem × Unit)) (hkb : ∀ (σ : Mem) (y3 : Int32), GS (lawK X) X mL_law σ 18 [(0, .ref b), (1, .ref (xad X (0))), (2, .ref (xad X (98))), (3, .int y3)] [] (kb σ y3)) (hk1599 : ∀ (σ : Mem), GS (lawK X) X mL_law σ 1599 [] [] (k1599 σ)) : GS (lawK X) X mL_law σ 308 [(0, .ref b), (1, .ref (xad X (0))), (2, .ref (xad X (98))), (3, .int x3)] [] (L_law_J308 σ L xs x3 kb k1599) := by
  unfold L_law_J308
  refine g_aload_n 1 dL_law_308 rfl ?_
  refine g_aload_n 0 dL_law_309 rfl ?_
  refine g_iload_n 3 dL_law_310 rfl ?_
  refine g_iconst (1 : Int32) dL_law_311 (by decide) ?_
  refine g_iadd dL_law_312 ?_
  refine g_sld hSC dL_law_313 (fun _ => ?_)
  refine g_aload_n 0 dL_law_314 rfl ?_
  refine g_iload_n 3 dL_law_315 rfl ?_
  refine g_iconst (2 : Int32) dL_law_316 (by decide) ?_
  refine g_iadd dL_law_317 ?_
  refine g_sld hSC dL_law_318 (fun _ => ?_)
  refine g_callVI (c_X7_at σ ((xs (x3 + (1 : Int32)).toNatClampNeg)) ((xs (x3 + (2 : Int32)).toNatClampNeg))) okX7_at ⟨by decide, by decide⟩ ml_L_23 sh_0 no_0 rfl rfl [.int ((xs (x3 + (1 : Int32)).toNatClampNeg)), .int ((xs (x3 + (2 : Int32)).toNatClampNeg))] rfl rfl rfl (Nat.le_of_ble_eq_true rfl) dL_law_319 (fun q9 => ?_)
  refine g_aload_n 2 dL_law_322 rfl ?_
  refine g_aload_n 0 dL_law_323 rfl ?_
  refine g_iload_n 3 dL_law_324 rfl ?_
  refine g_iconst (1 : Int32) dL_law_325 (by decide) ?_
  refine g_iadd dL_law_326 ?_
  refine g_sld hSC dL_law_327 (fun _ => ?_)
  refine g_aload_n 0 dL_law_328 rfl ?_
  refine g_iload_n 3 dL_law_329 rfl ?_
  refine g_iconst (2 : Int32) dL_law_330 (by decide) ?_
  refine g_iadd dL_law_331 ?_
  refine g_sld hSC dL_law_332 (fun _ => ?_)
  refine g_callVI (c_X8_at q9.1 ((xs (x3 + (1 : Int32)).toNatClampNeg)) ((xs (x3 + (2 : Int32)).toNatClampNeg))) okX8_at ⟨by decide, by decide⟩ ml_L_26 sh_98 no_98 rfl rfl [.int ((xs (x3 + (1 : Int32)).toNatClampNeg)), .int ((xs (x3 + (2 : Int32)).toNatClampNeg))] rfl rfl rfl (Nat.le_of_ble_eq_true rfl) dL_law_333 (fun q10 => ?_)
  refine g_icmp_eq 1593 dL_law_336 rfl (fun _ => ?_) (fun _ => ?_)
  · refine g_iinc 3 [(3, .int ((x3 + (6 : Int32)))), (0, .ref b), (1, .ref (xad X (0))), (2, .ref (xad X (98)))] dL_law_1593 rfl (v := x3 + (6 : Int32)) rfl (by decide) rfl ?_
    refine g_goto 18 dL_law_1596 rfl ?_
    refine g_sub [1, 2, 3, 0] rfl ?_
    exact hkb q10.1 ((x3 + (6 : Int32)))
  · refine g_iconst (0 : Int32) dL_law_339 (by decide) ?_
    exact g_none

set_option maxRecDepth 100000 in
set_option maxHeartbeats 4000000 in
theorem t_L_law_J341 (X : GX) (hAD : hADp X) (σ : Mem) (L : Nat) (xs : Nat → Int32) (x3 : Int32) (b : Nat) (hSC : SC X b L xs) (kb : Mem → Int32 → Option (Mem × Unit)) (k1599 : Mem → Option (Mem × Unit)) (hkb : ∀ (σ : Mem) (y3 : Int32), GS (lawK X) X mL_law σ 18 [(0, .ref b), (1, .ref (xad X (0))), (2, .ref (xad X (98))), (3, .int y3)] [] (kb σ y3)) (hk1599 : ∀ (σ : Mem), GS (lawK X) X mL_law σ 1599 [] [] (k1599 σ)) : GS (lawK X) X mL_law σ 341 [(0, .ref b), (1, .ref (xad X (0))), (2, .ref (xad X (98))), (3, .int x3)] [] (L_law_J341 σ L xs x3 kb k1599) := by
  unfold L_law_J341
  refine g_aload_n 1 dL_law_341 rfl ?_
  refine g_aload_n 0 dL_law_342 rfl ?_
  refine g_iload_n 3 dL_law_343 rfl ?_
  refine g_iconst (1 : Int32) dL_law_344 (by decide) ?_
  refine g_iadd dL_law_345 ?_
  refine g_sld hSC dL_law_346 (fun _ => ?_)
  refine g_callVI (c_X7_tear σ ((xs (x3 + (1 : Int32)).toNatClampNeg))) okX7_tear ⟨by decide, by decide⟩ ml_L_27 sh_0 no_0 rfl rfl [.int ((xs (x3 + (1 : Int32)).toNatClampNeg))] rfl rfl rfl (Nat.le_of_ble_eq_true rfl) dL_law_347 (fun q13 => ?_)
  refine g_aload_n 2 dL_law_350 rfl ?_
  refine g_aload_n 0 dL_law_351 rfl ?_
  refine g_iload_n 3 dL_law_352 rfl ?_
  refine g_iconst (1 : Int32) dL_law_353 (by decide) ?_
  refine g_iadd dL_law_354 ?_
  refine g_sld hSC dL_law_355 (fun _ => ?_)
  refine g_callVI (c_X8_tear q13.1 ((xs (x3 + (1 : Int32)).toNatClampNeg))) okX8_tear ⟨by decide, by decide⟩ ml_L_31 sh_98 no_98 rfl rfl [.int ((xs (x3 + (1 : Int32)).toNatClampNeg))] rfl rfl rfl (Nat.le_of_ble_eq_true rfl) dL_law_356 (fun q14 => ?_)
  refine g_icmp_eq 1593 dL_law_359 rfl (fun _ => ?_) (fun _ => ?_)
  · refine g_iinc 3 [(3, .int ((x3 + (6 : Int32)))), (0, .ref b), (1, .ref (xad X (0))), (2, .ref (xad X (98)))] dL_law_1593 rfl (v := x3 + (6 : Int32)) rfl (by decide) rfl ?_
    refine g_goto 18 dL_law_1596 rfl ?_
    refine g_sub [1, 2, 3, 0] rfl ?_
    exact hkb q14.1 ((x3 + (6 : Int32)))
  · refine g_iconst (0 : Int32) dL_law_362 (by decide) ?_
    exact g_none

set_option maxRecDepth 100000 in
set_option maxHeartbeats 4000000 in
theorem t_L_law_J364 (X : GX) (hAD : hADp X) (σ : Mem) (L : Nat) (xs : Nat → Int32) (x3 : Int32) (b : Nat) (hSC : SC X b L xs) (kb : Mem → Int32 → Option (Mem × Unit)) (k1599 : Mem → Option (Mem × Unit)) (hkb : ∀ (σ : Mem) (y3 : Int32), GS (lawK X) X mL_law σ 18 [(0, .ref b), (1, .ref (xad X (0))), (2, .ref (xad X (98))), (3, .int y3)] [] (kb σ y3)) (hk1599 : ∀ (σ : Mem), GS (lawK X) X mL_law σ 1599 [] [] (k1599 σ)) : GS (lawK X) X mL_law σ 364 [(0, .ref b), (1, .ref (xad X (0))), (2, .ref (xad X (98))), (3, .int x3)] [] (L_law_J364 σ L xs x3 kb k1599) := by
  unfold L_law_J364
  refine g_aload_n 1 dL_law_364 rfl ?_
  refine g_aload_n 0 dL_law_365 rfl ?_
  refine g_iload_n 3 dL_law_366 rfl ?_
  refine g_iconst (1 : Int32) dL_law_367 (by decide) ?_
  refine g_iadd dL_law_368 ?_
  refine g_sld hSC dL_law_369 (fun _ => ?_)
  refine g_aload_n 0 dL_law_370 rfl ?_
  refine g_iload_n 3 dL_law_371 rfl ?_
  refine g_iconst (2 : Int32) dL_law_372 (by decide) ?_
  refine g_iadd dL_law_373 ?_
  refine g_sld hSC dL_law_374 (fun _ => ?_)
  refine g_aload_n 0 dL_law_375 rfl ?_
  refine g_iload_n 3 dL_law_376 rfl ?_
  refine g_iconst (3 : Int32) dL_law_377 (by decide) ?_
  refine g_iadd dL_law_378 ?_
  refine g_sld hSC dL_law_379 (fun _ => ?_)
  refine g_aload_n 0 dL_law_380 rfl ?_
  refine g_iload_n 3 dL_law_381 rfl ?_
  refine g_iconst (4 : Int32) dL_law_382 (by decide) ?_
  refine g_iadd dL_law_383 ?_
  refine g_sld hSC dL_law_384 (fun _ => ?_)
  refine g_aload_n 0 dL_law_385 rfl ?_
  refine g_iload_n 3 dL_law_386 rfl ?_
  refine g_iconst (5 : Int32) dL_law_387 (by decide) ?_
  refine g_iadd dL_law_388 ?_
  refine g_sld hSC dL_law_389 (fun _ => ?_)
  refine g_callVI (c_X7_copy σ ((xs (x3 + (1 : Int32)).toNatClampNeg)) ((xs (x3 + (2 : Int32)).toNatClampNeg)) ((xs (x3 + (3 : Int32)).toNatClampNeg)) ((xs (x3 + (4 : Int32)).toNatClampNeg)) ((xs (x3 + (5 : Int32)).toNatClampNeg))) okX7_copy ⟨by decide, by decide⟩ ml_L_32 sh_0 no_0 rfl rfl [.int ((xs (x3 + (1 : Int32)).toNatClampNeg)), .int ((xs (x3 + (2 : Int32)).toNatClampNeg)), .int ((xs (x3 + (3 : Int32)).toNatClampNeg)), .int ((xs (x3 + (4 : Int32)).toNatClampNeg)), .int ((xs (x3 + (5 : Int32)).toNatClampNeg))] rfl rfl rfl (Nat.le_of_ble_eq_true rfl) dL_law_390 (fun q17 => ?_)
  refine g_aload_n 2 dL_law_393 rfl ?_
  refine g_aload_n 0 dL_law_394 rfl ?_
  refine g_iload_n 3 dL_law_395 rfl ?_
  refine g_iconst (1 : Int32) dL_law_396 (by decide) ?_
  refine g_iadd dL_law_397 ?_
  refine g_sld hSC dL_law_398 (fun _ => ?_)
  refine g_aload_n 0 dL_law_399 rfl ?_
  refine g_iload_n 3 dL_law_400 rfl ?_
  refine g_iconst (2 : Int32) dL_law_401 (by decide) ?_
  refine g_iadd dL_law_402 ?_
  refine g_sld hSC dL_law_403 (fun _ => ?_)
  refine g_aload_n 0 dL_law_404 rfl ?_
  refine g_iload_n 3 dL_law_405 rfl ?_
  refine g_iconst (3 : Int32) dL_law_406 (by decide) ?_
  refine g_iadd dL_law_407 ?_
  refine g_sld hSC dL_law_408 (fun _ => ?_)
  refine g_aload_n 0 dL_law_409 rfl ?_
  refine g_iload_n 3 dL_law_410 rfl ?_
  refine g_iconst (4 : Int32) dL_law_411 (by decide) ?_
  refine g_iadd dL_law_412 ?_
  refine g_sld hSC dL_law_413 (fun _ => ?_)
  refine g_aload_n 0 dL_law_414 rfl ?_
  refine g_iload_n 3 dL_law_415 rfl ?_
  refine g_iconst (5 : Int32) dL_law_416 (by decide) ?_
  refine g_iadd dL_law_417 ?_
  refine g_sld hSC dL_law_418 (fun _ => ?_)
  refine g_callVI (c_X8_copy q17.1 ((xs (x3 + (1 : Int32)).toNatClampNeg)) ((xs (x3 + (2 : Int32)).toNatClampNeg)) ((xs (x3 + (3 : Int32)).toNatClampNeg)) ((xs (x3 + (4 : Int32)).toNatClampNeg)) ((xs (x3 + (5 : Int32)).toNatClampNeg))) okX8_copy ⟨by decide, by decide⟩ ml_L_36 sh_98 no_98 rfl rfl [.int ((xs (x3 + (1 : Int32)).toNatClampNeg)), .int ((xs (x3 + (2 : Int32)).toNatClampNeg)), .int ((xs (x3 + (3 : Int32)).toNatClampNeg)), .int ((xs (x3 + (4 : Int32)).toNatClampNeg)), .int ((xs (x3 + (5 : Int32)).toNatClampNeg))] rfl rfl rfl (Nat.le_of_ble_eq_true rfl) dL_law_419 (fun q18 => ?_)
  refine g_icmp_eq 1593 dL_law_422 rfl (fun _ => ?_) (fun _ => ?_)
  · refine g_iinc 3 [(3, .int ((x3 + (6 : Int32)))), (0, .ref b), (1, .ref (xad X (0))), (2, .ref (xad X (98)))] dL_law_1593 rfl (v := x3 + (6 : Int32)) rfl (by decide) rfl ?_
    refine g_goto 18 dL_law_1596 rfl ?_
    refine g_sub [1, 2, 3, 0] rfl ?_
    exact hkb q18.1 ((x3 + (6 : Int32)))
  · refine g_iconst (0 : Int32) dL_law_425 (by decide) ?_
    exact g_none

set_option maxRecDepth 100000 in
set_option maxHeartbeats 4000000 in
theorem t_L_law_J427 (X : GX) (hAD : hADp X) (σ : Mem) (L : Nat) (xs : Nat → Int32) (x3 : Int32) (b : Nat) (hSC : SC X b L xs) (kb : Mem → Int32 → Option (Mem × Unit)) (k1599 : Mem → Option (Mem × Unit)) (hkb : ∀ (σ : Mem) (y3 : Int32), GS (lawK X) X mL_law σ 18 [(0, .ref b), (1, .ref (xad X (0))), (2, .ref (xad X (98))), (3, .int y3)] [] (kb σ y3)) (hk1599 : ∀ (σ : Mem), GS (lawK X) X mL_law σ 1599 [] [] (k1599 σ)) : GS (lawK X) X mL_law σ 427 [(0, .ref b), (1, .ref (xad X (0))), (2, .ref (xad X (98))), (3, .int x3)] [] (L_law_J427 σ L xs x3 kb k1599) := by
  unfold L_law_J427
  refine g_aload_n 1 dL_law_427 rfl ?_
  refine g_aload_n 0 dL_law_428 rfl ?_
  refine g_iload_n 3 dL_law_429 rfl ?_
  refine g_iconst (1 : Int32) dL_law_430 (by decide) ?_
  refine g_iadd dL_law_431 ?_
  refine g_sld hSC dL_law_432 (fun _ => ?_)
  refine g_callVI (c_X7_mean σ ((xs (x3 + (1 : Int32)).toNatClampNeg))) okX7_mean ⟨by decide, by decide⟩ ml_L_37 sh_0 no_0 rfl rfl [.int ((xs (x3 + (1 : Int32)).toNatClampNeg))] rfl rfl rfl (Nat.le_of_ble_eq_true rfl) dL_law_433 (fun q21 => ?_)
  refine g_aload_n 2 dL_law_436 rfl ?_
  refine g_aload_n 0 dL_law_437 rfl ?_
  refine g_iload_n 3 dL_law_438 rfl ?_
  refine g_iconst (1 : Int32) dL_law_439 (by decide) ?_
  refine g_iadd dL_law_440 ?_
  refine g_sld hSC dL_law_441 (fun _ => ?_)
  refine g_callVI (c_X8_mean q21.1 ((xs (x3 + (1 : Int32)).toNatClampNeg))) okX8_mean ⟨by decide, by decide⟩ ml_L_40 sh_98 no_98 rfl rfl [.int ((xs (x3 + (1 : Int32)).toNatClampNeg))] rfl rfl rfl (Nat.le_of_ble_eq_true rfl) dL_law_442 (fun q22 => ?_)
  refine g_icmp_eq 1593 dL_law_445 rfl (fun _ => ?_) (fun _ => ?_)
  · refine g_iinc 3 [(3, .int ((x3 + (6 : Int32)))), (0, .ref b), (1, .ref (xad X (0))), (2, .ref (xad X (98)))] dL_law_1593 rfl (v := x3 + (6 : Int32)) rfl (by decide) rfl ?_
    refine g_goto 18 dL_law_1596 rfl ?_
    refine g_sub [1, 2, 3, 0] rfl ?_
    exact hkb q22.1 ((x3 + (6 : Int32)))
  · refine g_iconst (0 : Int32) dL_law_448 (by decide) ?_
    exact g_none

set_option maxRecDepth 100000 in
set_option maxHeartbeats 4000000 in
theorem t_L_law_J450 (X : GX) (hAD : hADp X) (σ : Mem) (L : Nat) (xs : Nat → Int32) (x3 : Int32) (b : Nat) (hSC : SC X b L xs) (kb : Mem → Int32 → Option (Mem × Unit)) (k1599 : Mem → Option (Mem × Unit)) (hkb : ∀ (σ : Mem) (y3 : Int32), GS (lawK X) X mL_law σ 18 [(0, .ref b), (1, .ref (xad X (0))), (2, .ref (xad X (98))), (3, .int y3)] [] (kb σ y3)) (hk1599 : ∀ (σ : Mem), GS (lawK X) X mL_law σ 1599 [] [] (k1599 σ)) : GS (lawK X) X mL_law σ 450 [(0, .ref b), (1, .ref (xad X (0))), (2, .ref (xad X (98))), (3, .int x3)] [] (L_law_J450 σ L xs x3 kb k1599) := by
  unfold L_law_J450
  refine g_aload_n 1 dL_law_450 rfl ?_
  refine g_aload_n 0 dL_law_451 rfl ?_
  refine g_iload_n 3 dL_law_452 rfl ?_
  refine g_iconst (1 : Int32) dL_law_453 (by decide) ?_
  refine g_iadd dL_law_454 ?_
  refine g_sld hSC dL_law_455 (fun _ => ?_)
  refine g_aload_n 0 dL_law_456 rfl ?_
  refine g_iload_n 3 dL_law_457 rfl ?_
  refine g_iconst (2 : Int32) dL_law_458 (by decide) ?_
  refine g_iadd dL_law_459 ?_
  refine g_sld hSC dL_law_460 (fun _ => ?_)
  refine g_callVI (c_X7_text σ ((xs (x3 + (1 : Int32)).toNatClampNeg)) ((xs (x3 + (2 : Int32)).toNatClampNeg))) okX7_text ⟨by decide, by decide⟩ ml_L_41 sh_0 no_0 rfl rfl [.int ((xs (x3 + (1 : Int32)).toNatClampNeg)), .int ((xs (x3 + (2 : Int32)).toNatClampNeg))] rfl rfl rfl (Nat.le_of_ble_eq_true rfl) dL_law_461 (fun q25 => ?_)
  refine g_aload_n 2 dL_law_464 rfl ?_
  refine g_aload_n 0 dL_law_465 rfl ?_
  refine g_iload_n 3 dL_law_466 rfl ?_
  refine g_iconst (1 : Int32) dL_law_467 (by decide) ?_
  refine g_iadd dL_law_468 ?_
  refine g_sld hSC dL_law_469 (fun _ => ?_)
  refine g_aload_n 0 dL_law_470 rfl ?_
  refine g_iload_n 3 dL_law_471 rfl ?_
  refine g_iconst (2 : Int32) dL_law_472 (by decide) ?_
  refine g_iadd dL_law_473 ?_
  refine g_sld hSC dL_law_474 (fun _ => ?_)
  refine g_callVI (c_X8_text q25.1 ((xs (x3 + (1 : Int32)).toNatClampNeg)) ((xs (x3 + (2 : Int32)).toNatClampNeg))) okX8_text ⟨by decide, by decide⟩ ml_L_44 sh_98 no_98 rfl rfl [.int ((xs (x3 + (1 : Int32)).toNatClampNeg)), .int ((xs (x3 + (2 : Int32)).toNatClampNeg))] rfl rfl rfl (Nat.le_of_ble_eq_true rfl) dL_law_475 (fun q26 => ?_)
  refine g_icmp_eq 1593 dL_law_478 rfl (fun _ => ?_) (fun _ => ?_)
  · refine g_iinc 3 [(3, .int ((x3 + (6 : Int32)))), (0, .ref b), (1, .ref (xad X (0))), (2, .ref (xad X (98)))] dL_law_1593 rfl (v := x3 + (6 : Int32)) rfl (by decide) rfl ?_
    refine g_goto 18 dL_law_1596 rfl ?_
    refine g_sub [1, 2, 3, 0] rfl ?_
    exact hkb q26.1 ((x3 + (6 : Int32)))
  · refine g_iconst (0 : Int32) dL_law_481 (by decide) ?_
    exact g_none

set_option maxRecDepth 100000 in
set_option maxHeartbeats 4000000 in
theorem t_L_law_J483 (X : GX) (hAD : hADp X) (σ : Mem) (L : Nat) (xs : Nat → Int32) (x3 : Int32) (b : Nat) (hSC : SC X b L xs) (kb : Mem → Int32 → Option (Mem × Unit)) (k1599 : Mem → Option (Mem × Unit)) (hkb : ∀ (σ : Mem) (y3 : Int32), GS (lawK X) X mL_law σ 18 [(0, .ref b), (1, .ref (xad X (0))), (2, .ref (xad X (98))), (3, .int y3)] [] (kb σ y3)) (hk1599 : ∀ (σ : Mem), GS (lawK X) X mL_law σ 1599 [] [] (k1599 σ)) : GS (lawK X) X mL_law σ 483 [(0, .ref b), (1, .ref (xad X (0))), (2, .ref (xad X (98))), (3, .int x3)] [] (L_law_J483 σ L xs x3 kb k1599) := by
  unfold L_law_J483
  refine g_aload_n 1 dL_law_483 rfl ?_
  refine g_aload_n 0 dL_law_484 rfl ?_
  refine g_iload_n 3 dL_law_485 rfl ?_
  refine g_iconst (1 : Int32) dL_law_486 (by decide) ?_
  refine g_iadd dL_law_487 ?_
  refine g_sld hSC dL_law_488 (fun _ => ?_)
  refine g_aload_n 0 dL_law_489 rfl ?_
  refine g_iload_n 3 dL_law_490 rfl ?_
  refine g_iconst (2 : Int32) dL_law_491 (by decide) ?_
  refine g_iadd dL_law_492 ?_
  refine g_sld hSC dL_law_493 (fun _ => ?_)
  refine g_aload_n 0 dL_law_494 rfl ?_
  refine g_iload_n 3 dL_law_495 rfl ?_
  refine g_iconst (3 : Int32) dL_law_496 (by decide) ?_
  refine g_iadd dL_law_497 ?_
  refine g_sld hSC dL_law_498 (fun _ => ?_)
  refine g_callVI (c_X7_put σ ((xs (x3 + (1 : Int32)).toNatClampNeg)) ((xs (x3 + (2 : Int32)).toNatClampNeg)) ((xs (x3 + (3 : Int32)).toNatClampNeg))) okX7_put ⟨by decide, by decide⟩ ml_L_45 sh_0 no_0 rfl rfl [.int ((xs (x3 + (1 : Int32)).toNatClampNeg)), .int ((xs (x3 + (2 : Int32)).toNatClampNeg)), .int ((xs (x3 + (3 : Int32)).toNatClampNeg))] rfl rfl rfl (Nat.le_of_ble_eq_true rfl) dL_law_499 (fun q29 => ?_)
  refine g_aload_n 2 dL_law_502 rfl ?_
  refine g_aload_n 0 dL_law_503 rfl ?_
  refine g_iload_n 3 dL_law_504 rfl ?_
  refine g_iconst (1 : Int32) dL_law_505 (by decide) ?_
  refine g_iadd dL_law_506 ?_
  refine g_sld hSC dL_law_507 (fun _ => ?_)
  refine g_aload_n 0 dL_law_508 rfl ?_
  refine g_iload_n 3 dL_law_509 rfl ?_
  refine g_iconst (2 : Int32) dL_law_510 (by decide) ?_
  refine g_iadd dL_law_511 ?_
  refine g_sld hSC dL_law_512 (fun _ => ?_)
  refine g_aload_n 0 dL_law_513 rfl ?_
  refine g_iload_n 3 dL_law_514 rfl ?_
  refine g_iconst (3 : Int32) dL_law_515 (by decide) ?_
  refine g_iadd dL_law_516 ?_
  refine g_sld hSC dL_law_517 (fun _ => ?_)
  refine g_callVI (c_X8_put q29.1 ((xs (x3 + (1 : Int32)).toNatClampNeg)) ((xs (x3 + (2 : Int32)).toNatClampNeg)) ((xs (x3 + (3 : Int32)).toNatClampNeg))) okX8_put ⟨by decide, by decide⟩ ml_L_48 sh_98 no_98 rfl rfl [.int ((xs (x3 + (1 : Int32)).toNatClampNeg)), .int ((xs (x3 + (2 : Int32)).toNatClampNeg)), .int ((xs (x3 + (3 : Int32)).toNatClampNeg))] rfl rfl rfl (Nat.le_of_ble_eq_true rfl) dL_law_518 (fun q30 => ?_)
  refine g_icmp_eq 1593 dL_law_521 rfl (fun _ => ?_) (fun _ => ?_)
  · refine g_iinc 3 [(3, .int ((x3 + (6 : Int32)))), (0, .ref b), (1, .ref (xad X (0))), (2, .ref (xad X (98)))] dL_law_1593 rfl (v := x3 + (6 : Int32)) rfl (by decide) rfl ?_
    refine g_goto 18 dL_law_1596 rfl ?_
    refine g_sub [1, 2, 3, 0] rfl ?_
    exact hkb q30.1 ((x3 + (6 : Int32)))
  · refine g_iconst (0 : Int32) dL_law_524 (by decide) ?_
    exact g_none

set_option maxRecDepth 100000 in
set_option maxHeartbeats 4000000 in
theorem t_L_law_J526 (X : GX) (hAD : hADp X) (σ : Mem) (L : Nat) (xs : Nat → Int32) (x3 : Int32) (b : Nat) (hSC : SC X b L xs) (kb : Mem → Int32 → Option (Mem × Unit)) (k1599 : Mem → Option (Mem × Unit)) (hkb : ∀ (σ : Mem) (y3 : Int32), GS (lawK X) X mL_law σ 18 [(0, .ref b), (1, .ref (xad X (0))), (2, .ref (xad X (98))), (3, .int y3)] [] (kb σ y3)) (hk1599 : ∀ (σ : Mem), GS (lawK X) X mL_law σ 1599 [] [] (k1599 σ)) : GS (lawK X) X mL_law σ 526 [(0, .ref b), (1, .ref (xad X (0))), (2, .ref (xad X (98))), (3, .int x3)] [] (L_law_J526 σ L xs x3 kb k1599) := by
  unfold L_law_J526
  refine g_aload_n 1 dL_law_526 rfl ?_
  refine g_aload_n 0 dL_law_527 rfl ?_
  refine g_iload_n 3 dL_law_528 rfl ?_
  refine g_iconst (1 : Int32) dL_law_529 (by decide) ?_
  refine g_iadd dL_law_530 ?_
  refine g_sld hSC dL_law_531 (fun _ => ?_)
  refine g_callVI (c_X7_fault σ ((xs (x3 + (1 : Int32)).toNatClampNeg))) okX7_fault ⟨by decide, by decide⟩ ml_L_49 sh_0 no_0 rfl rfl [.int ((xs (x3 + (1 : Int32)).toNatClampNeg))] rfl rfl rfl (Nat.le_of_ble_eq_true rfl) dL_law_532 (fun q33 => ?_)
  refine g_aload_n 2 dL_law_535 rfl ?_
  refine g_aload_n 0 dL_law_536 rfl ?_
  refine g_iload_n 3 dL_law_537 rfl ?_
  refine g_iconst (1 : Int32) dL_law_538 (by decide) ?_
  refine g_iadd dL_law_539 ?_
  refine g_sld hSC dL_law_540 (fun _ => ?_)
  refine g_callVI (c_X8_fault q33.1 ((xs (x3 + (1 : Int32)).toNatClampNeg))) okX8_fault ⟨by decide, by decide⟩ ml_L_52 sh_98 no_98 rfl rfl [.int ((xs (x3 + (1 : Int32)).toNatClampNeg))] rfl rfl rfl (Nat.le_of_ble_eq_true rfl) dL_law_541 (fun q34 => ?_)
  refine g_icmp_eq 1593 dL_law_544 rfl (fun _ => ?_) (fun _ => ?_)
  · refine g_iinc 3 [(3, .int ((x3 + (6 : Int32)))), (0, .ref b), (1, .ref (xad X (0))), (2, .ref (xad X (98)))] dL_law_1593 rfl (v := x3 + (6 : Int32)) rfl (by decide) rfl ?_
    refine g_goto 18 dL_law_1596 rfl ?_
    refine g_sub [1, 2, 3, 0] rfl ?_
    exact hkb q34.1 ((x3 + (6 : Int32)))
  · refine g_iconst (0 : Int32) dL_law_547 (by decide) ?_
    exact g_none

set_option maxRecDepth 100000 in
set_option maxHeartbeats 4000000 in
theorem t_L_law_J549 (X : GX) (hAD : hADp X) (σ : Mem) (L : Nat) (xs : Nat → Int32) (x3 : Int32) (b : Nat) (hSC : SC X b L xs) (kb : Mem → Int32 → Option (Mem × Unit)) (k1599 : Mem → Option (Mem × Unit)) (hkb : ∀ (σ : Mem) (y3 : Int32), GS (lawK X) X mL_law σ 18 [(0, .ref b), (1, .ref (xad X (0))), (2, .ref (xad X (98))), (3, .int y3)] [] (kb σ y3)) (hk1599 : ∀ (σ : Mem), GS (lawK X) X mL_law σ 1599 [] [] (k1599 σ)) : GS (lawK X) X mL_law σ 549 [(0, .ref b), (1, .ref (xad X (0))), (2, .ref (xad X (98))), (3, .int x3)] [] (L_law_J549 σ L xs x3 kb k1599) := by
  unfold L_law_J549
  refine g_aload_n 1 dL_law_549 rfl ?_
  refine g_aload_n 0 dL_law_550 rfl ?_
  refine g_iload_n 3 dL_law_551 rfl ?_
  refine g_iconst (1 : Int32) dL_law_552 (by decide) ?_
  refine g_iadd dL_law_553 ?_
  refine g_sld hSC dL_law_554 (fun _ => ?_)
  refine g_callVI (c_X7_press σ ((xs (x3 + (1 : Int32)).toNatClampNeg))) okX7_press ⟨by decide, by decide⟩ ml_L_53 sh_0 no_0 rfl rfl [.int ((xs (x3 + (1 : Int32)).toNatClampNeg))] rfl rfl rfl (Nat.le_of_ble_eq_true rfl) dL_law_555 (fun q37 => ?_)
  refine g_aload_n 2 dL_law_558 rfl ?_
  refine g_aload_n 0 dL_law_559 rfl ?_
  refine g_iload_n 3 dL_law_560 rfl ?_
  refine g_iconst (1 : Int32) dL_law_561 (by decide) ?_
  refine g_iadd dL_law_562 ?_
  refine g_sld hSC dL_law_563 (fun _ => ?_)
  refine g_callVI (c_X8_press q37.1 ((xs (x3 + (1 : Int32)).toNatClampNeg))) okX8_press ⟨by decide, by decide⟩ ml_L_56 sh_98 no_98 rfl rfl [.int ((xs (x3 + (1 : Int32)).toNatClampNeg))] rfl rfl rfl (Nat.le_of_ble_eq_true rfl) dL_law_564 (fun q38 => ?_)
  refine g_icmp_eq 1593 dL_law_567 rfl (fun _ => ?_) (fun _ => ?_)
  · refine g_iinc 3 [(3, .int ((x3 + (6 : Int32)))), (0, .ref b), (1, .ref (xad X (0))), (2, .ref (xad X (98)))] dL_law_1593 rfl (v := x3 + (6 : Int32)) rfl (by decide) rfl ?_
    refine g_goto 18 dL_law_1596 rfl ?_
    refine g_sub [1, 2, 3, 0] rfl ?_
    exact hkb q38.1 ((x3 + (6 : Int32)))
  · refine g_iconst (0 : Int32) dL_law_570 (by decide) ?_
    exact g_none

set_option maxRecDepth 100000 in
set_option maxHeartbeats 4000000 in
theorem t_L_law_J572 (X : GX) (hAD : hADp X) (σ : Mem) (L : Nat) (xs : Nat → Int32) (x3 : Int32) (b : Nat) (hSC : SC X b L xs) (kb : Mem → Int32 → Option (Mem × Unit)) (k1599 : Mem → Option (Mem × Unit)) (hkb : ∀ (σ : Mem) (y3 : Int32), GS (lawK X) X mL_law σ 18 [(0, .ref b), (1, .ref (xad X (0))), (2, .ref (xad X (98))), (3, .int y3)] [] (kb σ y3)) (hk1599 : ∀ (σ : Mem), GS (lawK X) X mL_law σ 1599 [] [] (k1599 σ)) : GS (lawK X) X mL_law σ 572 [(0, .ref b), (1, .ref (xad X (0))), (2, .ref (xad X (98))), (3, .int x3)] [] (L_law_J572 σ L xs x3 kb k1599) := by
  unfold L_law_J572
  refine g_aload_n 1 dL_law_572 rfl ?_
  refine g_aload_n 0 dL_law_573 rfl ?_
  refine g_iload_n 3 dL_law_574 rfl ?_
  refine g_iconst (1 : Int32) dL_law_575 (by decide) ?_
  refine g_iadd dL_law_576 ?_
  refine g_sld hSC dL_law_577 (fun _ => ?_)
  refine g_aload_n 0 dL_law_578 rfl ?_
  refine g_iload_n 3 dL_law_579 rfl ?_
  refine g_iconst (2 : Int32) dL_law_580 (by decide) ?_
  refine g_iadd dL_law_581 ?_
  refine g_sld hSC dL_law_582 (fun _ => ?_)
  refine g_callVI (c_X7_law σ ((xs (x3 + (1 : Int32)).toNatClampNeg)) ((xs (x3 + (2 : Int32)).toNatClampNeg))) okX7_law ⟨by decide, by decide⟩ ml_L_57 sh_0 no_0 rfl rfl [.int ((xs (x3 + (1 : Int32)).toNatClampNeg)), .int ((xs (x3 + (2 : Int32)).toNatClampNeg))] rfl rfl rfl (Nat.le_of_ble_eq_true rfl) dL_law_583 (fun q41 => ?_)
  refine g_aload_n 2 dL_law_586 rfl ?_
  refine g_aload_n 0 dL_law_587 rfl ?_
  refine g_iload_n 3 dL_law_588 rfl ?_
  refine g_iconst (1 : Int32) dL_law_589 (by decide) ?_
  refine g_iadd dL_law_590 ?_
  refine g_sld hSC dL_law_591 (fun _ => ?_)
  refine g_aload_n 0 dL_law_592 rfl ?_
  refine g_iload_n 3 dL_law_593 rfl ?_
  refine g_iconst (2 : Int32) dL_law_594 (by decide) ?_
  refine g_iadd dL_law_595 ?_
  refine g_sld hSC dL_law_596 (fun _ => ?_)
  refine g_callVI (c_X8_law q41.1 ((xs (x3 + (1 : Int32)).toNatClampNeg)) ((xs (x3 + (2 : Int32)).toNatClampNeg))) okX8_law ⟨by decide, by decide⟩ ml_L_60 sh_98 no_98 rfl rfl [.int ((xs (x3 + (1 : Int32)).toNatClampNeg)), .int ((xs (x3 + (2 : Int32)).toNatClampNeg))] rfl rfl rfl (Nat.le_of_ble_eq_true rfl) dL_law_597 (fun q42 => ?_)
  refine g_icmp_eq 1593 dL_law_600 rfl (fun _ => ?_) (fun _ => ?_)
  · refine g_iinc 3 [(3, .int ((x3 + (6 : Int32)))), (0, .ref b), (1, .ref (xad X (0))), (2, .ref (xad X (98)))] dL_law_1593 rfl (v := x3 + (6 : Int32)) rfl (by decide) rfl ?_
    refine g_goto 18 dL_law_1596 rfl ?_
    refine g_sub [1, 2, 3, 0] rfl ?_
    exact hkb q42.1 ((x3 + (6 : Int32)))
  · refine g_iconst (0 : Int32) dL_law_603 (by decide) ?_
    exact g_none

set_option maxRecDepth 100000 in
set_option maxHeartbeats 4000000 in
theorem t_L_law_J605 (X : GX) (hAD : hADp X) (σ : Mem) (L : Nat) (xs : Nat → Int32) (x3 : Int32) (b : Nat) (hSC : SC X b L xs) (kb : Mem → Int32 → Option (Mem × Unit)) (k1599 : Mem → Option (Mem × Unit)) (hkb : ∀ (σ : Mem) (y3 : Int32), GS (lawK X) X mL_law σ 18 [(0, .ref b), (1, .ref (xad X (0))), (2, .ref (xad X (98))), (3, .int y3)] [] (kb σ y3)) (hk1599 : ∀ (σ : Mem), GS (lawK X) X mL_law σ 1599 [] [] (k1599 σ)) : GS (lawK X) X mL_law σ 605 [(0, .ref b), (1, .ref (xad X (0))), (2, .ref (xad X (98))), (3, .int x3)] [] (L_law_J605 σ L xs x3 kb k1599) := by
  unfold L_law_J605
  refine g_aload_n 1 dL_law_605 rfl ?_
  refine g_aload_n 0 dL_law_606 rfl ?_
  refine g_iload_n 3 dL_law_607 rfl ?_
  refine g_iconst (1 : Int32) dL_law_608 (by decide) ?_
  refine g_iadd dL_law_609 ?_
  refine g_sld hSC dL_law_610 (fun _ => ?_)
  refine g_aload_n 0 dL_law_611 rfl ?_
  refine g_iload_n 3 dL_law_612 rfl ?_
  refine g_iconst (2 : Int32) dL_law_613 (by decide) ?_
  refine g_iadd dL_law_614 ?_
  refine g_sld hSC dL_law_615 (fun _ => ?_)
  refine g_callVI (c_X7_mark σ ((xs (x3 + (1 : Int32)).toNatClampNeg)) ((xs (x3 + (2 : Int32)).toNatClampNeg))) okX7_mark ⟨by decide, by decide⟩ ml_L_61 sh_0 no_0 rfl rfl [.int ((xs (x3 + (1 : Int32)).toNatClampNeg)), .int ((xs (x3 + (2 : Int32)).toNatClampNeg))] rfl rfl rfl (Nat.le_of_ble_eq_true rfl) dL_law_616 (fun q45 => ?_)
  refine g_aload_n 2 dL_law_619 rfl ?_
  refine g_aload_n 0 dL_law_620 rfl ?_
  refine g_iload_n 3 dL_law_621 rfl ?_
  refine g_iconst (1 : Int32) dL_law_622 (by decide) ?_
  refine g_iadd dL_law_623 ?_
  refine g_sld hSC dL_law_624 (fun _ => ?_)
  refine g_aload_n 0 dL_law_625 rfl ?_
  refine g_iload_n 3 dL_law_626 rfl ?_
  refine g_iconst (2 : Int32) dL_law_627 (by decide) ?_
  refine g_iadd dL_law_628 ?_
  refine g_sld hSC dL_law_629 (fun _ => ?_)
  refine g_callVI (c_X8_mark q45.1 ((xs (x3 + (1 : Int32)).toNatClampNeg)) ((xs (x3 + (2 : Int32)).toNatClampNeg))) okX8_mark ⟨by decide, by decide⟩ ml_L_64 sh_98 no_98 rfl rfl [.int ((xs (x3 + (1 : Int32)).toNatClampNeg)), .int ((xs (x3 + (2 : Int32)).toNatClampNeg))] rfl rfl rfl (Nat.le_of_ble_eq_true rfl) dL_law_630 (fun q46 => ?_)
  refine g_icmp_eq 1593 dL_law_633 rfl (fun _ => ?_) (fun _ => ?_)
  · refine g_iinc 3 [(3, .int ((x3 + (6 : Int32)))), (0, .ref b), (1, .ref (xad X (0))), (2, .ref (xad X (98)))] dL_law_1593 rfl (v := x3 + (6 : Int32)) rfl (by decide) rfl ?_
    refine g_goto 18 dL_law_1596 rfl ?_
    refine g_sub [1, 2, 3, 0] rfl ?_
    exact hkb q46.1 ((x3 + (6 : Int32)))
  · refine g_iconst (0 : Int32) dL_law_636 (by decide) ?_
    exact g_none

set_option maxRecDepth 100000 in
set_option maxHeartbeats 4000000 in
theorem t_L_law_J638 (X : GX) (hAD : hADp X) (σ : Mem) (L : Nat) (xs : Nat → Int32) (x3 : Int32) (b : Nat) (hSC : SC X b L xs) (kb : Mem → Int32 → Option (Mem × Unit)) (k1599 : Mem → Option (Mem × Unit)) (hkb : ∀ (σ : Mem) (y3 : Int32), GS (lawK X) X mL_law σ 18 [(0, .ref b), (1, .ref (xad X (0))), (2, .ref (xad X (98))), (3, .int y3)] [] (kb σ y3)) (hk1599 : ∀ (σ : Mem), GS (lawK X) X mL_law σ 1599 [] [] (k1599 σ)) : GS (lawK X) X mL_law σ 638 [(0, .ref b), (1, .ref (xad X (0))), (2, .ref (xad X (98))), (3, .int x3)] [] (L_law_J638 σ L xs x3 kb k1599) := by
  unfold L_law_J638
  refine g_aload_n 1 dL_law_638 rfl ?_
  refine g_aload_n 0 dL_law_639 rfl ?_
  refine g_iload_n 3 dL_law_640 rfl ?_
  refine g_iconst (1 : Int32) dL_law_641 (by decide) ?_
  refine g_iadd dL_law_642 ?_
  refine g_sld hSC dL_law_643 (fun _ => ?_)
  refine g_aload_n 0 dL_law_644 rfl ?_
  refine g_iload_n 3 dL_law_645 rfl ?_
  refine g_iconst (2 : Int32) dL_law_646 (by decide) ?_
  refine g_iadd dL_law_647 ?_
  refine g_sld hSC dL_law_648 (fun _ => ?_)
  refine g_callVI (c_X7_hush σ ((xs (x3 + (1 : Int32)).toNatClampNeg)) ((xs (x3 + (2 : Int32)).toNatClampNeg))) okX7_hush ⟨by decide, by decide⟩ ml_L_65 sh_0 no_0 rfl rfl [.int ((xs (x3 + (1 : Int32)).toNatClampNeg)), .int ((xs (x3 + (2 : Int32)).toNatClampNeg))] rfl rfl rfl (Nat.le_of_ble_eq_true rfl) dL_law_649 (fun q49 => ?_)
  refine g_aload_n 2 dL_law_652 rfl ?_
  refine g_aload_n 0 dL_law_653 rfl ?_
  refine g_iload_n 3 dL_law_654 rfl ?_
  refine g_iconst (1 : Int32) dL_law_655 (by decide) ?_
  refine g_iadd dL_law_656 ?_
  refine g_sld hSC dL_law_657 (fun _ => ?_)
  refine g_aload_n 0 dL_law_658 rfl ?_
  refine g_iload_n 3 dL_law_659 rfl ?_
  refine g_iconst (2 : Int32) dL_law_660 (by decide) ?_
  refine g_iadd dL_law_661 ?_
  refine g_sld hSC dL_law_662 (fun _ => ?_)
  refine g_callVI (c_X8_hush q49.1 ((xs (x3 + (1 : Int32)).toNatClampNeg)) ((xs (x3 + (2 : Int32)).toNatClampNeg))) okX8_hush ⟨by decide, by decide⟩ ml_L_68 sh_98 no_98 rfl rfl [.int ((xs (x3 + (1 : Int32)).toNatClampNeg)), .int ((xs (x3 + (2 : Int32)).toNatClampNeg))] rfl rfl rfl (Nat.le_of_ble_eq_true rfl) dL_law_663 (fun q50 => ?_)
  refine g_icmp_eq 1593 dL_law_666 rfl (fun _ => ?_) (fun _ => ?_)
  · refine g_iinc 3 [(3, .int ((x3 + (6 : Int32)))), (0, .ref b), (1, .ref (xad X (0))), (2, .ref (xad X (98)))] dL_law_1593 rfl (v := x3 + (6 : Int32)) rfl (by decide) rfl ?_
    refine g_goto 18 dL_law_1596 rfl ?_
    refine g_sub [1, 2, 3, 0] rfl ?_
    exact hkb q50.1 ((x3 + (6 : Int32)))
  · refine g_iconst (0 : Int32) dL_law_669 (by decide) ?_
    exact g_none

set_option maxRecDepth 100000 in
set_option maxHeartbeats 4000000 in
theorem t_L_law_J671 (X : GX) (hAD : hADp X) (σ : Mem) (L : Nat) (xs : Nat → Int32) (x3 : Int32) (b : Nat) (hSC : SC X b L xs) (kb : Mem → Int32 → Option (Mem × Unit)) (k1599 : Mem → Option (Mem × Unit)) (hkb : ∀ (σ : Mem) (y3 : Int32), GS (lawK X) X mL_law σ 18 [(0, .ref b), (1, .ref (xad X (0))), (2, .ref (xad X (98))), (3, .int y3)] [] (kb σ y3)) (hk1599 : ∀ (σ : Mem), GS (lawK X) X mL_law σ 1599 [] [] (k1599 σ)) : GS (lawK X) X mL_law σ 671 [(0, .ref b), (1, .ref (xad X (0))), (2, .ref (xad X (98))), (3, .int x3)] [] (L_law_J671 σ L xs x3 kb k1599) := by
  unfold L_law_J671
  refine g_aload_n 1 dL_law_671 rfl ?_
  refine g_aload_n 0 dL_law_672 rfl ?_
  refine g_iload_n 3 dL_law_673 rfl ?_
  refine g_iconst (1 : Int32) dL_law_674 (by decide) ?_
  refine g_iadd dL_law_675 ?_
  refine g_sld hSC dL_law_676 (fun _ => ?_)
  refine g_aload_n 0 dL_law_677 rfl ?_
  refine g_iload_n 3 dL_law_678 rfl ?_
  refine g_iconst (2 : Int32) dL_law_679 (by decide) ?_
  refine g_iadd dL_law_680 ?_
  refine g_sld hSC dL_law_681 (fun _ => ?_)
  refine g_callVI (c_X7_swap σ ((xs (x3 + (1 : Int32)).toNatClampNeg)) ((xs (x3 + (2 : Int32)).toNatClampNeg))) okX7_swap ⟨by decide, by decide⟩ ml_L_69 sh_0 no_0 rfl rfl [.int ((xs (x3 + (1 : Int32)).toNatClampNeg)), .int ((xs (x3 + (2 : Int32)).toNatClampNeg))] rfl rfl rfl (Nat.le_of_ble_eq_true rfl) dL_law_682 (fun q53 => ?_)
  refine g_aload_n 2 dL_law_685 rfl ?_
  refine g_aload_n 0 dL_law_686 rfl ?_
  refine g_iload_n 3 dL_law_687 rfl ?_
  refine g_iconst (1 : Int32) dL_law_688 (by decide) ?_
  refine g_iadd dL_law_689 ?_
  refine g_sld hSC dL_law_690 (fun _ => ?_)
  refine g_aload_n 0 dL_law_691 rfl ?_
  refine g_iload_n 3 dL_law_692 rfl ?_
  refine g_iconst (2 : Int32) dL_law_693 (by decide) ?_
  refine g_iadd dL_law_694 ?_
  refine g_sld hSC dL_law_695 (fun _ => ?_)
  refine g_callVI (c_X8_swap q53.1 ((xs (x3 + (1 : Int32)).toNatClampNeg)) ((xs (x3 + (2 : Int32)).toNatClampNeg))) okX8_swap ⟨by decide, by decide⟩ ml_L_72 sh_98 no_98 rfl rfl [.int ((xs (x3 + (1 : Int32)).toNatClampNeg)), .int ((xs (x3 + (2 : Int32)).toNatClampNeg))] rfl rfl rfl (Nat.le_of_ble_eq_true rfl) dL_law_696 (fun q54 => ?_)
  refine g_icmp_eq 1593 dL_law_699 rfl (fun _ => ?_) (fun _ => ?_)
  · refine g_iinc 3 [(3, .int ((x3 + (6 : Int32)))), (0, .ref b), (1, .ref (xad X (0))), (2, .ref (xad X (98)))] dL_law_1593 rfl (v := x3 + (6 : Int32)) rfl (by decide) rfl ?_
    refine g_goto 18 dL_law_1596 rfl ?_
    refine g_sub [1, 2, 3, 0] rfl ?_
    exact hkb q54.1 ((x3 + (6 : Int32)))
  · refine g_iconst (0 : Int32) dL_law_702 (by decide) ?_
    exact g_none

set_option maxRecDepth 100000 in
set_option maxHeartbeats 4000000 in
theorem t_L_law_J704 (X : GX) (hAD : hADp X) (σ : Mem) (L : Nat) (xs : Nat → Int32) (x3 : Int32) (b : Nat) (hSC : SC X b L xs) (kb : Mem → Int32 → Option (Mem × Unit)) (k1599 : Mem → Option (Mem × Unit)) (hkb : ∀ (σ : Mem) (y3 : Int32), GS (lawK X) X mL_law σ 18 [(0, .ref b), (1, .ref (xad X (0))), (2, .ref (xad X (98))), (3, .int y3)] [] (kb σ y3)) (hk1599 : ∀ (σ : Mem), GS (lawK X) X mL_law σ 1599 [] [] (k1599 σ)) : GS (lawK X) X mL_law σ 704 [(0, .ref b), (1, .ref (xad X (0))), (2, .ref (xad X (98))), (3, .int x3)] [] (L_law_J704 σ L xs x3 kb k1599) := by
  unfold L_law_J704
  refine g_aload_n 1 dL_law_704 rfl ?_
  refine g_aload_n 0 dL_law_705 rfl ?_
  refine g_iload_n 3 dL_law_706 rfl ?_
  refine g_iconst (1 : Int32) dL_law_707 (by decide) ?_
  refine g_iadd dL_law_708 ?_
  refine g_sld hSC dL_law_709 (fun _ => ?_)
  refine g_aload_n 0 dL_law_710 rfl ?_
  refine g_iload_n 3 dL_law_711 rfl ?_
  refine g_iconst (2 : Int32) dL_law_712 (by decide) ?_
  refine g_iadd dL_law_713 ?_
  refine g_sld hSC dL_law_714 (fun _ => ?_)
  refine g_callVI (c_X7_set σ ((xs (x3 + (1 : Int32)).toNatClampNeg)) ((xs (x3 + (2 : Int32)).toNatClampNeg))) okX7_set ⟨by decide, by decide⟩ ml_L_73 sh_0 no_0 rfl rfl [.int ((xs (x3 + (1 : Int32)).toNatClampNeg)), .int ((xs (x3 + (2 : Int32)).toNatClampNeg))] rfl rfl rfl (Nat.le_of_ble_eq_true rfl) dL_law_715 (fun q57 => ?_)
  refine g_aload_n 2 dL_law_718 rfl ?_
  refine g_aload_n 0 dL_law_719 rfl ?_
  refine g_iload_n 3 dL_law_720 rfl ?_
  refine g_iconst (1 : Int32) dL_law_721 (by decide) ?_
  refine g_iadd dL_law_722 ?_
  refine g_sld hSC dL_law_723 (fun _ => ?_)
  refine g_aload_n 0 dL_law_724 rfl ?_
  refine g_iload_n 3 dL_law_725 rfl ?_
  refine g_iconst (2 : Int32) dL_law_726 (by decide) ?_
  refine g_iadd dL_law_727 ?_
  refine g_sld hSC dL_law_728 (fun _ => ?_)
  refine g_callVI (c_X8_set q57.1 ((xs (x3 + (1 : Int32)).toNatClampNeg)) ((xs (x3 + (2 : Int32)).toNatClampNeg))) okX8_set ⟨by decide, by decide⟩ ml_L_76 sh_98 no_98 rfl rfl [.int ((xs (x3 + (1 : Int32)).toNatClampNeg)), .int ((xs (x3 + (2 : Int32)).toNatClampNeg))] rfl rfl rfl (Nat.le_of_ble_eq_true rfl) dL_law_729 (fun q58 => ?_)
  refine g_icmp_eq 1593 dL_law_732 rfl (fun _ => ?_) (fun _ => ?_)
  · refine g_iinc 3 [(3, .int ((x3 + (6 : Int32)))), (0, .ref b), (1, .ref (xad X (0))), (2, .ref (xad X (98)))] dL_law_1593 rfl (v := x3 + (6 : Int32)) rfl (by decide) rfl ?_
    refine g_goto 18 dL_law_1596 rfl ?_
    refine g_sub [1, 2, 3, 0] rfl ?_
    exact hkb q58.1 ((x3 + (6 : Int32)))
  · refine g_iconst (0 : Int32) dL_law_735 (by decide) ?_
    exact g_none

set_option maxRecDepth 100000 in
set_option maxHeartbeats 4000000 in
theorem t_L_law_J737 (X : GX) (hAD : hADp X) (σ : Mem) (L : Nat) (xs : Nat → Int32) (x3 : Int32) (b : Nat) (hSC : SC X b L xs) (kb : Mem → Int32 → Option (Mem × Unit)) (k1599 : Mem → Option (Mem × Unit)) (hkb : ∀ (σ : Mem) (y3 : Int32), GS (lawK X) X mL_law σ 18 [(0, .ref b), (1, .ref (xad X (0))), (2, .ref (xad X (98))), (3, .int y3)] [] (kb σ y3)) (hk1599 : ∀ (σ : Mem), GS (lawK X) X mL_law σ 1599 [] [] (k1599 σ)) : GS (lawK X) X mL_law σ 737 [(0, .ref b), (1, .ref (xad X (0))), (2, .ref (xad X (98))), (3, .int x3)] [] (L_law_J737 σ L xs x3 kb k1599) := by
  unfold L_law_J737
  refine g_aload_n 1 dL_law_737 rfl ?_
  refine g_aload_n 0 dL_law_738 rfl ?_
  refine g_iload_n 3 dL_law_739 rfl ?_
  refine g_iconst (1 : Int32) dL_law_740 (by decide) ?_
  refine g_iadd dL_law_741 ?_
  refine g_sld hSC dL_law_742 (fun _ => ?_)
  refine g_aload_n 0 dL_law_743 rfl ?_
  refine g_iload_n 3 dL_law_744 rfl ?_
  refine g_iconst (2 : Int32) dL_law_745 (by decide) ?_
  refine g_iadd dL_law_746 ?_
  refine g_sld hSC dL_law_747 (fun _ => ?_)
  refine g_callVI (c_X7_by σ ((xs (x3 + (1 : Int32)).toNatClampNeg)) ((xs (x3 + (2 : Int32)).toNatClampNeg))) okX7_by ⟨by decide, by decide⟩ ml_L_77 sh_0 no_0 rfl rfl [.int ((xs (x3 + (1 : Int32)).toNatClampNeg)), .int ((xs (x3 + (2 : Int32)).toNatClampNeg))] rfl rfl rfl (Nat.le_of_ble_eq_true rfl) dL_law_748 (fun q61 => ?_)
  refine g_aload_n 2 dL_law_751 rfl ?_
  refine g_aload_n 0 dL_law_752 rfl ?_
  refine g_iload_n 3 dL_law_753 rfl ?_
  refine g_iconst (1 : Int32) dL_law_754 (by decide) ?_
  refine g_iadd dL_law_755 ?_
  refine g_sld hSC dL_law_756 (fun _ => ?_)
  refine g_aload_n 0 dL_law_757 rfl ?_
  refine g_iload_n 3 dL_law_758 rfl ?_
  refine g_iconst (2 : Int32) dL_law_759 (by decide) ?_
  refine g_iadd dL_law_760 ?_
  refine g_sld hSC dL_law_761 (fun _ => ?_)
  refine g_callVI (c_X8_by q61.1 ((xs (x3 + (1 : Int32)).toNatClampNeg)) ((xs (x3 + (2 : Int32)).toNatClampNeg))) okX8_by ⟨by decide, by decide⟩ ml_L_80 sh_98 no_98 rfl rfl [.int ((xs (x3 + (1 : Int32)).toNatClampNeg)), .int ((xs (x3 + (2 : Int32)).toNatClampNeg))] rfl rfl rfl (Nat.le_of_ble_eq_true rfl) dL_law_762 (fun q62 => ?_)
  refine g_icmp_eq 1593 dL_law_765 rfl (fun _ => ?_) (fun _ => ?_)
  · refine g_iinc 3 [(3, .int ((x3 + (6 : Int32)))), (0, .ref b), (1, .ref (xad X (0))), (2, .ref (xad X (98)))] dL_law_1593 rfl (v := x3 + (6 : Int32)) rfl (by decide) rfl ?_
    refine g_goto 18 dL_law_1596 rfl ?_
    refine g_sub [1, 2, 3, 0] rfl ?_
    exact hkb q62.1 ((x3 + (6 : Int32)))
  · refine g_iconst (0 : Int32) dL_law_768 (by decide) ?_
    exact g_none

set_option maxRecDepth 100000 in
set_option maxHeartbeats 4000000 in
theorem t_L_law_J770 (X : GX) (hAD : hADp X) (σ : Mem) (L : Nat) (xs : Nat → Int32) (x3 : Int32) (b : Nat) (hSC : SC X b L xs) (kb : Mem → Int32 → Option (Mem × Unit)) (k1599 : Mem → Option (Mem × Unit)) (hkb : ∀ (σ : Mem) (y3 : Int32), GS (lawK X) X mL_law σ 18 [(0, .ref b), (1, .ref (xad X (0))), (2, .ref (xad X (98))), (3, .int y3)] [] (kb σ y3)) (hk1599 : ∀ (σ : Mem), GS (lawK X) X mL_law σ 1599 [] [] (k1599 σ)) : GS (lawK X) X mL_law σ 770 [(0, .ref b), (1, .ref (xad X (0))), (2, .ref (xad X (98))), (3, .int x3)] [] (L_law_J770 σ L xs x3 kb k1599) := by
  unfold L_law_J770
  refine g_aload_n 1 dL_law_770 rfl ?_
  refine g_aload_n 0 dL_law_771 rfl ?_
  refine g_iload_n 3 dL_law_772 rfl ?_
  refine g_iconst (1 : Int32) dL_law_773 (by decide) ?_
  refine g_iadd dL_law_774 ?_
  refine g_sld hSC dL_law_775 (fun _ => ?_)
  refine g_callVI (c_X7_first σ ((xs (x3 + (1 : Int32)).toNatClampNeg))) okX7_first ⟨by decide, by decide⟩ ml_L_81 sh_0 no_0 rfl rfl [.int ((xs (x3 + (1 : Int32)).toNatClampNeg))] rfl rfl rfl (Nat.le_of_ble_eq_true rfl) dL_law_776 (fun q65 => ?_)
  refine g_aload_n 2 dL_law_779 rfl ?_
  refine g_aload_n 0 dL_law_780 rfl ?_
  refine g_iload_n 3 dL_law_781 rfl ?_
  refine g_iconst (1 : Int32) dL_law_782 (by decide) ?_
  refine g_iadd dL_law_783 ?_
  refine g_sld hSC dL_law_784 (fun _ => ?_)
  refine g_callVI (c_X8_first q65.1 ((xs (x3 + (1 : Int32)).toNatClampNeg))) okX8_first ⟨by decide, by decide⟩ ml_L_84 sh_98 no_98 rfl rfl [.int ((xs (x3 + (1 : Int32)).toNatClampNeg))] rfl rfl rfl (Nat.le_of_ble_eq_true rfl) dL_law_785 (fun q66 => ?_)
  refine g_icmp_eq 1593 dL_law_788 rfl (fun _ => ?_) (fun _ => ?_)
  · refine g_iinc 3 [(3, .int ((x3 + (6 : Int32)))), (0, .ref b), (1, .ref (xad X (0))), (2, .ref (xad X (98)))] dL_law_1593 rfl (v := x3 + (6 : Int32)) rfl (by decide) rfl ?_
    refine g_goto 18 dL_law_1596 rfl ?_
    refine g_sub [1, 2, 3, 0] rfl ?_
    exact hkb q66.1 ((x3 + (6 : Int32)))
  · refine g_iconst (0 : Int32) dL_law_791 (by decide) ?_
    exact g_none

set_option maxRecDepth 100000 in
set_option maxHeartbeats 4000000 in
theorem t_L_law_J793 (X : GX) (hAD : hADp X) (σ : Mem) (L : Nat) (xs : Nat → Int32) (x3 : Int32) (b : Nat) (hSC : SC X b L xs) (kb : Mem → Int32 → Option (Mem × Unit)) (k1599 : Mem → Option (Mem × Unit)) (hkb : ∀ (σ : Mem) (y3 : Int32), GS (lawK X) X mL_law σ 18 [(0, .ref b), (1, .ref (xad X (0))), (2, .ref (xad X (98))), (3, .int y3)] [] (kb σ y3)) (hk1599 : ∀ (σ : Mem), GS (lawK X) X mL_law σ 1599 [] [] (k1599 σ)) : GS (lawK X) X mL_law σ 793 [(0, .ref b), (1, .ref (xad X (0))), (2, .ref (xad X (98))), (3, .int x3)] [] (L_law_J793 σ L xs x3 kb k1599) := by
  unfold L_law_J793
  refine g_aload_n 1 dL_law_793 rfl ?_
  refine g_aload_n 0 dL_law_794 rfl ?_
  refine g_iload_n 3 dL_law_795 rfl ?_
  refine g_iconst (1 : Int32) dL_law_796 (by decide) ?_
  refine g_iadd dL_law_797 ?_
  refine g_sld hSC dL_law_798 (fun _ => ?_)
  refine g_aload_n 0 dL_law_799 rfl ?_
  refine g_iload_n 3 dL_law_800 rfl ?_
  refine g_iconst (2 : Int32) dL_law_801 (by decide) ?_
  refine g_iadd dL_law_802 ?_
  refine g_sld hSC dL_law_803 (fun _ => ?_)
  refine g_aload_n 0 dL_law_804 rfl ?_
  refine g_iload_n 3 dL_law_805 rfl ?_
  refine g_iconst (3 : Int32) dL_law_806 (by decide) ?_
  refine g_iadd dL_law_807 ?_
  refine g_sld hSC dL_law_808 (fun _ => ?_)
  refine g_callVI (c_X7_again σ ((xs (x3 + (1 : Int32)).toNatClampNeg)) ((xs (x3 + (2 : Int32)).toNatClampNeg)) ((xs (x3 + (3 : Int32)).toNatClampNeg))) okX7_again ⟨by decide, by decide⟩ ml_L_85 sh_0 no_0 rfl rfl [.int ((xs (x3 + (1 : Int32)).toNatClampNeg)), .int ((xs (x3 + (2 : Int32)).toNatClampNeg)), .int ((xs (x3 + (3 : Int32)).toNatClampNeg))] rfl rfl rfl (Nat.le_of_ble_eq_true rfl) dL_law_809 (fun q69 => ?_)
  refine g_aload_n 2 dL_law_812 rfl ?_
  refine g_aload_n 0 dL_law_813 rfl ?_
  refine g_iload_n 3 dL_law_814 rfl ?_
  refine g_iconst (1 : Int32) dL_law_815 (by decide) ?_
  refine g_iadd dL_law_816 ?_
  refine g_sld hSC dL_law_817 (fun _ => ?_)
  refine g_aload_n 0 dL_law_818 rfl ?_
  refine g_iload_n 3 dL_law_819 rfl ?_
  refine g_iconst (2 : Int32) dL_law_820 (by decide) ?_
  refine g_iadd dL_law_821 ?_
  refine g_sld hSC dL_law_822 (fun _ => ?_)
  refine g_aload_n 0 dL_law_823 rfl ?_
  refine g_iload_n 3 dL_law_824 rfl ?_
  refine g_iconst (3 : Int32) dL_law_825 (by decide) ?_
  refine g_iadd dL_law_826 ?_
  refine g_sld hSC dL_law_827 (fun _ => ?_)
  refine g_callVI (c_X8_again q69.1 ((xs (x3 + (1 : Int32)).toNatClampNeg)) ((xs (x3 + (2 : Int32)).toNatClampNeg)) ((xs (x3 + (3 : Int32)).toNatClampNeg))) okX8_again ⟨by decide, by decide⟩ ml_L_88 sh_98 no_98 rfl rfl [.int ((xs (x3 + (1 : Int32)).toNatClampNeg)), .int ((xs (x3 + (2 : Int32)).toNatClampNeg)), .int ((xs (x3 + (3 : Int32)).toNatClampNeg))] rfl rfl rfl (Nat.le_of_ble_eq_true rfl) dL_law_828 (fun q70 => ?_)
  refine g_icmp_eq 1593 dL_law_831 rfl (fun _ => ?_) (fun _ => ?_)
  · refine g_iinc 3 [(3, .int ((x3 + (6 : Int32)))), (0, .ref b), (1, .ref (xad X (0))), (2, .ref (xad X (98)))] dL_law_1593 rfl (v := x3 + (6 : Int32)) rfl (by decide) rfl ?_
    refine g_goto 18 dL_law_1596 rfl ?_
    refine g_sub [1, 2, 3, 0] rfl ?_
    exact hkb q70.1 ((x3 + (6 : Int32)))
  · refine g_iconst (0 : Int32) dL_law_834 (by decide) ?_
    exact g_none

set_option maxRecDepth 100000 in
set_option maxHeartbeats 4000000 in
theorem t_L_law_J836 (X : GX) (hAD : hADp X) (σ : Mem) (L : Nat) (xs : Nat → Int32) (x3 : Int32) (b : Nat) (hSC : SC X b L xs) (kb : Mem → Int32 → Option (Mem × Unit)) (k1599 : Mem → Option (Mem × Unit)) (hkb : ∀ (σ : Mem) (y3 : Int32), GS (lawK X) X mL_law σ 18 [(0, .ref b), (1, .ref (xad X (0))), (2, .ref (xad X (98))), (3, .int y3)] [] (kb σ y3)) (hk1599 : ∀ (σ : Mem), GS (lawK X) X mL_law σ 1599 [] [] (k1599 σ)) : GS (lawK X) X mL_law σ 836 [(0, .ref b), (1, .ref (xad X (0))), (2, .ref (xad X (98))), (3, .int x3)] [] (L_law_J836 σ L xs x3 kb k1599) := by
  unfold L_law_J836
  refine g_aload_n 1 dL_law_836 rfl ?_
  refine g_aload_n 0 dL_law_837 rfl ?_
  refine g_iload_n 3 dL_law_838 rfl ?_
  refine g_iconst (1 : Int32) dL_law_839 (by decide) ?_
  refine g_iadd dL_law_840 ?_
  refine g_sld hSC dL_law_841 (fun _ => ?_)
  refine g_callVI (c_X7_rests σ ((xs (x3 + (1 : Int32)).toNatClampNeg))) okX7_rests ⟨by decide, by decide⟩ ml_L_89 sh_0 no_0 rfl rfl [.int ((xs (x3 + (1 : Int32)).toNatClampNeg))] rfl rfl rfl (Nat.le_of_ble_eq_true rfl) dL_law_842 (fun q73 => ?_)
  refine g_aload_n 2 dL_law_845 rfl ?_
  refine g_aload_n 0 dL_law_846 rfl ?_
  refine g_iload_n 3 dL_law_847 rfl ?_
  refine g_iconst (1 : Int32) dL_law_848 (by decide) ?_
  refine g_iadd dL_law_849 ?_
  refine g_sld hSC dL_law_850 (fun _ => ?_)
  refine g_callVI (c_X8_rests q73.1 ((xs (x3 + (1 : Int32)).toNatClampNeg))) okX8_rests ⟨by decide, by decide⟩ ml_L_92 sh_98 no_98 rfl rfl [.int ((xs (x3 + (1 : Int32)).toNatClampNeg))] rfl rfl rfl (Nat.le_of_ble_eq_true rfl) dL_law_851 (fun q74 => ?_)
  refine g_icmp_eq 1593 dL_law_854 rfl (fun _ => ?_) (fun _ => ?_)
  · refine g_iinc 3 [(3, .int ((x3 + (6 : Int32)))), (0, .ref b), (1, .ref (xad X (0))), (2, .ref (xad X (98)))] dL_law_1593 rfl (v := x3 + (6 : Int32)) rfl (by decide) rfl ?_
    refine g_goto 18 dL_law_1596 rfl ?_
    refine g_sub [1, 2, 3, 0] rfl ?_
    exact hkb q74.1 ((x3 + (6 : Int32)))
  · refine g_iconst (0 : Int32) dL_law_857 (by decide) ?_
    exact g_none

set_option maxRecDepth 100000 in
set_option maxHeartbeats 4000000 in
theorem t_L_law_J859 (X : GX) (hAD : hADp X) (σ : Mem) (L : Nat) (xs : Nat → Int32) (x3 : Int32) (b : Nat) (hSC : SC X b L xs) (kb : Mem → Int32 → Option (Mem × Unit)) (k1599 : Mem → Option (Mem × Unit)) (hkb : ∀ (σ : Mem) (y3 : Int32), GS (lawK X) X mL_law σ 18 [(0, .ref b), (1, .ref (xad X (0))), (2, .ref (xad X (98))), (3, .int y3)] [] (kb σ y3)) (hk1599 : ∀ (σ : Mem), GS (lawK X) X mL_law σ 1599 [] [] (k1599 σ)) : GS (lawK X) X mL_law σ 859 [(0, .ref b), (1, .ref (xad X (0))), (2, .ref (xad X (98))), (3, .int x3)] [] (L_law_J859 σ L xs x3 kb k1599) := by
  unfold L_law_J859
  refine g_aload_n 1 dL_law_859 rfl ?_
  refine g_aload_n 0 dL_law_860 rfl ?_
  refine g_iload_n 3 dL_law_861 rfl ?_
  refine g_iconst (1 : Int32) dL_law_862 (by decide) ?_
  refine g_iadd dL_law_863 ?_
  refine g_sld hSC dL_law_864 (fun _ => ?_)
  refine g_aload_n 0 dL_law_865 rfl ?_
  refine g_iload_n 3 dL_law_866 rfl ?_
  refine g_iconst (2 : Int32) dL_law_867 (by decide) ?_
  refine g_iadd dL_law_868 ?_
  refine g_sld hSC dL_law_869 (fun _ => ?_)
  refine g_callVI (c_X7_same σ ((xs (x3 + (1 : Int32)).toNatClampNeg)) ((xs (x3 + (2 : Int32)).toNatClampNeg))) okX7_same ⟨by decide, by decide⟩ ml_L_93 sh_0 no_0 rfl rfl [.int ((xs (x3 + (1 : Int32)).toNatClampNeg)), .int ((xs (x3 + (2 : Int32)).toNatClampNeg))] rfl rfl rfl (Nat.le_of_ble_eq_true rfl) dL_law_870 (fun q77 => ?_)
  refine g_aload_n 2 dL_law_873 rfl ?_
  refine g_aload_n 0 dL_law_874 rfl ?_
  refine g_iload_n 3 dL_law_875 rfl ?_
  refine g_iconst (1 : Int32) dL_law_876 (by decide) ?_
  refine g_iadd dL_law_877 ?_
  refine g_sld hSC dL_law_878 (fun _ => ?_)
  refine g_aload_n 0 dL_law_879 rfl ?_
  refine g_iload_n 3 dL_law_880 rfl ?_
  refine g_iconst (2 : Int32) dL_law_881 (by decide) ?_
  refine g_iadd dL_law_882 ?_
  refine g_sld hSC dL_law_883 (fun _ => ?_)
  refine g_callVI (c_X8_same q77.1 ((xs (x3 + (1 : Int32)).toNatClampNeg)) ((xs (x3 + (2 : Int32)).toNatClampNeg))) okX8_same ⟨by decide, by decide⟩ ml_L_96 sh_98 no_98 rfl rfl [.int ((xs (x3 + (1 : Int32)).toNatClampNeg)), .int ((xs (x3 + (2 : Int32)).toNatClampNeg))] rfl rfl rfl (Nat.le_of_ble_eq_true rfl) dL_law_884 (fun q78 => ?_)
  refine g_icmp_eq 1593 dL_law_887 rfl (fun _ => ?_) (fun _ => ?_)
  · refine g_iinc 3 [(3, .int ((x3 + (6 : Int32)))), (0, .ref b), (1, .ref (xad X (0))), (2, .ref (xad X (98)))] dL_law_1593 rfl (v := x3 + (6 : Int32)) rfl (by decide) rfl ?_
    refine g_goto 18 dL_law_1596 rfl ?_
    refine g_sub [1, 2, 3, 0] rfl ?_
    exact hkb q78.1 ((x3 + (6 : Int32)))
  · refine g_iconst (0 : Int32) dL_law_890 (by decide) ?_
    exact g_none

set_option maxRecDepth 100000 in
set_option maxHeartbeats 4000000 in
theorem t_L_law_J892 (X : GX) (hAD : hADp X) (σ : Mem) (L : Nat) (xs : Nat → Int32) (x3 : Int32) (b : Nat) (hSC : SC X b L xs) (kb : Mem → Int32 → Option (Mem × Unit)) (k1599 : Mem → Option (Mem × Unit)) (hkb : ∀ (σ : Mem) (y3 : Int32), GS (lawK X) X mL_law σ 18 [(0, .ref b), (1, .ref (xad X (0))), (2, .ref (xad X (98))), (3, .int y3)] [] (kb σ y3)) (hk1599 : ∀ (σ : Mem), GS (lawK X) X mL_law σ 1599 [] [] (k1599 σ)) : GS (lawK X) X mL_law σ 892 [(0, .ref b), (1, .ref (xad X (0))), (2, .ref (xad X (98))), (3, .int x3)] [] (L_law_J892 σ L xs x3 kb k1599) := by
  unfold L_law_J892
  refine g_aload_n 1 dL_law_892 rfl ?_
  refine g_aload_n 0 dL_law_893 rfl ?_
  refine g_iload_n 3 dL_law_894 rfl ?_
  refine g_iconst (1 : Int32) dL_law_895 (by decide) ?_
  refine g_iadd dL_law_896 ?_
  refine g_sld hSC dL_law_897 (fun _ => ?_)
  refine g_aload_n 0 dL_law_898 rfl ?_
  refine g_iload_n 3 dL_law_899 rfl ?_
  refine g_iconst (2 : Int32) dL_law_900 (by decide) ?_
  refine g_iadd dL_law_901 ?_
  refine g_sld hSC dL_law_902 (fun _ => ?_)
  refine g_callVI (c_X7_meant σ ((xs (x3 + (1 : Int32)).toNatClampNeg)) ((xs (x3 + (2 : Int32)).toNatClampNeg))) okX7_meant ⟨by decide, by decide⟩ ml_L_97 sh_0 no_0 rfl rfl [.int ((xs (x3 + (1 : Int32)).toNatClampNeg)), .int ((xs (x3 + (2 : Int32)).toNatClampNeg))] rfl rfl rfl (Nat.le_of_ble_eq_true rfl) dL_law_903 (fun q81 => ?_)
  refine g_aload_n 2 dL_law_906 rfl ?_
  refine g_aload_n 0 dL_law_907 rfl ?_
  refine g_iload_n 3 dL_law_908 rfl ?_
  refine g_iconst (1 : Int32) dL_law_909 (by decide) ?_
  refine g_iadd dL_law_910 ?_
  refine g_sld hSC dL_law_911 (fun _ => ?_)
  refine g_aload_n 0 dL_law_912 rfl ?_
  refine g_iload_n 3 dL_law_913 rfl ?_
  refine g_iconst (2 : Int32) dL_law_914 (by decide) ?_
  refine g_iadd dL_law_915 ?_
  refine g_sld hSC dL_law_916 (fun _ => ?_)
  refine g_callVI (c_X8_meant q81.1 ((xs (x3 + (1 : Int32)).toNatClampNeg)) ((xs (x3 + (2 : Int32)).toNatClampNeg))) okX8_meant ⟨by decide, by decide⟩ ml_L_100 sh_98 no_98 rfl rfl [.int ((xs (x3 + (1 : Int32)).toNatClampNeg)), .int ((xs (x3 + (2 : Int32)).toNatClampNeg))] rfl rfl rfl (Nat.le_of_ble_eq_true rfl) dL_law_917 (fun q82 => ?_)
  refine g_icmp_eq 1593 dL_law_920 rfl (fun _ => ?_) (fun _ => ?_)
  · refine g_iinc 3 [(3, .int ((x3 + (6 : Int32)))), (0, .ref b), (1, .ref (xad X (0))), (2, .ref (xad X (98)))] dL_law_1593 rfl (v := x3 + (6 : Int32)) rfl (by decide) rfl ?_
    refine g_goto 18 dL_law_1596 rfl ?_
    refine g_sub [1, 2, 3, 0] rfl ?_
    exact hkb q82.1 ((x3 + (6 : Int32)))
  · refine g_iconst (0 : Int32) dL_law_923 (by decide) ?_
    exact g_none

set_option maxRecDepth 100000 in
set_option maxHeartbeats 4000000 in
theorem t_L_law_J925 (X : GX) (hAD : hADp X) (σ : Mem) (L : Nat) (xs : Nat → Int32) (x3 : Int32) (b : Nat) (hSC : SC X b L xs) (kb : Mem → Int32 → Option (Mem × Unit)) (k1599 : Mem → Option (Mem × Unit)) (hkb : ∀ (σ : Mem) (y3 : Int32), GS (lawK X) X mL_law σ 18 [(0, .ref b), (1, .ref (xad X (0))), (2, .ref (xad X (98))), (3, .int y3)] [] (kb σ y3)) (hk1599 : ∀ (σ : Mem), GS (lawK X) X mL_law σ 1599 [] [] (k1599 σ)) : GS (lawK X) X mL_law σ 925 [(0, .ref b), (1, .ref (xad X (0))), (2, .ref (xad X (98))), (3, .int x3)] [] (L_law_J925 σ L xs x3 kb k1599) := by
  unfold L_law_J925
  refine g_aload_n 1 dL_law_925 rfl ?_
  refine g_aload_n 0 dL_law_926 rfl ?_
  refine g_iload_n 3 dL_law_927 rfl ?_
  refine g_iconst (1 : Int32) dL_law_928 (by decide) ?_
  refine g_iadd dL_law_929 ?_
  refine g_sld hSC dL_law_930 (fun _ => ?_)
  refine g_aload_n 0 dL_law_931 rfl ?_
  refine g_iload_n 3 dL_law_932 rfl ?_
  refine g_iconst (2 : Int32) dL_law_933 (by decide) ?_
  refine g_iadd dL_law_934 ?_
  refine g_sld hSC dL_law_935 (fun _ => ?_)
  refine g_callVI (c_X7_smallest σ ((xs (x3 + (1 : Int32)).toNatClampNeg)) ((xs (x3 + (2 : Int32)).toNatClampNeg))) okX7_smallest ⟨by decide, by decide⟩ ml_L_101 sh_0 no_0 rfl rfl [.int ((xs (x3 + (1 : Int32)).toNatClampNeg)), .int ((xs (x3 + (2 : Int32)).toNatClampNeg))] rfl rfl rfl (Nat.le_of_ble_eq_true rfl) dL_law_936 (fun q85 => ?_)
  refine g_aload_n 2 dL_law_939 rfl ?_
  refine g_aload_n 0 dL_law_940 rfl ?_
  refine g_iload_n 3 dL_law_941 rfl ?_
  refine g_iconst (1 : Int32) dL_law_942 (by decide) ?_
  refine g_iadd dL_law_943 ?_
  refine g_sld hSC dL_law_944 (fun _ => ?_)
  refine g_aload_n 0 dL_law_945 rfl ?_
  refine g_iload_n 3 dL_law_946 rfl ?_
  refine g_iconst (2 : Int32) dL_law_947 (by decide) ?_
  refine g_iadd dL_law_948 ?_
  refine g_sld hSC dL_law_949 (fun _ => ?_)
  refine g_callVI (c_X8_smallest q85.1 ((xs (x3 + (1 : Int32)).toNatClampNeg)) ((xs (x3 + (2 : Int32)).toNatClampNeg))) okX8_smallest ⟨by decide, by decide⟩ ml_L_104 sh_98 no_98 rfl rfl [.int ((xs (x3 + (1 : Int32)).toNatClampNeg)), .int ((xs (x3 + (2 : Int32)).toNatClampNeg))] rfl rfl rfl (Nat.le_of_ble_eq_true rfl) dL_law_950 (fun q86 => ?_)
  refine g_icmp_eq 1593 dL_law_953 rfl (fun _ => ?_) (fun _ => ?_)
  · refine g_iinc 3 [(3, .int ((x3 + (6 : Int32)))), (0, .ref b), (1, .ref (xad X (0))), (2, .ref (xad X (98)))] dL_law_1593 rfl (v := x3 + (6 : Int32)) rfl (by decide) rfl ?_
    refine g_goto 18 dL_law_1596 rfl ?_
    refine g_sub [1, 2, 3, 0] rfl ?_
    exact hkb q86.1 ((x3 + (6 : Int32)))
  · refine g_iconst (0 : Int32) dL_law_956 (by decide) ?_
    exact g_none

set_option maxRecDepth 100000 in
set_option maxHeartbeats 4000000 in
theorem t_L_law_J958 (X : GX) (hAD : hADp X) (σ : Mem) (L : Nat) (xs : Nat → Int32) (x3 : Int32) (b : Nat) (hSC : SC X b L xs) (kb : Mem → Int32 → Option (Mem × Unit)) (k1599 : Mem → Option (Mem × Unit)) (hkb : ∀ (σ : Mem) (y3 : Int32), GS (lawK X) X mL_law σ 18 [(0, .ref b), (1, .ref (xad X (0))), (2, .ref (xad X (98))), (3, .int y3)] [] (kb σ y3)) (hk1599 : ∀ (σ : Mem), GS (lawK X) X mL_law σ 1599 [] [] (k1599 σ)) : GS (lawK X) X mL_law σ 958 [(0, .ref b), (1, .ref (xad X (0))), (2, .ref (xad X (98))), (3, .int x3)] [] (L_law_J958 σ L xs x3 kb k1599) := by
  unfold L_law_J958
  refine g_aload_n 1 dL_law_958 rfl ?_
  refine g_aload_n 0 dL_law_959 rfl ?_
  refine g_iload_n 3 dL_law_960 rfl ?_
  refine g_iconst (1 : Int32) dL_law_961 (by decide) ?_
  refine g_iadd dL_law_962 ?_
  refine g_sld hSC dL_law_963 (fun _ => ?_)
  refine g_callVI (c_X7_outs σ ((xs (x3 + (1 : Int32)).toNatClampNeg))) okX7_outs ⟨by decide, by decide⟩ ml_L_105 sh_0 no_0 rfl rfl [.int ((xs (x3 + (1 : Int32)).toNatClampNeg))] rfl rfl rfl (Nat.le_of_ble_eq_true rfl) dL_law_964 (fun q89 => ?_)
  refine g_aload_n 2 dL_law_967 rfl ?_
  refine g_aload_n 0 dL_law_968 rfl ?_
  refine g_iload_n 3 dL_law_969 rfl ?_
  refine g_iconst (1 : Int32) dL_law_970 (by decide) ?_
  refine g_iadd dL_law_971 ?_
  refine g_sld hSC dL_law_972 (fun _ => ?_)
  refine g_callVI (c_X8_outs q89.1 ((xs (x3 + (1 : Int32)).toNatClampNeg))) okX8_outs ⟨by decide, by decide⟩ ml_L_108 sh_98 no_98 rfl rfl [.int ((xs (x3 + (1 : Int32)).toNatClampNeg))] rfl rfl rfl (Nat.le_of_ble_eq_true rfl) dL_law_973 (fun q90 => ?_)
  refine g_icmp_eq 1593 dL_law_976 rfl (fun _ => ?_) (fun _ => ?_)
  · refine g_iinc 3 [(3, .int ((x3 + (6 : Int32)))), (0, .ref b), (1, .ref (xad X (0))), (2, .ref (xad X (98)))] dL_law_1593 rfl (v := x3 + (6 : Int32)) rfl (by decide) rfl ?_
    refine g_goto 18 dL_law_1596 rfl ?_
    refine g_sub [1, 2, 3, 0] rfl ?_
    exact hkb q90.1 ((x3 + (6 : Int32)))
  · refine g_iconst (0 : Int32) dL_law_979 (by decide) ?_
    exact g_none

set_option maxRecDepth 100000 in
set_option maxHeartbeats 4000000 in
theorem t_L_law_J981 (X : GX) (hAD : hADp X) (σ : Mem) (L : Nat) (xs : Nat → Int32) (x3 : Int32) (b : Nat) (hSC : SC X b L xs) (kb : Mem → Int32 → Option (Mem × Unit)) (k1599 : Mem → Option (Mem × Unit)) (hkb : ∀ (σ : Mem) (y3 : Int32), GS (lawK X) X mL_law σ 18 [(0, .ref b), (1, .ref (xad X (0))), (2, .ref (xad X (98))), (3, .int y3)] [] (kb σ y3)) (hk1599 : ∀ (σ : Mem), GS (lawK X) X mL_law σ 1599 [] [] (k1599 σ)) : GS (lawK X) X mL_law σ 981 [(0, .ref b), (1, .ref (xad X (0))), (2, .ref (xad X (98))), (3, .int x3)] [] (L_law_J981 σ L xs x3 kb k1599) := by
  unfold L_law_J981
  refine g_aload_n 1 dL_law_981 rfl ?_
  refine g_aload_n 0 dL_law_982 rfl ?_
  refine g_iload_n 3 dL_law_983 rfl ?_
  refine g_iconst (1 : Int32) dL_law_984 (by decide) ?_
  refine g_iadd dL_law_985 ?_
  refine g_sld hSC dL_law_986 (fun _ => ?_)
  refine g_aload_n 0 dL_law_987 rfl ?_
  refine g_iload_n 3 dL_law_988 rfl ?_
  refine g_iconst (2 : Int32) dL_law_989 (by decide) ?_
  refine g_iadd dL_law_990 ?_
  refine g_sld hSC dL_law_991 (fun _ => ?_)
  refine g_callVI (c_X7_twins σ ((xs (x3 + (1 : Int32)).toNatClampNeg)) ((xs (x3 + (2 : Int32)).toNatClampNeg))) okX7_twins ⟨by decide, by decide⟩ ml_L_109 sh_0 no_0 rfl rfl [.int ((xs (x3 + (1 : Int32)).toNatClampNeg)), .int ((xs (x3 + (2 : Int32)).toNatClampNeg))] rfl rfl rfl (Nat.le_of_ble_eq_true rfl) dL_law_992 (fun q93 => ?_)
  refine g_aload_n 2 dL_law_995 rfl ?_
  refine g_aload_n 0 dL_law_996 rfl ?_
  refine g_iload_n 3 dL_law_997 rfl ?_
  refine g_iconst (1 : Int32) dL_law_998 (by decide) ?_
  refine g_iadd dL_law_999 ?_
  refine g_sld hSC dL_law_1000 (fun _ => ?_)
  refine g_aload_n 0 dL_law_1001 rfl ?_
  refine g_iload_n 3 dL_law_1002 rfl ?_
  refine g_iconst (2 : Int32) dL_law_1003 (by decide) ?_
  refine g_iadd dL_law_1004 ?_
  refine g_sld hSC dL_law_1005 (fun _ => ?_)
  refine g_callVI (c_X8_twins q93.1 ((xs (x3 + (1 : Int32)).toNatClampNeg)) ((xs (x3 + (2 : Int32)).toNatClampNeg))) okX8_twins ⟨by decide, by decide⟩ ml_L_112 sh_98 no_98 rfl rfl [.int ((xs (x3 + (1 : Int32)).toNatClampNeg)), .int ((xs (x3 + (2 : Int32)).toNatClampNeg))] rfl rfl rfl (Nat.le_of_ble_eq_true rfl) dL_law_1006 (fun q94 => ?_)
  refine g_icmp_eq 1593 dL_law_1009 rfl (fun _ => ?_) (fun _ => ?_)
  · refine g_iinc 3 [(3, .int ((x3 + (6 : Int32)))), (0, .ref b), (1, .ref (xad X (0))), (2, .ref (xad X (98)))] dL_law_1593 rfl (v := x3 + (6 : Int32)) rfl (by decide) rfl ?_
    refine g_goto 18 dL_law_1596 rfl ?_
    refine g_sub [1, 2, 3, 0] rfl ?_
    exact hkb q94.1 ((x3 + (6 : Int32)))
  · refine g_iconst (0 : Int32) dL_law_1012 (by decide) ?_
    exact g_none

set_option maxRecDepth 100000 in
set_option maxHeartbeats 4000000 in
theorem t_L_law_J1014 (X : GX) (hAD : hADp X) (σ : Mem) (L : Nat) (xs : Nat → Int32) (x3 : Int32) (b : Nat) (hSC : SC X b L xs) (kb : Mem → Int32 → Option (Mem × Unit)) (k1599 : Mem → Option (Mem × Unit)) (hkb : ∀ (σ : Mem) (y3 : Int32), GS (lawK X) X mL_law σ 18 [(0, .ref b), (1, .ref (xad X (0))), (2, .ref (xad X (98))), (3, .int y3)] [] (kb σ y3)) (hk1599 : ∀ (σ : Mem), GS (lawK X) X mL_law σ 1599 [] [] (k1599 σ)) : GS (lawK X) X mL_law σ 1014 [(0, .ref b), (1, .ref (xad X (0))), (2, .ref (xad X (98))), (3, .int x3)] [] (L_law_J1014 σ L xs x3 kb k1599) := by
  unfold L_law_J1014
  refine g_aload_n 1 dL_law_1014 rfl ?_
  refine g_aload_n 0 dL_law_1015 rfl ?_
  refine g_iload_n 3 dL_law_1016 rfl ?_
  refine g_iconst (1 : Int32) dL_law_1017 (by decide) ?_
  refine g_iadd dL_law_1018 ?_
  refine g_sld hSC dL_law_1019 (fun _ => ?_)
  refine g_aload_n 0 dL_law_1020 rfl ?_
  refine g_iload_n 3 dL_law_1021 rfl ?_
  refine g_iconst (2 : Int32) dL_law_1022 (by decide) ?_
  refine g_iadd dL_law_1023 ?_
  refine g_sld hSC dL_law_1024 (fun _ => ?_)
  refine g_callVI (c_X7_harmless σ ((xs (x3 + (1 : Int32)).toNatClampNeg)) ((xs (x3 + (2 : Int32)).toNatClampNeg))) okX7_harmless ⟨by decide, by decide⟩ ml_L_113 sh_0 no_0 rfl rfl [.int ((xs (x3 + (1 : Int32)).toNatClampNeg)), .int ((xs (x3 + (2 : Int32)).toNatClampNeg))] rfl rfl rfl (Nat.le_of_ble_eq_true rfl) dL_law_1025 (fun q97 => ?_)
  refine g_aload_n 2 dL_law_1028 rfl ?_
  refine g_aload_n 0 dL_law_1029 rfl ?_
  refine g_iload_n 3 dL_law_1030 rfl ?_
  refine g_iconst (1 : Int32) dL_law_1031 (by decide) ?_
  refine g_iadd dL_law_1032 ?_
  refine g_sld hSC dL_law_1033 (fun _ => ?_)
  refine g_aload_n 0 dL_law_1034 rfl ?_
  refine g_iload_n 3 dL_law_1035 rfl ?_
  refine g_iconst (2 : Int32) dL_law_1036 (by decide) ?_
  refine g_iadd dL_law_1037 ?_
  refine g_sld hSC dL_law_1038 (fun _ => ?_)
  refine g_callVI (c_X8_harmless q97.1 ((xs (x3 + (1 : Int32)).toNatClampNeg)) ((xs (x3 + (2 : Int32)).toNatClampNeg))) okX8_harmless ⟨by decide, by decide⟩ ml_L_116 sh_98 no_98 rfl rfl [.int ((xs (x3 + (1 : Int32)).toNatClampNeg)), .int ((xs (x3 + (2 : Int32)).toNatClampNeg))] rfl rfl rfl (Nat.le_of_ble_eq_true rfl) dL_law_1039 (fun q98 => ?_)
  refine g_icmp_eq 1593 dL_law_1042 rfl (fun _ => ?_) (fun _ => ?_)
  · refine g_iinc 3 [(3, .int ((x3 + (6 : Int32)))), (0, .ref b), (1, .ref (xad X (0))), (2, .ref (xad X (98)))] dL_law_1593 rfl (v := x3 + (6 : Int32)) rfl (by decide) rfl ?_
    refine g_goto 18 dL_law_1596 rfl ?_
    refine g_sub [1, 2, 3, 0] rfl ?_
    exact hkb q98.1 ((x3 + (6 : Int32)))
  · refine g_iconst (0 : Int32) dL_law_1045 (by decide) ?_
    exact g_none

set_option maxRecDepth 100000 in
set_option maxHeartbeats 4000000 in
theorem t_L_law_J1047 (X : GX) (hAD : hADp X) (σ : Mem) (L : Nat) (xs : Nat → Int32) (x3 : Int32) (b : Nat) (hSC : SC X b L xs) (kb : Mem → Int32 → Option (Mem × Unit)) (k1599 : Mem → Option (Mem × Unit)) (hkb : ∀ (σ : Mem) (y3 : Int32), GS (lawK X) X mL_law σ 18 [(0, .ref b), (1, .ref (xad X (0))), (2, .ref (xad X (98))), (3, .int y3)] [] (kb σ y3)) (hk1599 : ∀ (σ : Mem), GS (lawK X) X mL_law σ 1599 [] [] (k1599 σ)) : GS (lawK X) X mL_law σ 1047 [(0, .ref b), (1, .ref (xad X (0))), (2, .ref (xad X (98))), (3, .int x3)] [] (L_law_J1047 σ L xs x3 kb k1599) := by
  unfold L_law_J1047
  refine g_aload_n 1 dL_law_1047 rfl ?_
  refine g_aload_n 0 dL_law_1048 rfl ?_
  refine g_iload_n 3 dL_law_1049 rfl ?_
  refine g_iconst (1 : Int32) dL_law_1050 (by decide) ?_
  refine g_iadd dL_law_1051 ?_
  refine g_sld hSC dL_law_1052 (fun _ => ?_)
  refine g_aload_n 0 dL_law_1053 rfl ?_
  refine g_iload_n 3 dL_law_1054 rfl ?_
  refine g_iconst (2 : Int32) dL_law_1055 (by decide) ?_
  refine g_iadd dL_law_1056 ?_
  refine g_sld hSC dL_law_1057 (fun _ => ?_)
  refine g_aload_n 0 dL_law_1058 rfl ?_
  refine g_iload_n 3 dL_law_1059 rfl ?_
  refine g_iconst (3 : Int32) dL_law_1060 (by decide) ?_
  refine g_iadd dL_law_1061 ?_
  refine g_sld hSC dL_law_1062 (fun _ => ?_)
  refine g_callVI (c_X7_believed σ ((xs (x3 + (1 : Int32)).toNatClampNeg)) ((xs (x3 + (2 : Int32)).toNatClampNeg)) ((xs (x3 + (3 : Int32)).toNatClampNeg))) okX7_believed ⟨by decide, by decide⟩ ml_L_117 sh_0 no_0 rfl rfl [.int ((xs (x3 + (1 : Int32)).toNatClampNeg)), .int ((xs (x3 + (2 : Int32)).toNatClampNeg)), .int ((xs (x3 + (3 : Int32)).toNatClampNeg))] rfl rfl rfl (Nat.le_of_ble_eq_true rfl) dL_law_1063 (fun q101 => ?_)
  refine g_aload_n 2 dL_law_1066 rfl ?_
  refine g_aload_n 0 dL_law_1067 rfl ?_
  refine g_iload_n 3 dL_law_1068 rfl ?_
  refine g_iconst (1 : Int32) dL_law_1069 (by decide) ?_
  refine g_iadd dL_law_1070 ?_
  refine g_sld hSC dL_law_1071 (fun _ => ?_)
  refine g_aload_n 0 dL_law_1072 rfl ?_
  refine g_iload_n 3 dL_law_1073 rfl ?_
  refine g_iconst (2 : Int32) dL_law_1074 (by decide) ?_
  refine g_iadd dL_law_1075 ?_
  refine g_sld hSC dL_law_1076 (fun _ => ?_)
  refine g_aload_n 0 dL_law_1077 rfl ?_
  refine g_iload_n 3 dL_law_1078 rfl ?_
  refine g_iconst (3 : Int32) dL_law_1079 (by decide) ?_
  refine g_iadd dL_law_1080 ?_
  refine g_sld hSC dL_law_1081 (fun _ => ?_)
  refine g_callVI (c_X8_believed q101.1 ((xs (x3 + (1 : Int32)).toNatClampNeg)) ((xs (x3 + (2 : Int32)).toNatClampNeg)) ((xs (x3 + (3 : Int32)).toNatClampNeg))) okX8_believed ⟨by decide, by decide⟩ ml_L_120 sh_98 no_98 rfl rfl [.int ((xs (x3 + (1 : Int32)).toNatClampNeg)), .int ((xs (x3 + (2 : Int32)).toNatClampNeg)), .int ((xs (x3 + (3 : Int32)).toNatClampNeg))] rfl rfl rfl (Nat.le_of_ble_eq_true rfl) dL_law_1082 (fun q102 => ?_)
  refine g_icmp_eq 1593 dL_law_1085 rfl (fun _ => ?_) (fun _ => ?_)
  · refine g_iinc 3 [(3, .int ((x3 + (6 : Int32)))), (0, .ref b), (1, .ref (xad X (0))), (2, .ref (xad X (98)))] dL_law_1593 rfl (v := x3 + (6 : Int32)) rfl (by decide) rfl ?_
    refine g_goto 18 dL_law_1596 rfl ?_
    refine g_sub [1, 2, 3, 0] rfl ?_
    exact hkb q102.1 ((x3 + (6 : Int32)))
  · refine g_iconst (0 : Int32) dL_law_1088 (by decide) ?_
    exact g_none

set_option maxRecDepth 100000 in
set_option maxHeartbeats 4000000 in
theorem t_L_law_J1090 (X : GX) (hAD : hADp X) (σ : Mem) (L : Nat) (xs : Nat → Int32) (x3 : Int32) (b : Nat) (hSC : SC X b L xs) (kb : Mem → Int32 → Option (Mem × Unit)) (k1599 : Mem → Option (Mem × Unit)) (hkb : ∀ (σ : Mem) (y3 : Int32), GS (lawK X) X mL_law σ 18 [(0, .ref b), (1, .ref (xad X (0))), (2, .ref (xad X (98))), (3, .int y3)] [] (kb σ y3)) (hk1599 : ∀ (σ : Mem), GS (lawK X) X mL_law σ 1599 [] [] (k1599 σ)) : GS (lawK X) X mL_law σ 1090 [(0, .ref b), (1, .ref (xad X (0))), (2, .ref (xad X (98))), (3, .int x3)] [] (L_law_J1090 σ L xs x3 kb k1599) := by
  unfold L_law_J1090
  refine g_aload_n 1 dL_law_1090 rfl ?_
  refine g_aload_n 0 dL_law_1091 rfl ?_
  refine g_iload_n 3 dL_law_1092 rfl ?_
  refine g_iconst (1 : Int32) dL_law_1093 (by decide) ?_
  refine g_iadd dL_law_1094 ?_
  refine g_sld hSC dL_law_1095 (fun _ => ?_)
  refine g_callVI (c_X7_forbid σ ((xs (x3 + (1 : Int32)).toNatClampNeg))) okX7_forbid ⟨by decide, by decide⟩ ml_L_121 sh_0 no_0 rfl rfl [.int ((xs (x3 + (1 : Int32)).toNatClampNeg))] rfl rfl rfl (Nat.le_of_ble_eq_true rfl) dL_law_1096 (fun q105 => ?_)
  refine g_aload_n 2 dL_law_1099 rfl ?_
  refine g_aload_n 0 dL_law_1100 rfl ?_
  refine g_iload_n 3 dL_law_1101 rfl ?_
  refine g_iconst (1 : Int32) dL_law_1102 (by decide) ?_
  refine g_iadd dL_law_1103 ?_
  refine g_sld hSC dL_law_1104 (fun _ => ?_)
  refine g_callVI (c_X8_forbid q105.1 ((xs (x3 + (1 : Int32)).toNatClampNeg))) okX8_forbid ⟨by decide, by decide⟩ ml_L_124 sh_98 no_98 rfl rfl [.int ((xs (x3 + (1 : Int32)).toNatClampNeg))] rfl rfl rfl (Nat.le_of_ble_eq_true rfl) dL_law_1105 (fun q106 => ?_)
  refine g_icmp_eq 1593 dL_law_1108 rfl (fun _ => ?_) (fun _ => ?_)
  · refine g_iinc 3 [(3, .int ((x3 + (6 : Int32)))), (0, .ref b), (1, .ref (xad X (0))), (2, .ref (xad X (98)))] dL_law_1593 rfl (v := x3 + (6 : Int32)) rfl (by decide) rfl ?_
    refine g_goto 18 dL_law_1596 rfl ?_
    refine g_sub [1, 2, 3, 0] rfl ?_
    exact hkb q106.1 ((x3 + (6 : Int32)))
  · refine g_iconst (0 : Int32) dL_law_1111 (by decide) ?_
    exact g_none

set_option maxRecDepth 100000 in
set_option maxHeartbeats 4000000 in
theorem t_L_law_J1113 (X : GX) (hAD : hADp X) (σ : Mem) (L : Nat) (xs : Nat → Int32) (x3 : Int32) (b : Nat) (hSC : SC X b L xs) (kb : Mem → Int32 → Option (Mem × Unit)) (k1599 : Mem → Option (Mem × Unit)) (hkb : ∀ (σ : Mem) (y3 : Int32), GS (lawK X) X mL_law σ 18 [(0, .ref b), (1, .ref (xad X (0))), (2, .ref (xad X (98))), (3, .int y3)] [] (kb σ y3)) (hk1599 : ∀ (σ : Mem), GS (lawK X) X mL_law σ 1599 [] [] (k1599 σ)) : GS (lawK X) X mL_law σ 1113 [(0, .ref b), (1, .ref (xad X (0))), (2, .ref (xad X (98))), (3, .int x3)] [] (L_law_J1113 σ L xs x3 kb k1599) := by
  unfold L_law_J1113
  refine g_aload_n 1 dL_law_1113 rfl ?_
  refine g_aload_n 0 dL_law_1114 rfl ?_
  refine g_iload_n 3 dL_law_1115 rfl ?_
  refine g_iconst (1 : Int32) dL_law_1116 (by decide) ?_
  refine g_iadd dL_law_1117 ?_
  refine g_sld hSC dL_law_1118 (fun _ => ?_)
  refine g_aload_n 0 dL_law_1119 rfl ?_
  refine g_iload_n 3 dL_law_1120 rfl ?_
  refine g_iconst (2 : Int32) dL_law_1121 (by decide) ?_
  refine g_iadd dL_law_1122 ?_
  refine g_sld hSC dL_law_1123 (fun _ => ?_)
  refine g_callVI (c_X7_silence σ ((xs (x3 + (1 : Int32)).toNatClampNeg)) ((xs (x3 + (2 : Int32)).toNatClampNeg))) okX7_silence ⟨by decide, by decide⟩ ml_L_125 sh_0 no_0 rfl rfl [.int ((xs (x3 + (1 : Int32)).toNatClampNeg)), .int ((xs (x3 + (2 : Int32)).toNatClampNeg))] rfl rfl rfl (Nat.le_of_ble_eq_true rfl) dL_law_1124 (fun q109 => ?_)
  refine g_aload_n 2 dL_law_1127 rfl ?_
  refine g_aload_n 0 dL_law_1128 rfl ?_
  refine g_iload_n 3 dL_law_1129 rfl ?_
  refine g_iconst (1 : Int32) dL_law_1130 (by decide) ?_
  refine g_iadd dL_law_1131 ?_
  refine g_sld hSC dL_law_1132 (fun _ => ?_)
  refine g_aload_n 0 dL_law_1133 rfl ?_
  refine g_iload_n 3 dL_law_1134 rfl ?_
  refine g_iconst (2 : Int32) dL_law_1135 (by decide) ?_
  refine g_iadd dL_law_1136 ?_
  refine g_sld hSC dL_law_1137 (fun _ => ?_)
  refine g_callVI (c_X8_silence q109.1 ((xs (x3 + (1 : Int32)).toNatClampNeg)) ((xs (x3 + (2 : Int32)).toNatClampNeg))) okX8_silence ⟨by decide, by decide⟩ ml_L_128 sh_98 no_98 rfl rfl [.int ((xs (x3 + (1 : Int32)).toNatClampNeg)), .int ((xs (x3 + (2 : Int32)).toNatClampNeg))] rfl rfl rfl (Nat.le_of_ble_eq_true rfl) dL_law_1138 (fun q110 => ?_)
  refine g_icmp_eq 1593 dL_law_1141 rfl (fun _ => ?_) (fun _ => ?_)
  · refine g_iinc 3 [(3, .int ((x3 + (6 : Int32)))), (0, .ref b), (1, .ref (xad X (0))), (2, .ref (xad X (98)))] dL_law_1593 rfl (v := x3 + (6 : Int32)) rfl (by decide) rfl ?_
    refine g_goto 18 dL_law_1596 rfl ?_
    refine g_sub [1, 2, 3, 0] rfl ?_
    exact hkb q110.1 ((x3 + (6 : Int32)))
  · refine g_iconst (0 : Int32) dL_law_1144 (by decide) ?_
    exact g_none

set_option maxRecDepth 100000 in
set_option maxHeartbeats 4000000 in
theorem t_L_law_J1146 (X : GX) (hAD : hADp X) (σ : Mem) (L : Nat) (xs : Nat → Int32) (x3 : Int32) (b : Nat) (hSC : SC X b L xs) (kb : Mem → Int32 → Option (Mem × Unit)) (k1599 : Mem → Option (Mem × Unit)) (hkb : ∀ (σ : Mem) (y3 : Int32), GS (lawK X) X mL_law σ 18 [(0, .ref b), (1, .ref (xad X (0))), (2, .ref (xad X (98))), (3, .int y3)] [] (kb σ y3)) (hk1599 : ∀ (σ : Mem), GS (lawK X) X mL_law σ 1599 [] [] (k1599 σ)) : GS (lawK X) X mL_law σ 1146 [(0, .ref b), (1, .ref (xad X (0))), (2, .ref (xad X (98))), (3, .int x3)] [] (L_law_J1146 σ L xs x3 kb k1599) := by
  unfold L_law_J1146
  refine g_aload_n 1 dL_law_1146 rfl ?_
  refine g_aload_n 0 dL_law_1147 rfl ?_
  refine g_iload_n 3 dL_law_1148 rfl ?_
  refine g_iconst (1 : Int32) dL_law_1149 (by decide) ?_
  refine g_iadd dL_law_1150 ?_
  refine g_sld hSC dL_law_1151 (fun _ => ?_)
  refine g_aload_n 0 dL_law_1152 rfl ?_
  refine g_iload_n 3 dL_law_1153 rfl ?_
  refine g_iconst (2 : Int32) dL_law_1154 (by decide) ?_
  refine g_iadd dL_law_1155 ?_
  refine g_sld hSC dL_law_1156 (fun _ => ?_)
  refine g_callVI (c_X7_which σ ((xs (x3 + (1 : Int32)).toNatClampNeg)) ((xs (x3 + (2 : Int32)).toNatClampNeg))) okX7_which ⟨by decide, by decide⟩ ml_L_129 sh_0 no_0 rfl rfl [.int ((xs (x3 + (1 : Int32)).toNatClampNeg)), .int ((xs (x3 + (2 : Int32)).toNatClampNeg))] rfl rfl rfl (Nat.le_of_ble_eq_true rfl) dL_law_1157 (fun q113 => ?_)
  refine g_aload_n 2 dL_law_1160 rfl ?_
  refine g_aload_n 0 dL_law_1161 rfl ?_
  refine g_iload_n 3 dL_law_1162 rfl ?_
  refine g_iconst (1 : Int32) dL_law_1163 (by decide) ?_
  refine g_iadd dL_law_1164 ?_
  refine g_sld hSC dL_law_1165 (fun _ => ?_)
  refine g_aload_n 0 dL_law_1166 rfl ?_
  refine g_iload_n 3 dL_law_1167 rfl ?_
  refine g_iconst (2 : Int32) dL_law_1168 (by decide) ?_
  refine g_iadd dL_law_1169 ?_
  refine g_sld hSC dL_law_1170 (fun _ => ?_)
  refine g_callVI (c_X8_which q113.1 ((xs (x3 + (1 : Int32)).toNatClampNeg)) ((xs (x3 + (2 : Int32)).toNatClampNeg))) okX8_which ⟨by decide, by decide⟩ ml_L_132 sh_98 no_98 rfl rfl [.int ((xs (x3 + (1 : Int32)).toNatClampNeg)), .int ((xs (x3 + (2 : Int32)).toNatClampNeg))] rfl rfl rfl (Nat.le_of_ble_eq_true rfl) dL_law_1171 (fun q114 => ?_)
  refine g_icmp_eq 1593 dL_law_1174 rfl (fun _ => ?_) (fun _ => ?_)
  · refine g_iinc 3 [(3, .int ((x3 + (6 : Int32)))), (0, .ref b), (1, .ref (xad X (0))), (2, .ref (xad X (98)))] dL_law_1593 rfl (v := x3 + (6 : Int32)) rfl (by decide) rfl ?_
    refine g_goto 18 dL_law_1596 rfl ?_
    refine g_sub [1, 2, 3, 0] rfl ?_
    exact hkb q114.1 ((x3 + (6 : Int32)))
  · refine g_iconst (0 : Int32) dL_law_1177 (by decide) ?_
    exact g_none

set_option maxRecDepth 100000 in
set_option maxHeartbeats 4000000 in
theorem t_L_law_J1179 (X : GX) (hAD : hADp X) (σ : Mem) (L : Nat) (xs : Nat → Int32) (x3 : Int32) (b : Nat) (hSC : SC X b L xs) (kb : Mem → Int32 → Option (Mem × Unit)) (k1599 : Mem → Option (Mem × Unit)) (hkb : ∀ (σ : Mem) (y3 : Int32), GS (lawK X) X mL_law σ 18 [(0, .ref b), (1, .ref (xad X (0))), (2, .ref (xad X (98))), (3, .int y3)] [] (kb σ y3)) (hk1599 : ∀ (σ : Mem), GS (lawK X) X mL_law σ 1599 [] [] (k1599 σ)) : GS (lawK X) X mL_law σ 1179 [(0, .ref b), (1, .ref (xad X (0))), (2, .ref (xad X (98))), (3, .int x3)] [] (L_law_J1179 σ L xs x3 kb k1599) := by
  unfold L_law_J1179
  refine g_aload_n 1 dL_law_1179 rfl ?_
  refine g_aload_n 0 dL_law_1180 rfl ?_
  refine g_iload_n 3 dL_law_1181 rfl ?_
  refine g_iconst (1 : Int32) dL_law_1182 (by decide) ?_
  refine g_iadd dL_law_1183 ?_
  refine g_sld hSC dL_law_1184 (fun _ => ?_)
  refine g_aload_n 0 dL_law_1185 rfl ?_
  refine g_iload_n 3 dL_law_1186 rfl ?_
  refine g_iconst (2 : Int32) dL_law_1187 (by decide) ?_
  refine g_iadd dL_law_1188 ?_
  refine g_sld hSC dL_law_1189 (fun _ => ?_)
  refine g_aload_n 0 dL_law_1190 rfl ?_
  refine g_iload_n 3 dL_law_1191 rfl ?_
  refine g_iconst (3 : Int32) dL_law_1192 (by decide) ?_
  refine g_iadd dL_law_1193 ?_
  refine g_sld hSC dL_law_1194 (fun _ => ?_)
  refine g_callVI (c_X7_kinds σ ((xs (x3 + (1 : Int32)).toNatClampNeg)) ((xs (x3 + (2 : Int32)).toNatClampNeg)) ((xs (x3 + (3 : Int32)).toNatClampNeg))) okX7_kinds ⟨by decide, by decide⟩ ml_L_133 sh_0 no_0 rfl rfl [.int ((xs (x3 + (1 : Int32)).toNatClampNeg)), .int ((xs (x3 + (2 : Int32)).toNatClampNeg)), .int ((xs (x3 + (3 : Int32)).toNatClampNeg))] rfl rfl rfl (Nat.le_of_ble_eq_true rfl) dL_law_1195 (fun q117 => ?_)
  refine g_aload_n 2 dL_law_1198 rfl ?_
  refine g_aload_n 0 dL_law_1199 rfl ?_
  refine g_iload_n 3 dL_law_1200 rfl ?_
  refine g_iconst (1 : Int32) dL_law_1201 (by decide) ?_
  refine g_iadd dL_law_1202 ?_
  refine g_sld hSC dL_law_1203 (fun _ => ?_)
  refine g_aload_n 0 dL_law_1204 rfl ?_
  refine g_iload_n 3 dL_law_1205 rfl ?_
  refine g_iconst (2 : Int32) dL_law_1206 (by decide) ?_
  refine g_iadd dL_law_1207 ?_
  refine g_sld hSC dL_law_1208 (fun _ => ?_)
  refine g_aload_n 0 dL_law_1209 rfl ?_
  refine g_iload_n 3 dL_law_1210 rfl ?_
  refine g_iconst (3 : Int32) dL_law_1211 (by decide) ?_
  refine g_iadd dL_law_1212 ?_
  refine g_sld hSC dL_law_1213 (fun _ => ?_)
  refine g_callVI (c_X8_kinds q117.1 ((xs (x3 + (1 : Int32)).toNatClampNeg)) ((xs (x3 + (2 : Int32)).toNatClampNeg)) ((xs (x3 + (3 : Int32)).toNatClampNeg))) okX8_kinds ⟨by decide, by decide⟩ ml_L_136 sh_98 no_98 rfl rfl [.int ((xs (x3 + (1 : Int32)).toNatClampNeg)), .int ((xs (x3 + (2 : Int32)).toNatClampNeg)), .int ((xs (x3 + (3 : Int32)).toNatClampNeg))] rfl rfl rfl (Nat.le_of_ble_eq_true rfl) dL_law_1214 (fun q118 => ?_)
  refine g_icmp_eq 1593 dL_law_1217 rfl (fun _ => ?_) (fun _ => ?_)
  · refine g_iinc 3 [(3, .int ((x3 + (6 : Int32)))), (0, .ref b), (1, .ref (xad X (0))), (2, .ref (xad X (98)))] dL_law_1593 rfl (v := x3 + (6 : Int32)) rfl (by decide) rfl ?_
    refine g_goto 18 dL_law_1596 rfl ?_
    refine g_sub [1, 2, 3, 0] rfl ?_
    exact hkb q118.1 ((x3 + (6 : Int32)))
  · refine g_iconst (0 : Int32) dL_law_1220 (by decide) ?_
    exact g_none

set_option maxRecDepth 100000 in
set_option maxHeartbeats 4000000 in
theorem t_L_law_J1222 (X : GX) (hAD : hADp X) (σ : Mem) (L : Nat) (xs : Nat → Int32) (x3 : Int32) (b : Nat) (hSC : SC X b L xs) (kb : Mem → Int32 → Option (Mem × Unit)) (k1599 : Mem → Option (Mem × Unit)) (hkb : ∀ (σ : Mem) (y3 : Int32), GS (lawK X) X mL_law σ 18 [(0, .ref b), (1, .ref (xad X (0))), (2, .ref (xad X (98))), (3, .int y3)] [] (kb σ y3)) (hk1599 : ∀ (σ : Mem), GS (lawK X) X mL_law σ 1599 [] [] (k1599 σ)) : GS (lawK X) X mL_law σ 1222 [(0, .ref b), (1, .ref (xad X (0))), (2, .ref (xad X (98))), (3, .int x3)] [] (L_law_J1222 σ L xs x3 kb k1599) := by
  unfold L_law_J1222
  refine g_aload_n 1 dL_law_1222 rfl ?_
  refine g_aload_n 0 dL_law_1223 rfl ?_
  refine g_iload_n 3 dL_law_1224 rfl ?_
  refine g_iconst (1 : Int32) dL_law_1225 (by decide) ?_
  refine g_iadd dL_law_1226 ?_
  refine g_sld hSC dL_law_1227 (fun _ => ?_)
  refine g_aload_n 0 dL_law_1228 rfl ?_
  refine g_iload_n 3 dL_law_1229 rfl ?_
  refine g_iconst (2 : Int32) dL_law_1230 (by decide) ?_
  refine g_iadd dL_law_1231 ?_
  refine g_sld hSC dL_law_1232 (fun _ => ?_)
  refine g_aload_n 0 dL_law_1233 rfl ?_
  refine g_iload_n 3 dL_law_1234 rfl ?_
  refine g_iconst (3 : Int32) dL_law_1235 (by decide) ?_
  refine g_iadd dL_law_1236 ?_
  refine g_sld hSC dL_law_1237 (fun _ => ?_)
  refine g_callVI (c_X7_odds σ ((xs (x3 + (1 : Int32)).toNatClampNeg)) ((xs (x3 + (2 : Int32)).toNatClampNeg)) ((xs (x3 + (3 : Int32)).toNatClampNeg))) okX7_odds ⟨by decide, by decide⟩ ml_L_137 sh_0 no_0 rfl rfl [.int ((xs (x3 + (1 : Int32)).toNatClampNeg)), .int ((xs (x3 + (2 : Int32)).toNatClampNeg)), .int ((xs (x3 + (3 : Int32)).toNatClampNeg))] rfl rfl rfl (Nat.le_of_ble_eq_true rfl) dL_law_1238 (fun q121 => ?_)
  refine g_aload_n 2 dL_law_1241 rfl ?_
  refine g_aload_n 0 dL_law_1242 rfl ?_
  refine g_iload_n 3 dL_law_1243 rfl ?_
  refine g_iconst (1 : Int32) dL_law_1244 (by decide) ?_
  refine g_iadd dL_law_1245 ?_
  refine g_sld hSC dL_law_1246 (fun _ => ?_)
  refine g_aload_n 0 dL_law_1247 rfl ?_
  refine g_iload_n 3 dL_law_1248 rfl ?_
  refine g_iconst (2 : Int32) dL_law_1249 (by decide) ?_
  refine g_iadd dL_law_1250 ?_
  refine g_sld hSC dL_law_1251 (fun _ => ?_)
  refine g_aload_n 0 dL_law_1252 rfl ?_
  refine g_iload_n 3 dL_law_1253 rfl ?_
  refine g_iconst (3 : Int32) dL_law_1254 (by decide) ?_
  refine g_iadd dL_law_1255 ?_
  refine g_sld hSC dL_law_1256 (fun _ => ?_)
  refine g_callVI (c_X8_odds q121.1 ((xs (x3 + (1 : Int32)).toNatClampNeg)) ((xs (x3 + (2 : Int32)).toNatClampNeg)) ((xs (x3 + (3 : Int32)).toNatClampNeg))) okX8_odds ⟨by decide, by decide⟩ ml_L_140 sh_98 no_98 rfl rfl [.int ((xs (x3 + (1 : Int32)).toNatClampNeg)), .int ((xs (x3 + (2 : Int32)).toNatClampNeg)), .int ((xs (x3 + (3 : Int32)).toNatClampNeg))] rfl rfl rfl (Nat.le_of_ble_eq_true rfl) dL_law_1257 (fun q122 => ?_)
  refine g_icmp_eq 1593 dL_law_1260 rfl (fun _ => ?_) (fun _ => ?_)
  · refine g_iinc 3 [(3, .int ((x3 + (6 : Int32)))), (0, .ref b), (1, .ref (xad X (0))), (2, .ref (xad X (98)))] dL_law_1593 rfl (v := x3 + (6 : Int32)) rfl (by decide) rfl ?_
    refine g_goto 18 dL_law_1596 rfl ?_
    refine g_sub [1, 2, 3, 0] rfl ?_
    exact hkb q122.1 ((x3 + (6 : Int32)))
  · refine g_iconst (0 : Int32) dL_law_1263 (by decide) ?_
    exact g_none

set_option maxRecDepth 100000 in
set_option maxHeartbeats 4000000 in
theorem t_L_law_J1265 (X : GX) (hAD : hADp X) (σ : Mem) (L : Nat) (xs : Nat → Int32) (x3 : Int32) (b : Nat) (hSC : SC X b L xs) (kb : Mem → Int32 → Option (Mem × Unit)) (k1599 : Mem → Option (Mem × Unit)) (hkb : ∀ (σ : Mem) (y3 : Int32), GS (lawK X) X mL_law σ 18 [(0, .ref b), (1, .ref (xad X (0))), (2, .ref (xad X (98))), (3, .int y3)] [] (kb σ y3)) (hk1599 : ∀ (σ : Mem), GS (lawK X) X mL_law σ 1599 [] [] (k1599 σ)) : GS (lawK X) X mL_law σ 1265 [(0, .ref b), (1, .ref (xad X (0))), (2, .ref (xad X (98))), (3, .int x3)] [] (L_law_J1265 σ L xs x3 kb k1599) := by
  unfold L_law_J1265
  refine g_aload_n 1 dL_law_1265 rfl ?_
  refine g_aload_n 0 dL_law_1266 rfl ?_
  refine g_iload_n 3 dL_law_1267 rfl ?_
  refine g_iconst (1 : Int32) dL_law_1268 (by decide) ?_
  refine g_iadd dL_law_1269 ?_
  refine g_sld hSC dL_law_1270 (fun _ => ?_)
  refine g_aload_n 0 dL_law_1271 rfl ?_
  refine g_iload_n 3 dL_law_1272 rfl ?_
  refine g_iconst (2 : Int32) dL_law_1273 (by decide) ?_
  refine g_iadd dL_law_1274 ?_
  refine g_sld hSC dL_law_1275 (fun _ => ?_)
  refine g_callVI (c_X7_mid σ ((xs (x3 + (1 : Int32)).toNatClampNeg)) ((xs (x3 + (2 : Int32)).toNatClampNeg))) okX7_mid ⟨by decide, by decide⟩ ml_L_141 sh_0 no_0 rfl rfl [.int ((xs (x3 + (1 : Int32)).toNatClampNeg)), .int ((xs (x3 + (2 : Int32)).toNatClampNeg))] rfl rfl rfl (Nat.le_of_ble_eq_true rfl) dL_law_1276 (fun q125 => ?_)
  refine g_aload_n 2 dL_law_1279 rfl ?_
  refine g_aload_n 0 dL_law_1280 rfl ?_
  refine g_iload_n 3 dL_law_1281 rfl ?_
  refine g_iconst (1 : Int32) dL_law_1282 (by decide) ?_
  refine g_iadd dL_law_1283 ?_
  refine g_sld hSC dL_law_1284 (fun _ => ?_)
  refine g_aload_n 0 dL_law_1285 rfl ?_
  refine g_iload_n 3 dL_law_1286 rfl ?_
  refine g_iconst (2 : Int32) dL_law_1287 (by decide) ?_
  refine g_iadd dL_law_1288 ?_
  refine g_sld hSC dL_law_1289 (fun _ => ?_)
  refine g_callVI (c_X8_mid q125.1 ((xs (x3 + (1 : Int32)).toNatClampNeg)) ((xs (x3 + (2 : Int32)).toNatClampNeg))) okX8_mid ⟨by decide, by decide⟩ ml_L_144 sh_98 no_98 rfl rfl [.int ((xs (x3 + (1 : Int32)).toNatClampNeg)), .int ((xs (x3 + (2 : Int32)).toNatClampNeg))] rfl rfl rfl (Nat.le_of_ble_eq_true rfl) dL_law_1290 (fun q126 => ?_)
  refine g_icmp_eq 1593 dL_law_1293 rfl (fun _ => ?_) (fun _ => ?_)
  · refine g_iinc 3 [(3, .int ((x3 + (6 : Int32)))), (0, .ref b), (1, .ref (xad X (0))), (2, .ref (xad X (98)))] dL_law_1593 rfl (v := x3 + (6 : Int32)) rfl (by decide) rfl ?_
    refine g_goto 18 dL_law_1596 rfl ?_
    refine g_sub [1, 2, 3, 0] rfl ?_
    exact hkb q126.1 ((x3 + (6 : Int32)))
  · refine g_iconst (0 : Int32) dL_law_1296 (by decide) ?_
    exact g_none

set_option maxRecDepth 100000 in
set_option maxHeartbeats 4000000 in
theorem t_L_law_J1298 (X : GX) (hAD : hADp X) (σ : Mem) (L : Nat) (xs : Nat → Int32) (x3 : Int32) (b : Nat) (hSC : SC X b L xs) (kb : Mem → Int32 → Option (Mem × Unit)) (k1599 : Mem → Option (Mem × Unit)) (hkb : ∀ (σ : Mem) (y3 : Int32), GS (lawK X) X mL_law σ 18 [(0, .ref b), (1, .ref (xad X (0))), (2, .ref (xad X (98))), (3, .int y3)] [] (kb σ y3)) (hk1599 : ∀ (σ : Mem), GS (lawK X) X mL_law σ 1599 [] [] (k1599 σ)) : GS (lawK X) X mL_law σ 1298 [(0, .ref b), (1, .ref (xad X (0))), (2, .ref (xad X (98))), (3, .int x3)] [] (L_law_J1298 σ L xs x3 kb k1599) := by
  unfold L_law_J1298
  refine g_aload_n 1 dL_law_1298 rfl ?_
  refine g_aload_n 0 dL_law_1299 rfl ?_
  refine g_iload_n 3 dL_law_1300 rfl ?_
  refine g_iconst (1 : Int32) dL_law_1301 (by decide) ?_
  refine g_iadd dL_law_1302 ?_
  refine g_sld hSC dL_law_1303 (fun _ => ?_)
  refine g_callVI (c_X7_print σ ((xs (x3 + (1 : Int32)).toNatClampNeg))) okX7_print ⟨by decide, by decide⟩ ml_L_145 sh_0 no_0 rfl rfl [.int ((xs (x3 + (1 : Int32)).toNatClampNeg))] rfl rfl rfl (Nat.le_of_ble_eq_true rfl) dL_law_1304 (fun q129 => ?_)
  refine g_aload_n 2 dL_law_1307 rfl ?_
  refine g_aload_n 0 dL_law_1308 rfl ?_
  refine g_iload_n 3 dL_law_1309 rfl ?_
  refine g_iconst (1 : Int32) dL_law_1310 (by decide) ?_
  refine g_iadd dL_law_1311 ?_
  refine g_sld hSC dL_law_1312 (fun _ => ?_)
  refine g_callVI (c_X8_print q129.1 ((xs (x3 + (1 : Int32)).toNatClampNeg))) okX8_print ⟨by decide, by decide⟩ ml_L_148 sh_98 no_98 rfl rfl [.int ((xs (x3 + (1 : Int32)).toNatClampNeg))] rfl rfl rfl (Nat.le_of_ble_eq_true rfl) dL_law_1313 (fun q130 => ?_)
  refine g_icmp_eq 1593 dL_law_1316 rfl (fun _ => ?_) (fun _ => ?_)
  · refine g_iinc 3 [(3, .int ((x3 + (6 : Int32)))), (0, .ref b), (1, .ref (xad X (0))), (2, .ref (xad X (98)))] dL_law_1593 rfl (v := x3 + (6 : Int32)) rfl (by decide) rfl ?_
    refine g_goto 18 dL_law_1596 rfl ?_
    refine g_sub [1, 2, 3, 0] rfl ?_
    exact hkb q130.1 ((x3 + (6 : Int32)))
  · refine g_iconst (0 : Int32) dL_law_1319 (by decide) ?_
    exact g_none

set_option maxRecDepth 100000 in
set_option maxHeartbeats 4000000 in
theorem t_L_law_J1321 (X : GX) (hAD : hADp X) (σ : Mem) (L : Nat) (xs : Nat → Int32) (x3 : Int32) (b : Nat) (hSC : SC X b L xs) (kb : Mem → Int32 → Option (Mem × Unit)) (k1599 : Mem → Option (Mem × Unit)) (hkb : ∀ (σ : Mem) (y3 : Int32), GS (lawK X) X mL_law σ 18 [(0, .ref b), (1, .ref (xad X (0))), (2, .ref (xad X (98))), (3, .int y3)] [] (kb σ y3)) (hk1599 : ∀ (σ : Mem), GS (lawK X) X mL_law σ 1599 [] [] (k1599 σ)) : GS (lawK X) X mL_law σ 1321 [(0, .ref b), (1, .ref (xad X (0))), (2, .ref (xad X (98))), (3, .int x3)] [] (L_law_J1321 σ L xs x3 kb k1599) := by
  unfold L_law_J1321
  refine g_aload_n 1 dL_law_1321 rfl ?_
  refine g_aload_n 0 dL_law_1322 rfl ?_
  refine g_iload_n 3 dL_law_1323 rfl ?_
  refine g_iconst (1 : Int32) dL_law_1324 (by decide) ?_
  refine g_iadd dL_law_1325 ?_
  refine g_sld hSC dL_law_1326 (fun _ => ?_)
  refine g_callVI (c_X7_ink σ ((xs (x3 + (1 : Int32)).toNatClampNeg))) okX7_ink ⟨by decide, by decide⟩ ml_L_149 sh_0 no_0 rfl rfl [.int ((xs (x3 + (1 : Int32)).toNatClampNeg))] rfl rfl rfl (Nat.le_of_ble_eq_true rfl) dL_law_1327 (fun q133 => ?_)
  refine g_aload_n 2 dL_law_1330 rfl ?_
  refine g_aload_n 0 dL_law_1331 rfl ?_
  refine g_iload_n 3 dL_law_1332 rfl ?_
  refine g_iconst (1 : Int32) dL_law_1333 (by decide) ?_
  refine g_iadd dL_law_1334 ?_
  refine g_sld hSC dL_law_1335 (fun _ => ?_)
  refine g_callVI (c_X8_ink q133.1 ((xs (x3 + (1 : Int32)).toNatClampNeg))) okX8_ink ⟨by decide, by decide⟩ ml_L_152 sh_98 no_98 rfl rfl [.int ((xs (x3 + (1 : Int32)).toNatClampNeg))] rfl rfl rfl (Nat.le_of_ble_eq_true rfl) dL_law_1336 (fun q134 => ?_)
  refine g_icmp_eq 1593 dL_law_1339 rfl (fun _ => ?_) (fun _ => ?_)
  · refine g_iinc 3 [(3, .int ((x3 + (6 : Int32)))), (0, .ref b), (1, .ref (xad X (0))), (2, .ref (xad X (98)))] dL_law_1593 rfl (v := x3 + (6 : Int32)) rfl (by decide) rfl ?_
    refine g_goto 18 dL_law_1596 rfl ?_
    refine g_sub [1, 2, 3, 0] rfl ?_
    exact hkb q134.1 ((x3 + (6 : Int32)))
  · refine g_iconst (0 : Int32) dL_law_1342 (by decide) ?_
    exact g_none

set_option maxRecDepth 100000 in
set_option maxHeartbeats 4000000 in
theorem t_L_law_J1344 (X : GX) (hAD : hADp X) (σ : Mem) (L : Nat) (xs : Nat → Int32) (x3 : Int32) (b : Nat) (hSC : SC X b L xs) (kb : Mem → Int32 → Option (Mem × Unit)) (k1599 : Mem → Option (Mem × Unit)) (hkb : ∀ (σ : Mem) (y3 : Int32), GS (lawK X) X mL_law σ 18 [(0, .ref b), (1, .ref (xad X (0))), (2, .ref (xad X (98))), (3, .int y3)] [] (kb σ y3)) (hk1599 : ∀ (σ : Mem), GS (lawK X) X mL_law σ 1599 [] [] (k1599 σ)) : GS (lawK X) X mL_law σ 1344 [(0, .ref b), (1, .ref (xad X (0))), (2, .ref (xad X (98))), (3, .int x3)] [] (L_law_J1344 σ L xs x3 kb k1599) := by
  unfold L_law_J1344
  refine g_aload_n 1 dL_law_1344 rfl ?_
  refine g_aload_n 0 dL_law_1345 rfl ?_
  refine g_iload_n 3 dL_law_1346 rfl ?_
  refine g_iconst (1 : Int32) dL_law_1347 (by decide) ?_
  refine g_iadd dL_law_1348 ?_
  refine g_sld hSC dL_law_1349 (fun _ => ?_)
  refine g_callVI (c_X7_undo σ ((xs (x3 + (1 : Int32)).toNatClampNeg))) okX7_undo ⟨by decide, by decide⟩ ml_L_153 sh_0 no_0 rfl rfl [.int ((xs (x3 + (1 : Int32)).toNatClampNeg))] rfl rfl rfl (Nat.le_of_ble_eq_true rfl) dL_law_1350 (fun q137 => ?_)
  refine g_aload_n 2 dL_law_1353 rfl ?_
  refine g_aload_n 0 dL_law_1354 rfl ?_
  refine g_iload_n 3 dL_law_1355 rfl ?_
  refine g_iconst (1 : Int32) dL_law_1356 (by decide) ?_
  refine g_iadd dL_law_1357 ?_
  refine g_sld hSC dL_law_1358 (fun _ => ?_)
  refine g_callVI (c_X8_undo q137.1 ((xs (x3 + (1 : Int32)).toNatClampNeg))) okX8_undo ⟨by decide, by decide⟩ ml_L_156 sh_98 no_98 rfl rfl [.int ((xs (x3 + (1 : Int32)).toNatClampNeg))] rfl rfl rfl (Nat.le_of_ble_eq_true rfl) dL_law_1359 (fun q138 => ?_)
  refine g_icmp_eq 1593 dL_law_1362 rfl (fun _ => ?_) (fun _ => ?_)
  · refine g_iinc 3 [(3, .int ((x3 + (6 : Int32)))), (0, .ref b), (1, .ref (xad X (0))), (2, .ref (xad X (98)))] dL_law_1593 rfl (v := x3 + (6 : Int32)) rfl (by decide) rfl ?_
    refine g_goto 18 dL_law_1596 rfl ?_
    refine g_sub [1, 2, 3, 0] rfl ?_
    exact hkb q138.1 ((x3 + (6 : Int32)))
  · refine g_iconst (0 : Int32) dL_law_1365 (by decide) ?_
    exact g_none

set_option maxRecDepth 100000 in
set_option maxHeartbeats 4000000 in
theorem t_L_law_J1367 (X : GX) (hAD : hADp X) (σ : Mem) (L : Nat) (xs : Nat → Int32) (x3 : Int32) (b : Nat) (hSC : SC X b L xs) (kb : Mem → Int32 → Option (Mem × Unit)) (k1599 : Mem → Option (Mem × Unit)) (hkb : ∀ (σ : Mem) (y3 : Int32), GS (lawK X) X mL_law σ 18 [(0, .ref b), (1, .ref (xad X (0))), (2, .ref (xad X (98))), (3, .int y3)] [] (kb σ y3)) (hk1599 : ∀ (σ : Mem), GS (lawK X) X mL_law σ 1599 [] [] (k1599 σ)) : GS (lawK X) X mL_law σ 1367 [(0, .ref b), (1, .ref (xad X (0))), (2, .ref (xad X (98))), (3, .int x3)] [] (L_law_J1367 σ L xs x3 kb k1599) := by
  unfold L_law_J1367
  refine g_aload_n 1 dL_law_1367 rfl ?_
  refine g_aload_n 0 dL_law_1368 rfl ?_
  refine g_iload_n 3 dL_law_1369 rfl ?_
  refine g_iconst (1 : Int32) dL_law_1370 (by decide) ?_
  refine g_iadd dL_law_1371 ?_
  refine g_sld hSC dL_law_1372 (fun _ => ?_)
  refine g_aload_n 0 dL_law_1373 rfl ?_
  refine g_iload_n 3 dL_law_1374 rfl ?_
  refine g_iconst (2 : Int32) dL_law_1375 (by decide) ?_
  refine g_iadd dL_law_1376 ?_
  refine g_sld hSC dL_law_1377 (fun _ => ?_)
  refine g_callVI (c_X7_drawer σ ((xs (x3 + (1 : Int32)).toNatClampNeg)) ((xs (x3 + (2 : Int32)).toNatClampNeg))) okX7_drawer ⟨by decide, by decide⟩ ml_L_157 sh_0 no_0 rfl rfl [.int ((xs (x3 + (1 : Int32)).toNatClampNeg)), .int ((xs (x3 + (2 : Int32)).toNatClampNeg))] rfl rfl rfl (Nat.le_of_ble_eq_true rfl) dL_law_1378 (fun q141 => ?_)
  refine g_aload_n 2 dL_law_1381 rfl ?_
  refine g_aload_n 0 dL_law_1382 rfl ?_
  refine g_iload_n 3 dL_law_1383 rfl ?_
  refine g_iconst (1 : Int32) dL_law_1384 (by decide) ?_
  refine g_iadd dL_law_1385 ?_
  refine g_sld hSC dL_law_1386 (fun _ => ?_)
  refine g_aload_n 0 dL_law_1387 rfl ?_
  refine g_iload_n 3 dL_law_1388 rfl ?_
  refine g_iconst (2 : Int32) dL_law_1389 (by decide) ?_
  refine g_iadd dL_law_1390 ?_
  refine g_sld hSC dL_law_1391 (fun _ => ?_)
  refine g_callVI (c_X8_drawer q141.1 ((xs (x3 + (1 : Int32)).toNatClampNeg)) ((xs (x3 + (2 : Int32)).toNatClampNeg))) okX8_drawer ⟨by decide, by decide⟩ ml_L_160 sh_98 no_98 rfl rfl [.int ((xs (x3 + (1 : Int32)).toNatClampNeg)), .int ((xs (x3 + (2 : Int32)).toNatClampNeg))] rfl rfl rfl (Nat.le_of_ble_eq_true rfl) dL_law_1392 (fun q142 => ?_)
  refine g_icmp_eq 1593 dL_law_1395 rfl (fun _ => ?_) (fun _ => ?_)
  · refine g_iinc 3 [(3, .int ((x3 + (6 : Int32)))), (0, .ref b), (1, .ref (xad X (0))), (2, .ref (xad X (98)))] dL_law_1593 rfl (v := x3 + (6 : Int32)) rfl (by decide) rfl ?_
    refine g_goto 18 dL_law_1596 rfl ?_
    refine g_sub [1, 2, 3, 0] rfl ?_
    exact hkb q142.1 ((x3 + (6 : Int32)))
  · refine g_iconst (0 : Int32) dL_law_1398 (by decide) ?_
    exact g_none

set_option maxRecDepth 100000 in
set_option maxHeartbeats 4000000 in
theorem t_L_law_J1400 (X : GX) (hAD : hADp X) (σ : Mem) (L : Nat) (xs : Nat → Int32) (x3 : Int32) (b : Nat) (hSC : SC X b L xs) (kb : Mem → Int32 → Option (Mem × Unit)) (k1599 : Mem → Option (Mem × Unit)) (hkb : ∀ (σ : Mem) (y3 : Int32), GS (lawK X) X mL_law σ 18 [(0, .ref b), (1, .ref (xad X (0))), (2, .ref (xad X (98))), (3, .int y3)] [] (kb σ y3)) (hk1599 : ∀ (σ : Mem), GS (lawK X) X mL_law σ 1599 [] [] (k1599 σ)) : GS (lawK X) X mL_law σ 1400 [(0, .ref b), (1, .ref (xad X (0))), (2, .ref (xad X (98))), (3, .int x3)] [] (L_law_J1400 σ L xs x3 kb k1599) := by
  unfold L_law_J1400
  refine g_aload_n 1 dL_law_1400 rfl ?_
  refine g_aload_n 0 dL_law_1401 rfl ?_
  refine g_iload_n 3 dL_law_1402 rfl ?_
  refine g_iconst (1 : Int32) dL_law_1403 (by decide) ?_
  refine g_iadd dL_law_1404 ?_
  refine g_sld hSC dL_law_1405 (fun _ => ?_)
  refine g_aload_n 0 dL_law_1406 rfl ?_
  refine g_iload_n 3 dL_law_1407 rfl ?_
  refine g_iconst (2 : Int32) dL_law_1408 (by decide) ?_
  refine g_iadd dL_law_1409 ?_
  refine g_sld hSC dL_law_1410 (fun _ => ?_)
  refine g_callVI (c_X7_lots σ ((xs (x3 + (1 : Int32)).toNatClampNeg)) ((xs (x3 + (2 : Int32)).toNatClampNeg))) okX7_lots ⟨by decide, by decide⟩ ml_L_161 sh_0 no_0 rfl rfl [.int ((xs (x3 + (1 : Int32)).toNatClampNeg)), .int ((xs (x3 + (2 : Int32)).toNatClampNeg))] rfl rfl rfl (Nat.le_of_ble_eq_true rfl) dL_law_1411 (fun q145 => ?_)
  refine g_aload_n 2 dL_law_1414 rfl ?_
  refine g_aload_n 0 dL_law_1415 rfl ?_
  refine g_iload_n 3 dL_law_1416 rfl ?_
  refine g_iconst (1 : Int32) dL_law_1417 (by decide) ?_
  refine g_iadd dL_law_1418 ?_
  refine g_sld hSC dL_law_1419 (fun _ => ?_)
  refine g_aload_n 0 dL_law_1420 rfl ?_
  refine g_iload_n 3 dL_law_1421 rfl ?_
  refine g_iconst (2 : Int32) dL_law_1422 (by decide) ?_
  refine g_iadd dL_law_1423 ?_
  refine g_sld hSC dL_law_1424 (fun _ => ?_)
  refine g_callVI (c_X8_lots q145.1 ((xs (x3 + (1 : Int32)).toNatClampNeg)) ((xs (x3 + (2 : Int32)).toNatClampNeg))) okX8_lots ⟨by decide, by decide⟩ ml_L_164 sh_98 no_98 rfl rfl [.int ((xs (x3 + (1 : Int32)).toNatClampNeg)), .int ((xs (x3 + (2 : Int32)).toNatClampNeg))] rfl rfl rfl (Nat.le_of_ble_eq_true rfl) dL_law_1425 (fun q146 => ?_)
  refine g_icmp_eq 1593 dL_law_1428 rfl (fun _ => ?_) (fun _ => ?_)
  · refine g_iinc 3 [(3, .int ((x3 + (6 : Int32)))), (0, .ref b), (1, .ref (xad X (0))), (2, .ref (xad X (98)))] dL_law_1593 rfl (v := x3 + (6 : Int32)) rfl (by decide) rfl ?_
    refine g_goto 18 dL_law_1596 rfl ?_
    refine g_sub [1, 2, 3, 0] rfl ?_
    exact hkb q146.1 ((x3 + (6 : Int32)))
  · refine g_iconst (0 : Int32) dL_law_1431 (by decide) ?_
    exact g_none

set_option maxRecDepth 100000 in
set_option maxHeartbeats 4000000 in
theorem t_L_law_J1433 (X : GX) (hAD : hADp X) (σ : Mem) (L : Nat) (xs : Nat → Int32) (x3 : Int32) (b : Nat) (hSC : SC X b L xs) (kb : Mem → Int32 → Option (Mem × Unit)) (k1599 : Mem → Option (Mem × Unit)) (hkb : ∀ (σ : Mem) (y3 : Int32), GS (lawK X) X mL_law σ 18 [(0, .ref b), (1, .ref (xad X (0))), (2, .ref (xad X (98))), (3, .int y3)] [] (kb σ y3)) (hk1599 : ∀ (σ : Mem), GS (lawK X) X mL_law σ 1599 [] [] (k1599 σ)) : GS (lawK X) X mL_law σ 1433 [(0, .ref b), (1, .ref (xad X (0))), (2, .ref (xad X (98))), (3, .int x3)] [] (L_law_J1433 σ L xs x3 kb k1599) := by
  unfold L_law_J1433
  refine g_aload_n 1 dL_law_1433 rfl ?_
  refine g_aload_n 0 dL_law_1434 rfl ?_
  refine g_iload_n 3 dL_law_1435 rfl ?_
  refine g_iconst (1 : Int32) dL_law_1436 (by decide) ?_
  refine g_iadd dL_law_1437 ?_
  refine g_sld hSC dL_law_1438 (fun _ => ?_)
  refine g_callVI (c_X7_keep σ ((xs (x3 + (1 : Int32)).toNatClampNeg))) okX7_keep ⟨by decide, by decide⟩ ml_L_165 sh_0 no_0 rfl rfl [.int ((xs (x3 + (1 : Int32)).toNatClampNeg))] rfl rfl rfl (Nat.le_of_ble_eq_true rfl) dL_law_1439 (fun q149 => ?_)
  refine g_aload_n 2 dL_law_1442 rfl ?_
  refine g_aload_n 0 dL_law_1443 rfl ?_
  refine g_iload_n 3 dL_law_1444 rfl ?_
  refine g_iconst (1 : Int32) dL_law_1445 (by decide) ?_
  refine g_iadd dL_law_1446 ?_
  refine g_sld hSC dL_law_1447 (fun _ => ?_)
  refine g_callVI (c_X8_keep q149.1 ((xs (x3 + (1 : Int32)).toNatClampNeg))) okX8_keep ⟨by decide, by decide⟩ ml_L_168 sh_98 no_98 rfl rfl [.int ((xs (x3 + (1 : Int32)).toNatClampNeg))] rfl rfl rfl (Nat.le_of_ble_eq_true rfl) dL_law_1448 (fun q150 => ?_)
  refine g_icmp_eq 1593 dL_law_1451 rfl (fun _ => ?_) (fun _ => ?_)
  · refine g_iinc 3 [(3, .int ((x3 + (6 : Int32)))), (0, .ref b), (1, .ref (xad X (0))), (2, .ref (xad X (98)))] dL_law_1593 rfl (v := x3 + (6 : Int32)) rfl (by decide) rfl ?_
    refine g_goto 18 dL_law_1596 rfl ?_
    refine g_sub [1, 2, 3, 0] rfl ?_
    exact hkb q150.1 ((x3 + (6 : Int32)))
  · refine g_iconst (0 : Int32) dL_law_1454 (by decide) ?_
    exact g_none

set_option maxRecDepth 100000 in
set_option maxHeartbeats 4000000 in
theorem t_L_law_J1456 (X : GX) (hAD : hADp X) (σ : Mem) (L : Nat) (xs : Nat → Int32) (x3 : Int32) (b : Nat) (hSC : SC X b L xs) (kb : Mem → Int32 → Option (Mem × Unit)) (k1599 : Mem → Option (Mem × Unit)) (hkb : ∀ (σ : Mem) (y3 : Int32), GS (lawK X) X mL_law σ 18 [(0, .ref b), (1, .ref (xad X (0))), (2, .ref (xad X (98))), (3, .int y3)] [] (kb σ y3)) (hk1599 : ∀ (σ : Mem), GS (lawK X) X mL_law σ 1599 [] [] (k1599 σ)) : GS (lawK X) X mL_law σ 1456 [(0, .ref b), (1, .ref (xad X (0))), (2, .ref (xad X (98))), (3, .int x3)] [] (L_law_J1456 σ L xs x3 kb k1599) := by
  unfold L_law_J1456
  refine g_aload_n 1 dL_law_1456 rfl ?_
  refine g_aload_n 0 dL_law_1457 rfl ?_
  refine g_iload_n 3 dL_law_1458 rfl ?_
  refine g_iconst (1 : Int32) dL_law_1459 (by decide) ?_
  refine g_iadd dL_law_1460 ?_
  refine g_sld hSC dL_law_1461 (fun _ => ?_)
  refine g_callVI (c_X7_on σ ((xs (x3 + (1 : Int32)).toNatClampNeg))) okX7_on ⟨by decide, by decide⟩ ml_L_169 sh_0 no_0 rfl rfl [.int ((xs (x3 + (1 : Int32)).toNatClampNeg))] rfl rfl rfl (Nat.le_of_ble_eq_true rfl) dL_law_1462 (fun q153 => ?_)
  refine g_aload_n 2 dL_law_1465 rfl ?_
  refine g_aload_n 0 dL_law_1466 rfl ?_
  refine g_iload_n 3 dL_law_1467 rfl ?_
  refine g_iconst (1 : Int32) dL_law_1468 (by decide) ?_
  refine g_iadd dL_law_1469 ?_
  refine g_sld hSC dL_law_1470 (fun _ => ?_)
  refine g_callVI (c_X8_on q153.1 ((xs (x3 + (1 : Int32)).toNatClampNeg))) okX8_on ⟨by decide, by decide⟩ ml_L_172 sh_98 no_98 rfl rfl [.int ((xs (x3 + (1 : Int32)).toNatClampNeg))] rfl rfl rfl (Nat.le_of_ble_eq_true rfl) dL_law_1471 (fun q154 => ?_)
  refine g_icmp_eq 1593 dL_law_1474 rfl (fun _ => ?_) (fun _ => ?_)
  · refine g_iinc 3 [(3, .int ((x3 + (6 : Int32)))), (0, .ref b), (1, .ref (xad X (0))), (2, .ref (xad X (98)))] dL_law_1593 rfl (v := x3 + (6 : Int32)) rfl (by decide) rfl ?_
    refine g_goto 18 dL_law_1596 rfl ?_
    refine g_sub [1, 2, 3, 0] rfl ?_
    exact hkb q154.1 ((x3 + (6 : Int32)))
  · refine g_iconst (0 : Int32) dL_law_1477 (by decide) ?_
    exact g_none

set_option maxRecDepth 100000 in
set_option maxHeartbeats 4000000 in
theorem t_L_law_J1479 (X : GX) (hAD : hADp X) (σ : Mem) (L : Nat) (xs : Nat → Int32) (x3 : Int32) (b : Nat) (hSC : SC X b L xs) (kb : Mem → Int32 → Option (Mem × Unit)) (k1599 : Mem → Option (Mem × Unit)) (hkb : ∀ (σ : Mem) (y3 : Int32), GS (lawK X) X mL_law σ 18 [(0, .ref b), (1, .ref (xad X (0))), (2, .ref (xad X (98))), (3, .int y3)] [] (kb σ y3)) (hk1599 : ∀ (σ : Mem), GS (lawK X) X mL_law σ 1599 [] [] (k1599 σ)) : GS (lawK X) X mL_law σ 1479 [(0, .ref b), (1, .ref (xad X (0))), (2, .ref (xad X (98))), (3, .int x3)] [] (L_law_J1479 σ L xs x3 kb k1599) := by
  unfold L_law_J1479
  refine g_aload_n 1 dL_law_1479 rfl ?_
  refine g_callVI (c_X7_asked σ) okX7_asked ⟨by decide, by decide⟩ ml_L_173 sh_0 no_0 rfl rfl [] rfl rfl rfl (Nat.le_of_ble_eq_true rfl) dL_law_1480 (fun q157 => ?_)
  refine g_aload_n 2 dL_law_1483 rfl ?_
  refine g_callVI (c_X8_asked q157.1) okX8_asked ⟨by decide, by decide⟩ ml_L_177 sh_98 no_98 rfl rfl [] rfl rfl rfl (Nat.le_of_ble_eq_true rfl) dL_law_1484 (fun q158 => ?_)
  refine g_icmp_eq 1593 dL_law_1487 rfl (fun _ => ?_) (fun _ => ?_)
  · refine g_iinc 3 [(3, .int ((x3 + (6 : Int32)))), (0, .ref b), (1, .ref (xad X (0))), (2, .ref (xad X (98)))] dL_law_1593 rfl (v := x3 + (6 : Int32)) rfl (by decide) rfl ?_
    refine g_goto 18 dL_law_1596 rfl ?_
    refine g_sub [1, 2, 3, 0] rfl ?_
    exact hkb q158.1 ((x3 + (6 : Int32)))
  · refine g_iconst (0 : Int32) dL_law_1490 (by decide) ?_
    exact g_none

set_option maxRecDepth 100000 in
set_option maxHeartbeats 4000000 in
theorem t_L_law_J1492 (X : GX) (hAD : hADp X) (σ : Mem) (L : Nat) (xs : Nat → Int32) (x3 : Int32) (b : Nat) (hSC : SC X b L xs) (kb : Mem → Int32 → Option (Mem × Unit)) (k1599 : Mem → Option (Mem × Unit)) (hkb : ∀ (σ : Mem) (y3 : Int32), GS (lawK X) X mL_law σ 18 [(0, .ref b), (1, .ref (xad X (0))), (2, .ref (xad X (98))), (3, .int y3)] [] (kb σ y3)) (hk1599 : ∀ (σ : Mem), GS (lawK X) X mL_law σ 1599 [] [] (k1599 σ)) : GS (lawK X) X mL_law σ 1492 [(0, .ref b), (1, .ref (xad X (0))), (2, .ref (xad X (98))), (3, .int x3)] [] (L_law_J1492 σ L xs x3 kb k1599) := by
  unfold L_law_J1492
  refine g_aload_n 1 dL_law_1492 rfl ?_
  refine g_callVJ (c_X7_upper σ) okX7_upper ⟨by decide, by decide⟩ ml_L_178 sh_0 no_0 rfl rfl [] rfl rfl rfl (Nat.le_of_ble_eq_true rfl) dL_law_1493 (fun q161 => ?_)
  refine g_aload_n 2 dL_law_1496 rfl ?_
  refine g_callVJ (c_X8_upper q161.1) okX8_upper ⟨by decide, by decide⟩ ml_L_182 sh_98 no_98 rfl rfl [] rfl rfl rfl (Nat.le_of_ble_eq_true rfl) dL_law_1497 (fun q162 => ?_)
  refine g_lcmp dL_law_1500 ?_
  refine g_if_eq 1593 dL_law_1501 rfl (fun _ => ?_) (fun _ => ?_)
  · refine g_iinc 3 [(3, .int ((x3 + (6 : Int32)))), (0, .ref b), (1, .ref (xad X (0))), (2, .ref (xad X (98)))] dL_law_1593 rfl (v := x3 + (6 : Int32)) rfl (by decide) rfl ?_
    refine g_goto 18 dL_law_1596 rfl ?_
    refine g_sub [1, 2, 3, 0] rfl ?_
    exact hkb q162.1 ((x3 + (6 : Int32)))
  · refine g_iconst (0 : Int32) dL_law_1504 (by decide) ?_
    exact g_none

set_option maxRecDepth 100000 in
set_option maxHeartbeats 4000000 in
theorem t_L_law_J1506 (X : GX) (hAD : hADp X) (σ : Mem) (L : Nat) (xs : Nat → Int32) (x3 : Int32) (b : Nat) (hSC : SC X b L xs) (kb : Mem → Int32 → Option (Mem × Unit)) (k1599 : Mem → Option (Mem × Unit)) (hkb : ∀ (σ : Mem) (y3 : Int32), GS (lawK X) X mL_law σ 18 [(0, .ref b), (1, .ref (xad X (0))), (2, .ref (xad X (98))), (3, .int y3)] [] (kb σ y3)) (hk1599 : ∀ (σ : Mem), GS (lawK X) X mL_law σ 1599 [] [] (k1599 σ)) : GS (lawK X) X mL_law σ 1506 [(0, .ref b), (1, .ref (xad X (0))), (2, .ref (xad X (98))), (3, .int x3)] [] (L_law_J1506 σ L xs x3 kb k1599) := by
  unfold L_law_J1506
  refine g_aload_n 1 dL_law_1506 rfl ?_
  refine g_callVJ (c_X7_lower σ) okX7_lower ⟨by decide, by decide⟩ ml_L_183 sh_0 no_0 rfl rfl [] rfl rfl rfl (Nat.le_of_ble_eq_true rfl) dL_law_1507 (fun q165 => ?_)
  refine g_aload_n 2 dL_law_1510 rfl ?_
  refine g_callVJ (c_X8_lower q165.1) okX8_lower ⟨by decide, by decide⟩ ml_L_186 sh_98 no_98 rfl rfl [] rfl rfl rfl (Nat.le_of_ble_eq_true rfl) dL_law_1511 (fun q166 => ?_)
  refine g_lcmp dL_law_1514 ?_
  refine g_if_eq 1593 dL_law_1515 rfl (fun _ => ?_) (fun _ => ?_)
  · refine g_iinc 3 [(3, .int ((x3 + (6 : Int32)))), (0, .ref b), (1, .ref (xad X (0))), (2, .ref (xad X (98)))] dL_law_1593 rfl (v := x3 + (6 : Int32)) rfl (by decide) rfl ?_
    refine g_goto 18 dL_law_1596 rfl ?_
    refine g_sub [1, 2, 3, 0] rfl ?_
    exact hkb q166.1 ((x3 + (6 : Int32)))
  · refine g_iconst (0 : Int32) dL_law_1518 (by decide) ?_
    exact g_none

set_option maxRecDepth 100000 in
set_option maxHeartbeats 4000000 in
theorem t_L_law_J1520 (X : GX) (hAD : hADp X) (σ : Mem) (L : Nat) (xs : Nat → Int32) (x3 : Int32) (b : Nat) (hSC : SC X b L xs) (kb : Mem → Int32 → Option (Mem × Unit)) (k1599 : Mem → Option (Mem × Unit)) (hkb : ∀ (σ : Mem) (y3 : Int32), GS (lawK X) X mL_law σ 18 [(0, .ref b), (1, .ref (xad X (0))), (2, .ref (xad X (98))), (3, .int y3)] [] (kb σ y3)) (hk1599 : ∀ (σ : Mem), GS (lawK X) X mL_law σ 1599 [] [] (k1599 σ)) : GS (lawK X) X mL_law σ 1520 [(0, .ref b), (1, .ref (xad X (0))), (2, .ref (xad X (98))), (3, .int x3)] [] (L_law_J1520 σ L xs x3 kb k1599) := by
  unfold L_law_J1520
  refine g_aload_n 1 dL_law_1520 rfl ?_
  refine g_aload_n 0 dL_law_1521 rfl ?_
  refine g_iload_n 3 dL_law_1522 rfl ?_
  refine g_iconst (1 : Int32) dL_law_1523 (by decide) ?_
  refine g_iadd dL_law_1524 ?_
  refine g_sld hSC dL_law_1525 (fun _ => ?_)
  refine g_callVI (c_X7_count σ ((xs (x3 + (1 : Int32)).toNatClampNeg))) okX7_count ⟨by decide, by decide⟩ ml_L_187 sh_0 no_0 rfl rfl [.int ((xs (x3 + (1 : Int32)).toNatClampNeg))] rfl rfl rfl (Nat.le_of_ble_eq_true rfl) dL_law_1526 (fun q169 => ?_)
  refine g_aload_n 2 dL_law_1529 rfl ?_
  refine g_aload_n 0 dL_law_1530 rfl ?_
  refine g_iload_n 3 dL_law_1531 rfl ?_
  refine g_iconst (1 : Int32) dL_law_1532 (by decide) ?_
  refine g_iadd dL_law_1533 ?_
  refine g_sld hSC dL_law_1534 (fun _ => ?_)
  refine g_callVI (c_X8_count q169.1 ((xs (x3 + (1 : Int32)).toNatClampNeg))) okX8_count ⟨by decide, by decide⟩ ml_L_190 sh_98 no_98 rfl rfl [.int ((xs (x3 + (1 : Int32)).toNatClampNeg))] rfl rfl rfl (Nat.le_of_ble_eq_true rfl) dL_law_1535 (fun q170 => ?_)
  refine g_icmp_eq 1593 dL_law_1538 rfl (fun _ => ?_) (fun _ => ?_)
  · refine g_iinc 3 [(3, .int ((x3 + (6 : Int32)))), (0, .ref b), (1, .ref (xad X (0))), (2, .ref (xad X (98)))] dL_law_1593 rfl (v := x3 + (6 : Int32)) rfl (by decide) rfl ?_
    refine g_goto 18 dL_law_1596 rfl ?_
    refine g_sub [1, 2, 3, 0] rfl ?_
    exact hkb q170.1 ((x3 + (6 : Int32)))
  · refine g_iconst (0 : Int32) dL_law_1541 (by decide) ?_
    exact g_none

set_option maxRecDepth 100000 in
set_option maxHeartbeats 4000000 in
theorem t_L_law_J1543 (X : GX) (hAD : hADp X) (σ : Mem) (L : Nat) (xs : Nat → Int32) (x3 : Int32) (b : Nat) (hSC : SC X b L xs) (kb : Mem → Int32 → Option (Mem × Unit)) (k1599 : Mem → Option (Mem × Unit)) (hkb : ∀ (σ : Mem) (y3 : Int32), GS (lawK X) X mL_law σ 18 [(0, .ref b), (1, .ref (xad X (0))), (2, .ref (xad X (98))), (3, .int y3)] [] (kb σ y3)) (hk1599 : ∀ (σ : Mem), GS (lawK X) X mL_law σ 1599 [] [] (k1599 σ)) : GS (lawK X) X mL_law σ 1543 [(0, .ref b), (1, .ref (xad X (0))), (2, .ref (xad X (98))), (3, .int x3)] [] (L_law_J1543 σ L xs x3 kb k1599) := by
  unfold L_law_J1543
  refine g_aload_n 1 dL_law_1543 rfl ?_
  refine g_callVI (c_X7_finding σ) okX7_finding ⟨by decide, by decide⟩ ml_L_191 sh_0 no_0 rfl rfl [] rfl rfl rfl (Nat.le_of_ble_eq_true rfl) dL_law_1544 (fun q173 => ?_)
  refine g_aload_n 2 dL_law_1547 rfl ?_
  refine g_callVI (c_X8_finding q173.1) okX8_finding ⟨by decide, by decide⟩ ml_L_194 sh_98 no_98 rfl rfl [] rfl rfl rfl (Nat.le_of_ble_eq_true rfl) dL_law_1548 (fun q174 => ?_)
  refine g_icmp_eq 1593 dL_law_1551 rfl (fun _ => ?_) (fun _ => ?_)
  · refine g_iinc 3 [(3, .int ((x3 + (6 : Int32)))), (0, .ref b), (1, .ref (xad X (0))), (2, .ref (xad X (98)))] dL_law_1593 rfl (v := x3 + (6 : Int32)) rfl (by decide) rfl ?_
    refine g_goto 18 dL_law_1596 rfl ?_
    refine g_sub [1, 2, 3, 0] rfl ?_
    exact hkb q174.1 ((x3 + (6 : Int32)))
  · refine g_iconst (0 : Int32) dL_law_1554 (by decide) ?_
    exact g_none

set_option maxRecDepth 100000 in
set_option maxHeartbeats 4000000 in
theorem t_L_law_J1556 (X : GX) (hAD : hADp X) (σ : Mem) (L : Nat) (xs : Nat → Int32) (x3 : Int32) (b : Nat) (hSC : SC X b L xs) (kb : Mem → Int32 → Option (Mem × Unit)) (k1599 : Mem → Option (Mem × Unit)) (hkb : ∀ (σ : Mem) (y3 : Int32), GS (lawK X) X mL_law σ 18 [(0, .ref b), (1, .ref (xad X (0))), (2, .ref (xad X (98))), (3, .int y3)] [] (kb σ y3)) (hk1599 : ∀ (σ : Mem), GS (lawK X) X mL_law σ 1599 [] [] (k1599 σ)) : GS (lawK X) X mL_law σ 1556 [(0, .ref b), (1, .ref (xad X (0))), (2, .ref (xad X (98))), (3, .int x3)] [] (L_law_J1556 σ L xs x3 kb k1599) := by
  unfold L_law_J1556
  refine g_aload_n 1 dL_law_1556 rfl ?_
  refine g_aload_n 0 dL_law_1557 rfl ?_
  refine g_iload_n 3 dL_law_1558 rfl ?_
  refine g_iconst (1 : Int32) dL_law_1559 (by decide) ?_
  refine g_iadd dL_law_1560 ?_
  refine g_sld hSC dL_law_1561 (fun _ => ?_)
  refine g_callVI (c_X7_findings σ ((xs (x3 + (1 : Int32)).toNatClampNeg))) okX7_findings ⟨by decide, by decide⟩ ml_L_195 sh_0 no_0 rfl rfl [.int ((xs (x3 + (1 : Int32)).toNatClampNeg))] rfl rfl rfl (Nat.le_of_ble_eq_true rfl) dL_law_1562 (fun q177 => ?_)
  refine g_aload_n 2 dL_law_1565 rfl ?_
  refine g_aload_n 0 dL_law_1566 rfl ?_
  refine g_iload_n 3 dL_law_1567 rfl ?_
  refine g_iconst (1 : Int32) dL_law_1568 (by decide) ?_
  refine g_iadd dL_law_1569 ?_
  refine g_sld hSC dL_law_1570 (fun _ => ?_)
  refine g_callVI (c_X8_findings q177.1 ((xs (x3 + (1 : Int32)).toNatClampNeg))) okX8_findings ⟨by decide, by decide⟩ ml_L_198 sh_98 no_98 rfl rfl [.int ((xs (x3 + (1 : Int32)).toNatClampNeg))] rfl rfl rfl (Nat.le_of_ble_eq_true rfl) dL_law_1571 (fun q178 => ?_)
  refine g_icmp_eq 1593 dL_law_1574 rfl (fun _ => ?_) (fun _ => ?_)
  · refine g_iinc 3 [(3, .int ((x3 + (6 : Int32)))), (0, .ref b), (1, .ref (xad X (0))), (2, .ref (xad X (98)))] dL_law_1593 rfl (v := x3 + (6 : Int32)) rfl (by decide) rfl ?_
    refine g_goto 18 dL_law_1596 rfl ?_
    refine g_sub [1, 2, 3, 0] rfl ?_
    exact hkb q178.1 ((x3 + (6 : Int32)))
  · refine g_iconst (0 : Int32) dL_law_1577 (by decide) ?_
    exact g_none

set_option maxRecDepth 100000 in
set_option maxHeartbeats 4000000 in
theorem t_L_law_J1579 (X : GX) (hAD : hADp X) (σ : Mem) (L : Nat) (xs : Nat → Int32) (x3 : Int32) (b : Nat) (hSC : SC X b L xs) (kb : Mem → Int32 → Option (Mem × Unit)) (k1599 : Mem → Option (Mem × Unit)) (hkb : ∀ (σ : Mem) (y3 : Int32), GS (lawK X) X mL_law σ 18 [(0, .ref b), (1, .ref (xad X (0))), (2, .ref (xad X (98))), (3, .int y3)] [] (kb σ y3)) (hk1599 : ∀ (σ : Mem), GS (lawK X) X mL_law σ 1599 [] [] (k1599 σ)) : GS (lawK X) X mL_law σ 1579 [(0, .ref b), (1, .ref (xad X (0))), (2, .ref (xad X (98))), (3, .int x3)] [] (L_law_J1579 σ L xs x3 kb k1599) := by
  unfold L_law_J1579
  refine g_aload_n 1 dL_law_1579 rfl ?_
  refine g_callVJ (c_X7_digest σ) okX7_digest ⟨by decide, by decide⟩ ml_L_199 sh_0 no_0 rfl rfl [] rfl rfl rfl (Nat.le_of_ble_eq_true rfl) dL_law_1580 (fun q181 => ?_)
  refine g_aload_n 2 dL_law_1583 rfl ?_
  refine g_callVJ (c_X8_digest q181.1) okX8_digest ⟨by decide, by decide⟩ ml_L_202 sh_98 no_98 rfl rfl [] rfl rfl rfl (Nat.le_of_ble_eq_true rfl) dL_law_1584 (fun q182 => ?_)
  refine g_lcmp dL_law_1587 ?_
  refine g_if_eq 1593 dL_law_1588 rfl (fun _ => ?_) (fun _ => ?_)
  · refine g_iinc 3 [(3, .int ((x3 + (6 : Int32)))), (0, .ref b), (1, .ref (xad X (0))), (2, .ref (xad X (98)))] dL_law_1593 rfl (v := x3 + (6 : Int32)) rfl (by decide) rfl ?_
    refine g_goto 18 dL_law_1596 rfl ?_
    refine g_sub [1, 2, 3, 0] rfl ?_
    exact hkb q182.1 ((x3 + (6 : Int32)))
  · refine g_iconst (0 : Int32) dL_law_1591 (by decide) ?_
    exact g_none

set_option maxRecDepth 100000 in
set_option maxHeartbeats 4000000 in
theorem t_L_law_L18 (X : GX) (hAD : hADp X) (L : Nat) (xs : Nat → Int32) (b : Nat) (hSC : SC X b L xs) (k1599 : Mem → Option (Mem × Unit)) (hk1599 : ∀ (σ : Mem), GS (lawK X) X mL_law σ 1599 [] [] (k1599 σ)) : ∀ (n : Nat) (σ : Mem) (x3 : Int32), GS (lawK X) X mL_law σ 18 [(0, .ref b), (1, .ref (xad X (0))), (2, .ref (xad X (98))), (3, .int x3)] [] (L_law_L18 L xs k1599 n σ x3) := by
  intro n
  induction n with
  | zero => intros; exact g_none
  | succ n ih =>
    intro σ x3
    rw [L_law_L18]
    refine g_iload_n 3 dL_law_18 rfl ?_
    refine g_aload_n 0 dL_law_19 rfl ?_
    refine g_slen hSC dL_law_20 ?_
    refine g_bipush (6 : Int32) dL_law_21 (by decide) ?_
    refine g_isub dL_law_23 ?_
    refine g_icmp_gt 1599 dL_law_24 rfl (fun _ => ?_) (fun _ => ?_)
    · refine g_sub [] rfl ?_
      exact hk1599 σ
    · refine g_aload_n 0 dL_law_27 rfl ?_
      refine g_iload_n 3 dL_law_28 rfl ?_
      refine g_sld hSC dL_law_29 (fun _ => ?_)
      refine g_bipush (63 : Int32) dL_law_30 (by decide) ?_
      refine g_iand dL_law_32 ?_
      refine g_eqc (0 : Int32) ?_ (fun e4 => ?_)
      · refine g_tableIn 232 dL_law_33 (by decide) (by decide) rfl rfl ?_
        refine g_sub [0, 1, 2, 3] rfl ?_
        exact t_L_law_J232 X hAD σ L xs x3 b hSC _ _ (fun σ y3 => ih σ y3) hk1599
      · refine g_eqc (1 : Int32) ?_ (fun e8 => ?_)
        · refine g_tableIn 265 dL_law_33 (by decide) (by decide) rfl rfl ?_
          refine g_sub [0, 1, 2, 3] rfl ?_
          exact t_L_law_J265 X hAD σ L xs x3 b hSC _ _ (fun σ y3 => ih σ y3) hk1599
        · refine g_eqc (2 : Int32) ?_ (fun e12 => ?_)
          · refine g_tableIn 308 dL_law_33 (by decide) (by decide) rfl rfl ?_
            refine g_sub [0, 1, 2, 3] rfl ?_
            exact t_L_law_J308 X hAD σ L xs x3 b hSC _ _ (fun σ y3 => ih σ y3) hk1599
          · refine g_eqc (3 : Int32) ?_ (fun e16 => ?_)
            · refine g_tableIn 341 dL_law_33 (by decide) (by decide) rfl rfl ?_
              refine g_sub [0, 1, 2, 3] rfl ?_
              exact t_L_law_J341 X hAD σ L xs x3 b hSC _ _ (fun σ y3 => ih σ y3) hk1599
            · refine g_eqc (4 : Int32) ?_ (fun e20 => ?_)
              · refine g_tableIn 364 dL_law_33 (by decide) (by decide) rfl rfl ?_
                refine g_sub [0, 1, 2, 3] rfl ?_
                exact t_L_law_J364 X hAD σ L xs x3 b hSC _ _ (fun σ y3 => ih σ y3) hk1599
              · refine g_eqc (5 : Int32) ?_ (fun e24 => ?_)
                · refine g_tableIn 427 dL_law_33 (by decide) (by decide) rfl rfl ?_
                  refine g_sub [0, 1, 2, 3] rfl ?_
                  exact t_L_law_J427 X hAD σ L xs x3 b hSC _ _ (fun σ y3 => ih σ y3) hk1599
                · refine g_eqc (6 : Int32) ?_ (fun e28 => ?_)
                  · refine g_tableIn 450 dL_law_33 (by decide) (by decide) rfl rfl ?_
                    refine g_sub [0, 1, 2, 3] rfl ?_
                    exact t_L_law_J450 X hAD σ L xs x3 b hSC _ _ (fun σ y3 => ih σ y3) hk1599
                  · refine g_eqc (7 : Int32) ?_ (fun e32 => ?_)
                    · refine g_tableIn 483 dL_law_33 (by decide) (by decide) rfl rfl ?_
                      refine g_sub [0, 1, 2, 3] rfl ?_
                      exact t_L_law_J483 X hAD σ L xs x3 b hSC _ _ (fun σ y3 => ih σ y3) hk1599
                    · refine g_eqc (8 : Int32) ?_ (fun e36 => ?_)
                      · refine g_tableIn 526 dL_law_33 (by decide) (by decide) rfl rfl ?_
                        refine g_sub [0, 1, 2, 3] rfl ?_
                        exact t_L_law_J526 X hAD σ L xs x3 b hSC _ _ (fun σ y3 => ih σ y3) hk1599
                      · refine g_eqc (9 : Int32) ?_ (fun e40 => ?_)
                        · refine g_tableIn 549 dL_law_33 (by decide) (by decide) rfl rfl ?_
                          refine g_sub [0, 1, 2, 3] rfl ?_
                          exact t_L_law_J549 X hAD σ L xs x3 b hSC _ _ (fun σ y3 => ih σ y3) hk1599
                        · refine g_eqc (10 : Int32) ?_ (fun e44 => ?_)
                          · refine g_tableIn 572 dL_law_33 (by decide) (by decide) rfl rfl ?_
                            refine g_sub [0, 1, 2, 3] rfl ?_
                            exact t_L_law_J572 X hAD σ L xs x3 b hSC _ _ (fun σ y3 => ih σ y3) hk1599
                          · refine g_eqc (11 : Int32) ?_ (fun e48 => ?_)
                            · refine g_tableIn 605 dL_law_33 (by decide) (by decide) rfl rfl ?_
                              refine g_sub [0, 1, 2, 3] rfl ?_
                              exact t_L_law_J605 X hAD σ L xs x3 b hSC _ _ (fun σ y3 => ih σ y3) hk1599
                            · refine g_eqc (12 : Int32) ?_ (fun e52 => ?_)
                              · refine g_tableIn 638 dL_law_33 (by decide) (by decide) rfl rfl ?_
                                refine g_sub [0, 1, 2, 3] rfl ?_
                                exact t_L_law_J638 X hAD σ L xs x3 b hSC _ _ (fun σ y3 => ih σ y3) hk1599
                              · refine g_eqc (13 : Int32) ?_ (fun e56 => ?_)
                                · refine g_tableIn 671 dL_law_33 (by decide) (by decide) rfl rfl ?_
                                  refine g_sub [0, 1, 2, 3] rfl ?_
                                  exact t_L_law_J671 X hAD σ L xs x3 b hSC _ _ (fun σ y3 => ih σ y3) hk1599
                                · refine g_eqc (14 : Int32) ?_ (fun e60 => ?_)
                                  · refine g_tableIn 704 dL_law_33 (by decide) (by decide) rfl rfl ?_
                                    refine g_sub [0, 1, 2, 3] rfl ?_
                                    exact t_L_law_J704 X hAD σ L xs x3 b hSC _ _ (fun σ y3 => ih σ y3) hk1599
                                  · refine g_eqc (15 : Int32) ?_ (fun e64 => ?_)
                                    · refine g_tableIn 737 dL_law_33 (by decide) (by decide) rfl rfl ?_
                                      refine g_sub [0, 1, 2, 3] rfl ?_
                                      exact t_L_law_J737 X hAD σ L xs x3 b hSC _ _ (fun σ y3 => ih σ y3) hk1599
                                    · refine g_eqc (16 : Int32) ?_ (fun e68 => ?_)
                                      · refine g_tableIn 770 dL_law_33 (by decide) (by decide) rfl rfl ?_
                                        refine g_sub [0, 1, 2, 3] rfl ?_
                                        exact t_L_law_J770 X hAD σ L xs x3 b hSC _ _ (fun σ y3 => ih σ y3) hk1599
                                      · refine g_eqc (17 : Int32) ?_ (fun e72 => ?_)
                                        · refine g_tableIn 793 dL_law_33 (by decide) (by decide) rfl rfl ?_
                                          refine g_sub [0, 1, 2, 3] rfl ?_
                                          exact t_L_law_J793 X hAD σ L xs x3 b hSC _ _ (fun σ y3 => ih σ y3) hk1599
                                        · refine g_eqc (18 : Int32) ?_ (fun e76 => ?_)
                                          · refine g_tableIn 836 dL_law_33 (by decide) (by decide) rfl rfl ?_
                                            refine g_sub [0, 1, 2, 3] rfl ?_
                                            exact t_L_law_J836 X hAD σ L xs x3 b hSC _ _ (fun σ y3 => ih σ y3) hk1599
                                          · refine g_eqc (19 : Int32) ?_ (fun e80 => ?_)
                                            · refine g_tableIn 859 dL_law_33 (by decide) (by decide) rfl rfl ?_
                                              refine g_sub [0, 1, 2, 3] rfl ?_
                                              exact t_L_law_J859 X hAD σ L xs x3 b hSC _ _ (fun σ y3 => ih σ y3) hk1599
                                            · refine g_eqc (20 : Int32) ?_ (fun e84 => ?_)
                                              · refine g_tableIn 892 dL_law_33 (by decide) (by decide) rfl rfl ?_
                                                refine g_sub [0, 1, 2, 3] rfl ?_
                                                exact t_L_law_J892 X hAD σ L xs x3 b hSC _ _ (fun σ y3 => ih σ y3) hk1599
                                              · refine g_eqc (21 : Int32) ?_ (fun e88 => ?_)
                                                · refine g_tableIn 925 dL_law_33 (by decide) (by decide) rfl rfl ?_
                                                  refine g_sub [0, 1, 2, 3] rfl ?_
                                                  exact t_L_law_J925 X hAD σ L xs x3 b hSC _ _ (fun σ y3 => ih σ y3) hk1599
                                                · refine g_eqc (22 : Int32) ?_ (fun e92 => ?_)
                                                  · refine g_tableIn 958 dL_law_33 (by decide) (by decide) rfl rfl ?_
                                                    refine g_sub [0, 1, 2, 3] rfl ?_
                                                    exact t_L_law_J958 X hAD σ L xs x3 b hSC _ _ (fun σ y3 => ih σ y3) hk1599
                                                  · refine g_eqc (23 : Int32) ?_ (fun e96 => ?_)
                                                    · refine g_tableIn 981 dL_law_33 (by decide) (by decide) rfl rfl ?_
                                                      refine g_sub [0, 1, 2, 3] rfl ?_
                                                      exact t_L_law_J981 X hAD σ L xs x3 b hSC _ _ (fun σ y3 => ih σ y3) hk1599
                                                    · refine g_eqc (24 : Int32) ?_ (fun e100 => ?_)
                                                      · refine g_tableIn 1014 dL_law_33 (by decide) (by decide) rfl rfl ?_
                                                        refine g_sub [0, 1, 2, 3] rfl ?_
                                                        exact t_L_law_J1014 X hAD σ L xs x3 b hSC _ _ (fun σ y3 => ih σ y3) hk1599
                                                      · refine g_eqc (25 : Int32) ?_ (fun e104 => ?_)
                                                        · refine g_tableIn 1047 dL_law_33 (by decide) (by decide) rfl rfl ?_
                                                          refine g_sub [0, 1, 2, 3] rfl ?_
                                                          exact t_L_law_J1047 X hAD σ L xs x3 b hSC _ _ (fun σ y3 => ih σ y3) hk1599
                                                        · refine g_eqc (26 : Int32) ?_ (fun e108 => ?_)
                                                          · refine g_tableIn 1090 dL_law_33 (by decide) (by decide) rfl rfl ?_
                                                            refine g_sub [0, 1, 2, 3] rfl ?_
                                                            exact t_L_law_J1090 X hAD σ L xs x3 b hSC _ _ (fun σ y3 => ih σ y3) hk1599
                                                          · refine g_eqc (27 : Int32) ?_ (fun e112 => ?_)
                                                            · refine g_tableIn 1113 dL_law_33 (by decide) (by decide) rfl rfl ?_
                                                              refine g_sub [0, 1, 2, 3] rfl ?_
                                                              exact t_L_law_J1113 X hAD σ L xs x3 b hSC _ _ (fun σ y3 => ih σ y3) hk1599
                                                            · refine g_eqc (28 : Int32) ?_ (fun e116 => ?_)
                                                              · refine g_tableIn 1146 dL_law_33 (by decide) (by decide) rfl rfl ?_
                                                                refine g_sub [0, 1, 2, 3] rfl ?_
                                                                exact t_L_law_J1146 X hAD σ L xs x3 b hSC _ _ (fun σ y3 => ih σ y3) hk1599
                                                              · refine g_eqc (29 : Int32) ?_ (fun e120 => ?_)
                                                                · refine g_tableIn 1179 dL_law_33 (by decide) (by decide) rfl rfl ?_
                                                                  refine g_sub [0, 1, 2, 3] rfl ?_
                                                                  exact t_L_law_J1179 X hAD σ L xs x3 b hSC _ _ (fun σ y3 => ih σ y3) hk1599
                                                                · refine g_eqc (30 : Int32) ?_ (fun e124 => ?_)
                                                                  · refine g_tableIn 1222 dL_law_33 (by decide) (by decide) rfl rfl ?_
                                                                    refine g_sub [0, 1, 2, 3] rfl ?_
                                                                    exact t_L_law_J1222 X hAD σ L xs x3 b hSC _ _ (fun σ y3 => ih σ y3) hk1599
                                                                  · refine g_eqc (31 : Int32) ?_ (fun e128 => ?_)
                                                                    · refine g_tableIn 1265 dL_law_33 (by decide) (by decide) rfl rfl ?_
                                                                      refine g_sub [0, 1, 2, 3] rfl ?_
                                                                      exact t_L_law_J1265 X hAD σ L xs x3 b hSC _ _ (fun σ y3 => ih σ y3) hk1599
                                                                    · refine g_eqc (32 : Int32) ?_ (fun e132 => ?_)
                                                                      · refine g_tableIn 1298 dL_law_33 (by decide) (by decide) rfl rfl ?_
                                                                        refine g_sub [0, 1, 2, 3] rfl ?_
                                                                        exact t_L_law_J1298 X hAD σ L xs x3 b hSC _ _ (fun σ y3 => ih σ y3) hk1599
                                                                      · refine g_eqc (33 : Int32) ?_ (fun e136 => ?_)
                                                                        · refine g_tableIn 1321 dL_law_33 (by decide) (by decide) rfl rfl ?_
                                                                          refine g_sub [0, 1, 2, 3] rfl ?_
                                                                          exact t_L_law_J1321 X hAD σ L xs x3 b hSC _ _ (fun σ y3 => ih σ y3) hk1599
                                                                        · refine g_eqc (34 : Int32) ?_ (fun e140 => ?_)
                                                                          · refine g_tableIn 1344 dL_law_33 (by decide) (by decide) rfl rfl ?_
                                                                            refine g_sub [0, 1, 2, 3] rfl ?_
                                                                            exact t_L_law_J1344 X hAD σ L xs x3 b hSC _ _ (fun σ y3 => ih σ y3) hk1599
                                                                          · refine g_eqc (35 : Int32) ?_ (fun e144 => ?_)
                                                                            · refine g_tableIn 1367 dL_law_33 (by decide) (by decide) rfl rfl ?_
                                                                              refine g_sub [0, 1, 2, 3] rfl ?_
                                                                              exact t_L_law_J1367 X hAD σ L xs x3 b hSC _ _ (fun σ y3 => ih σ y3) hk1599
                                                                            · refine g_eqc (36 : Int32) ?_ (fun e148 => ?_)
                                                                              · refine g_tableIn 1400 dL_law_33 (by decide) (by decide) rfl rfl ?_
                                                                                refine g_sub [0, 1, 2, 3] rfl ?_
                                                                                exact t_L_law_J1400 X hAD σ L xs x3 b hSC _ _ (fun σ y3 => ih σ y3) hk1599
                                                                              · refine g_eqc (37 : Int32) ?_ (fun e152 => ?_)
                                                                                · refine g_tableIn 1433 dL_law_33 (by decide) (by decide) rfl rfl ?_
                                                                                  refine g_sub [0, 1, 2, 3] rfl ?_
                                                                                  exact t_L_law_J1433 X hAD σ L xs x3 b hSC _ _ (fun σ y3 => ih σ y3) hk1599
                                                                                · refine g_eqc (38 : Int32) ?_ (fun e156 => ?_)
                                                                                  · refine g_tableIn 1456 dL_law_33 (by decide) (by decide) rfl rfl ?_
                                                                                    refine g_sub [0, 1, 2, 3] rfl ?_
                                                                                    exact t_L_law_J1456 X hAD σ L xs x3 b hSC _ _ (fun σ y3 => ih σ y3) hk1599
                                                                                  · refine g_eqc (39 : Int32) ?_ (fun e160 => ?_)
                                                                                    · refine g_tableIn 1479 dL_law_33 (by decide) (by decide) rfl rfl ?_
                                                                                      refine g_sub [0, 1, 2, 3] rfl ?_
                                                                                      exact t_L_law_J1479 X hAD σ L xs x3 b hSC _ _ (fun σ y3 => ih σ y3) hk1599
                                                                                    · refine g_eqc (40 : Int32) ?_ (fun e164 => ?_)
                                                                                      · refine g_tableIn 1492 dL_law_33 (by decide) (by decide) rfl rfl ?_
                                                                                        refine g_sub [0, 1, 2, 3] rfl ?_
                                                                                        exact t_L_law_J1492 X hAD σ L xs x3 b hSC _ _ (fun σ y3 => ih σ y3) hk1599
                                                                                      · refine g_eqc (41 : Int32) ?_ (fun e168 => ?_)
                                                                                        · refine g_tableIn 1506 dL_law_33 (by decide) (by decide) rfl rfl ?_
                                                                                          refine g_sub [0, 1, 2, 3] rfl ?_
                                                                                          exact t_L_law_J1506 X hAD σ L xs x3 b hSC _ _ (fun σ y3 => ih σ y3) hk1599
                                                                                        · refine g_eqc (42 : Int32) ?_ (fun e172 => ?_)
                                                                                          · refine g_tableIn 1520 dL_law_33 (by decide) (by decide) rfl rfl ?_
                                                                                            refine g_sub [0, 1, 2, 3] rfl ?_
                                                                                            exact t_L_law_J1520 X hAD σ L xs x3 b hSC _ _ (fun σ y3 => ih σ y3) hk1599
                                                                                          · refine g_eqc (43 : Int32) ?_ (fun e176 => ?_)
                                                                                            · refine g_tableIn 1543 dL_law_33 (by decide) (by decide) rfl rfl ?_
                                                                                              refine g_sub [0, 1, 2, 3] rfl ?_
                                                                                              exact t_L_law_J1543 X hAD σ L xs x3 b hSC _ _ (fun σ y3 => ih σ y3) hk1599
                                                                                            · refine g_eqc (44 : Int32) ?_ (fun e180 => ?_)
                                                                                              · refine g_tableIn 1556 dL_law_33 (by decide) (by decide) rfl rfl ?_
                                                                                                refine g_sub [0, 1, 2, 3] rfl ?_
                                                                                                exact t_L_law_J1556 X hAD σ L xs x3 b hSC _ _ (fun σ y3 => ih σ y3) hk1599
                                                                                              · refine g_eqc (45 : Int32) ?_ (fun e184 => ?_)
                                                                                                · refine g_tableIn 1579 dL_law_33 (by decide) (by decide) rfl rfl ?_
                                                                                                  refine g_sub [0, 1, 2, 3] rfl ?_
                                                                                                  exact t_L_law_J1579 X hAD σ L xs x3 b hSC _ _ (fun σ y3 => ih σ y3) hk1599
                                                                                                · refine g_tableOut 1593 dL_law_33 (by have := lv_neT e4 (a := 0) (by decide); have := lv_neT e8 (a := 1) (by decide); have := lv_neT e12 (a := 2) (by decide); have := lv_neT e16 (a := 3) (by decide); have := lv_neT e20 (a := 4) (by decide); have := lv_neT e24 (a := 5) (by decide); have := lv_neT e28 (a := 6) (by decide); have := lv_neT e32 (a := 7) (by decide); have := lv_neT e36 (a := 8) (by decide); have := lv_neT e40 (a := 9) (by decide); have := lv_neT e44 (a := 10) (by decide); have := lv_neT e48 (a := 11) (by decide); have := lv_neT e52 (a := 12) (by decide); have := lv_neT e56 (a := 13) (by decide); have := lv_neT e60 (a := 14) (by decide); have := lv_neT e64 (a := 15) (by decide); have := lv_neT e68 (a := 16) (by decide); have := lv_neT e72 (a := 17) (by decide); have := lv_neT e76 (a := 18) (by decide); have := lv_neT e80 (a := 19) (by decide); have := lv_neT e84 (a := 20) (by decide); have := lv_neT e88 (a := 21) (by decide); have := lv_neT e92 (a := 22) (by decide); have := lv_neT e96 (a := 23) (by decide); have := lv_neT e100 (a := 24) (by decide); have := lv_neT e104 (a := 25) (by decide); have := lv_neT e108 (a := 26) (by decide); have := lv_neT e112 (a := 27) (by decide); have := lv_neT e116 (a := 28) (by decide); have := lv_neT e120 (a := 29) (by decide); have := lv_neT e124 (a := 30) (by decide); have := lv_neT e128 (a := 31) (by decide); have := lv_neT e132 (a := 32) (by decide); have := lv_neT e136 (a := 33) (by decide); have := lv_neT e140 (a := 34) (by decide); have := lv_neT e144 (a := 35) (by decide); have := lv_neT e148 (a := 36) (by decide); have := lv_neT e152 (a := 37) (by decide); have := lv_neT e156 (a := 38) (by decide); have := lv_neT e160 (a := 39) (by decide); have := lv_neT e164 (a := 40) (by decide); have := lv_neT e168 (a := 41) (by decide); have := lv_neT e172 (a := 42) (by decide); have := lv_neT e176 (a := 43) (by decide); have := lv_neT e180 (a := 44) (by decide); have := lv_neT e184 (a := 45) (by decide); omega) rfl ?_
                                                                                                  refine g_iinc 3 [(3, .int ((x3 + (6 : Int32)))), (0, .ref b), (1, .ref (xad X (0))), (2, .ref (xad X (98)))] dL_law_1593 rfl (v := x3 + (6 : Int32)) rfl (by decide) rfl ?_
                                                                                                  refine g_goto 18 dL_law_1596 rfl ?_
                                                                                                  refine g_sub [1, 2, 3, 0] rfl ?_
                                                                                                  exact ih σ ((x3 + (6 : Int32)))

