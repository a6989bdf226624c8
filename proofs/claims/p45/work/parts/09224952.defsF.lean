def Ff_X7_hasGallery (a0_7_0 : Int) : Int :=
  if a0_7_0 ≤ 0 then (0) else (1)

def Ff_X7_troubleOfNumber (a1 : Int) (a2 : Int) (a3 : Int) (a0_7_0 : Int) : Int :=
  fl_lt (Ff_X7_hasGallery a0_7_0) (fun r1 => if r1 = 1 then (fl_lt (Ff_X7_within a1 a2 a3) (fun r12 => if r12 = 1 then (0) else (2))) else (1))

def Ff_X7_figureShare (a1 : Int) (a2 : Int) (a3 : Int) : Int :=
  if a2 = 0 then (if a3 = 0 then (0) else (1)) else (if a3 = 0 then (4) else (fl_lt (fl_neg a1) (fun x9 => x9)))

def Ff_X7_attendantShare (a1 : Int) (a2 : Int) : Int :=
  if a1 = 0 then (if a2 = 0 then (1) else ((-1))) else (if a2 = 0 then (0) else (3))

def Ff_X7_dares (a1 : Int) (a2 : Int) (a3 : Int) (a4 : Int) (a0_7_0 : Int) : Int × Int :=
  fl_lt (Ff_X7_troubleOfNumber a1 0 9 a0_7_0) (fun r5 => if r5 = 0 then (if a4 = 0 then (fl_lt (Ff_X7_figureShare a1 a2 a3) (fun r41 => fl_c2 (Ff_X7_answered r41) (fun r44 v44na0_8 => (r41, v44na0_8)))) else (fl_lt (Ff_X7_attendantShare a2 a3) (fun r32 => if r32 = 3 then (fl_c2 (Ff_X7_answered 3) (fun r44 v44na0_8 => (3, v44na0_8))) else (if r32 = 1 then (fl_c2 (Ff_X7_answered 1) (fun r44 v44na0_8 => (1, v44na0_8))) else (if r32 = 0 then (fl_c2 (Ff_X7_answered 0) (fun r44 v44na0_8 => (0, v44na0_8))) else (fl_c2 (Ff_X7_answered (-1)) (fun r44 v44na0_8 => ((-1), v44na0_8)))))))) else (if r5 = 1 then (((-100), 1)) else (((-100), 2))))

def Ff_X8_why (a1 : Int) (a2 : Int) : Int :=
  if a1 = 0 then (1) else (if a2 = 0 then (2) else (0))

def Ff_X8_figureHas (a1 : Int) (a2 : Int) (a3 : Int) : Int :=
  if a2 = 0 then (if a3 = 0 then (0) else (1)) else (if a3 = 0 then (4) else (fl_lt (fl_neg a1) (fun x9 => x9)))

def Ff_X8_otherHas (a1 : Int) (a2 : Int) : Int :=
  if a1 = 0 then (if a2 = 0 then (1) else ((-1))) else (if a2 = 0 then (0) else (3))

def Ff_X8_dares (a1 : Int) (a2 : Int) (a3 : Int) (a4 : Int) (a0_14 : Int) : Int × Int × Int :=
  fl_c2 (Ff_X8_good) (fun v1na0_0 v1na0_11 => fl_lt (Ff_X8_in a1 0 9) (fun r13 => if r13 = 1 then (fl_lt (Ff_X8_why a0_14 1) (fun r16 => if r16 = 2 then ((0, 0, 0)) else (if r16 = 1 then (((-100), v1na0_0, 1)) else (if a4 = 0 then (fl_lt (Ff_X8_figureHas a1 a2 a3) (fun r42 => (r42, v1na0_0, v1na0_11))) else (fl_lt (Ff_X8_otherHas a2 a3) (fun r33 => if r33 = 3 then ((3, v1na0_0, v1na0_11)) else (if r33 = 1 then ((1, v1na0_0, v1na0_11)) else (if r33 = 0 then ((0, v1na0_0, v1na0_11)) else (((-1), v1na0_0, v1na0_11)))))))))) else (fl_lt (Ff_X8_why a0_14 0) (fun r16 => if r16 = 2 then (((-100), v1na0_0, 2)) else (if r16 = 1 then (((-100), v1na0_0, 1)) else (if a4 = 0 then (fl_lt (Ff_X8_figureHas a1 a2 a3) (fun r42 => (r42, v1na0_0, v1na0_11))) else (fl_lt (Ff_X8_otherHas a2 a3) (fun r33 => if r33 = 3 then ((3, v1na0_0, v1na0_11)) else (if r33 = 1 then ((1, v1na0_0, v1na0_11)) else (if r33 = 0 then ((0, v1na0_0, v1na0_11)) else (((-1), v1na0_0, v1na0_11))))))))))))

def Ff_X7_isRest (a1 : Int) (a2 : Int) (a3 : Int) : Int :=
  fl_lt (Ff_X7_figureShare a1 a2 a3) (fun r3 => if a2 = 0 then (fl_lt (Ff_X7_figureShare a1 1 a3) (fun r17 => if r3 < r17 then (0) else (fl_lt (Ff_X7_attendantShare a2 a3) (fun r25 => if r25 = 3 then (if a3 = 0 then (fl_lt (Ff_X7_attendantShare a2 1) (fun r38 => if r38 = 3 then (1) else (if r38 = 1 then (0) else (if r38 = 0 then (0) else (1))))) else (fl_lt (Ff_X7_attendantShare a2 0) (fun r38 => if r38 = 3 then (1) else (if r38 = 1 then (1) else (if r38 = 0 then (1) else (1)))))) else (if r25 = 1 then (if a3 = 0 then (fl_lt (Ff_X7_attendantShare a2 1) (fun r38 => if r38 = 3 then (0) else (if r38 = 1 then (0) else (if r38 = 0 then (0) else (1))))) else (0)) else (if r25 = 0 then (if a3 = 0 then (fl_lt (Ff_X7_attendantShare a2 1) (fun r38 => if r38 = 3 then (0) else (if r38 = 1 then (0) else (if r38 = 0 then (0) else (1))))) else (0)) else (if a3 = 0 then (fl_lt (Ff_X7_attendantShare a2 1) (fun r38 => if r38 = 3 then (0) else (if r38 = 1 then (0) else (if r38 = 0 then (0) else (1))))) else (fl_lt (Ff_X7_attendantShare a2 0) (fun r38 => if r38 = 3 then (0) else (if r38 = 1 then (0) else (if r38 = 0 then (0) else (1)))))))))))) else (fl_lt (Ff_X7_figureShare a1 0 a3) (fun r17 => if r3 < r17 then (0) else (fl_lt (Ff_X7_attendantShare a2 a3) (fun r25 => if r25 = 3 then (if a3 = 0 then (fl_lt (Ff_X7_attendantShare a2 1) (fun r38 => if r38 = 3 then (1) else (if r38 = 1 then (0) else (if r38 = 0 then (0) else (1))))) else (fl_lt (Ff_X7_attendantShare a2 0) (fun r38 => if r38 = 3 then (1) else (if r38 = 1 then (1) else (if r38 = 0 then (1) else (1)))))) else (if r25 = 1 then (if a3 = 0 then (fl_lt (Ff_X7_attendantShare a2 1) (fun r38 => if r38 = 3 then (0) else (if r38 = 1 then (0) else (if r38 = 0 then (0) else (1))))) else (0)) else (if r25 = 0 then (if a3 = 0 then (fl_lt (Ff_X7_attendantShare a2 1) (fun r38 => if r38 = 3 then (0) else (if r38 = 1 then (0) else (if r38 = 0 then (0) else (1))))) else (0)) else (if a3 = 0 then (fl_lt (Ff_X7_attendantShare a2 1) (fun r38 => if r38 = 3 then (0) else (if r38 = 1 then (0) else (if r38 = 0 then (0) else (1))))) else (fl_lt (Ff_X7_attendantShare a2 0) (fun r38 => if r38 = 3 then (0) else (if r38 = 1 then (0) else (if r38 = 0 then (0) else (1)))))))))))))

def Gf_X7_rests_64_1 (j24l4 : Int) (j64l3 : Int) : Sum (Int × Int) (Int × Int) :=
  fl_lt (j24l4 + 1) (fun x64 => Sum.inl (x64, j64l3))
def Gf_X7_rests_64_2 (j24l4 : Int) (j64l3 : Int) : Sum (Int × Int) (Int × Int) :=
  fl_lt (j24l4 + 1) (fun x64 => Sum.inl (x64, j64l3))
def Gf_X7_rests_55_1 (a1 : Int) (j24l4 : Int) (j24l3 : Int) (j42s0 : Int) (j55s0 : Int) : Sum (Int × Int) (Int × Int) :=
  fl_lt (Ff_X7_isRest a1 j42s0 j55s0) (fun r55 => if r55 = 1 then (fl_lt (fl_iadd j24l3 1) (fun x61 => Gf_X7_rests_64_1 j24l4 x61)) else (Gf_X7_rests_64_2 j24l4 j24l3))
def Gf_X7_rests_42_1 (a1 : Int) (j24l4 : Int) (j24l3 : Int) (j42s0 : Int) : Sum (Int × Int) (Int × Int) :=
  fl_lt (j24l4 % 2) (fun x45 => if x45 = 1 then (Gf_X7_rests_55_1 a1 j24l4 j24l3 j42s0 1) else (Gf_X7_rests_55_1 a1 j24l4 j24l3 j42s0 0))
def Sf_X7_rests_24_1 (a1 : Int) (j24l4 : Int) (j24l3 : Int) : Sum (Int × Int) (Int × Int) :=
  if 4 ≤ j24l4 then (Sum.inr (fl_c2 (Ff_X7_answered j24l3) (fun r72 v72na0_8 => (j24l3, v72na0_8)))) else (if j24l4 < 2 then (Gf_X7_rests_42_1 a1 j24l4 j24l3 0) else (Gf_X7_rests_42_1 a1 j24l4 j24l3 1))
def Ff_X7_rests (a1 : Int) (a0_7_0 : Int) : Int × Int :=
  fl_lt (Ff_X7_troubleOfNumber a1 0 9 a0_7_0) (fun r5 => if r5 = 0 then (fl_wh (fun t9 => Sf_X7_rests_24_1 a1 t9.1 t9.2) (0, 0) 5 (0, 0)) else (if r5 = 1 then (fl_c2 (Ff_X7_refused 1) (fun r15 v15na0_8 => ((-1), v15na0_8))) else (fl_c2 (Ff_X7_refused 2) (fun r15 v15na0_8 => ((-1), v15na0_8)))))

def Gf_X8_seekRests_117_1 (j10l3 : Int) (j117l2 : Int) (j117a0_37 : Int) : Sum (Int × Int × Int) (Int × Int) :=
  fl_lt (j10l3 + 1) (fun x117 => Sum.inl (x117, j117l2, j117a0_37))
def Gf_X8_seekRests_114_1 (j10l3 : Int) (j10l2 : Int) (j114a0_37 : Int) : Sum (Int × Int × Int) (Int × Int) :=
  fl_lt (fl_iadd j10l2 1) (fun x114 => Gf_X8_seekRests_117_1 j10l3 x114 j114a0_37)
def Gf_X8_seekRests_114_2 (j10l3 : Int) (j10l2 : Int) (j114a0_37 : Int) : Sum (Int × Int × Int) (Int × Int) :=
  fl_lt (fl_iadd j10l2 1) (fun x114 => Gf_X8_seekRests_117_1 j10l3 x114 j114a0_37)
def Gf_X8_seekRests_114_3 (j10l3 : Int) (j10l2 : Int) (j114a0_37 : Int) : Sum (Int × Int × Int) (Int × Int) :=
  fl_lt (fl_iadd j10l2 1) (fun x114 => Gf_X8_seekRests_117_1 j10l3 x114 j114a0_37)
def Gf_X8_seekRests_114_4 (j10l3 : Int) (j10l2 : Int) (j114a0_37 : Int) : Sum (Int × Int × Int) (Int × Int) :=
  fl_lt (fl_iadd j10l2 1) (fun x114 => Gf_X8_seekRests_117_1 j10l3 x114 j114a0_37)
def Gf_X8_seekRests_114_5 (j10l3 : Int) (j10l2 : Int) (j114a0_37 : Int) : Sum (Int × Int × Int) (Int × Int) :=
  fl_lt (fl_iadd j10l2 1) (fun x114 => Gf_X8_seekRests_117_1 j10l3 x114 j114a0_37)
def Gf_X8_seekRests_114_6 (j10l3 : Int) (j10l2 : Int) (j114a0_37 : Int) : Sum (Int × Int × Int) (Int × Int) :=
  fl_lt (fl_iadd j10l2 1) (fun x114 => Gf_X8_seekRests_117_1 j10l3 x114 j114a0_37)
def Gf_X8_seekRests_114_7 (j10l3 : Int) (j10l2 : Int) (j114a0_37 : Int) : Sum (Int × Int × Int) (Int × Int) :=
  fl_lt (fl_iadd j10l2 1) (fun x114 => Gf_X8_seekRests_117_1 j10l3 x114 j114a0_37)
def Gf_X8_seekRests_114_8 (j10l3 : Int) (j10l2 : Int) (j114a0_37 : Int) : Sum (Int × Int × Int) (Int × Int) :=
  fl_lt (fl_iadd j10l2 1) (fun x114 => Gf_X8_seekRests_117_1 j10l3 x114 j114a0_37)
def Gf_X8_seekRests_114_9 (j10l3 : Int) (j10l2 : Int) (j114a0_37 : Int) : Sum (Int × Int × Int) (Int × Int) :=
  fl_lt (fl_iadd j10l2 1) (fun x114 => Gf_X8_seekRests_117_1 j10l3 x114 j114a0_37)
def Gf_X8_seekRests_114_10 (j10l3 : Int) (j10l2 : Int) (j114a0_37 : Int) : Sum (Int × Int × Int) (Int × Int) :=
  fl_lt (fl_iadd j10l2 1) (fun x114 => Gf_X8_seekRests_117_1 j10l3 x114 j114a0_37)
def Gf_X8_seekRests_80_1 (j10l3 : Int) (j10l2 : Int) (j10a0_37 : Int) (j25s0 : Int) (j39s0 : Int) (j80s0 : Int) : Sum (Int × Int × Int) (Int × Int) :=
  fl_lt (Ff_X8_otherHas j25s0 j80s0) (fun r80 => if r80 = 3 then (fl_lt (Ff_X8_otherHas j25s0 j39s0) (fun r87 => if r87 = 3 then (if j10l2 = 0 then (fl_lt (j10l3 / 2) (fun x105 => fl_lt (10 * x105) (fun x106 => fl_lt (j10l3 % 2) (fun x109 => fl_lt (x106 + x109) (fun x110 => Gf_X8_seekRests_114_1 j10l3 j10l2 x110))))) else (Gf_X8_seekRests_114_1 j10l3 j10l2 j10a0_37)) else (if r87 = 1 then (Gf_X8_seekRests_117_1 j10l3 j10l2 j10a0_37) else (if r87 = 0 then (Gf_X8_seekRests_117_1 j10l3 j10l2 j10a0_37) else (Gf_X8_seekRests_117_1 j10l3 j10l2 j10a0_37))))) else (if r80 = 1 then (fl_lt (Ff_X8_otherHas j25s0 j39s0) (fun r87 => if r87 = 3 then (if j10l2 = 0 then (fl_lt (j10l3 / 2) (fun x105 => fl_lt (10 * x105) (fun x106 => fl_lt (j10l3 % 2) (fun x109 => fl_lt (x106 + x109) (fun x110 => Gf_X8_seekRests_114_2 j10l3 j10l2 x110))))) else (Gf_X8_seekRests_114_2 j10l3 j10l2 j10a0_37)) else (if r87 = 1 then (if j10l2 = 0 then (fl_lt (j10l3 / 2) (fun x105 => fl_lt (10 * x105) (fun x106 => fl_lt (j10l3 % 2) (fun x109 => fl_lt (x106 + x109) (fun x110 => Gf_X8_seekRests_114_3 j10l3 j10l2 x110))))) else (Gf_X8_seekRests_114_3 j10l3 j10l2 j10a0_37)) else (if r87 = 0 then (Gf_X8_seekRests_117_1 j10l3 j10l2 j10a0_37) else (Gf_X8_seekRests_117_1 j10l3 j10l2 j10a0_37))))) else (if r80 = 0 then (fl_lt (Ff_X8_otherHas j25s0 j39s0) (fun r87 => if r87 = 3 then (if j10l2 = 0 then (fl_lt (j10l3 / 2) (fun x105 => fl_lt (10 * x105) (fun x106 => fl_lt (j10l3 % 2) (fun x109 => fl_lt (x106 + x109) (fun x110 => Gf_X8_seekRests_114_4 j10l3 j10l2 x110))))) else (Gf_X8_seekRests_114_4 j10l3 j10l2 j10a0_37)) else (if r87 = 1 then (if j10l2 = 0 then (fl_lt (j10l3 / 2) (fun x105 => fl_lt (10 * x105) (fun x106 => fl_lt (j10l3 % 2) (fun x109 => fl_lt (x106 + x109) (fun x110 => Gf_X8_seekRests_114_5 j10l3 j10l2 x110))))) else (Gf_X8_seekRests_114_5 j10l3 j10l2 j10a0_37)) else (if r87 = 0 then (if j10l2 = 0 then (fl_lt (j10l3 / 2) (fun x105 => fl_lt (10 * x105) (fun x106 => fl_lt (j10l3 % 2) (fun x109 => fl_lt (x106 + x109) (fun x110 => Gf_X8_seekRests_114_6 j10l3 j10l2 x110))))) else (Gf_X8_seekRests_114_6 j10l3 j10l2 j10a0_37)) else (Gf_X8_seekRests_117_1 j10l3 j10l2 j10a0_37))))) else (fl_lt (Ff_X8_otherHas j25s0 j39s0) (fun r87 => if r87 = 3 then (if j10l2 = 0 then (fl_lt (j10l3 / 2) (fun x105 => fl_lt (10 * x105) (fun x106 => fl_lt (j10l3 % 2) (fun x109 => fl_lt (x106 + x109) (fun x110 => Gf_X8_seekRests_114_7 j10l3 j10l2 x110))))) else (Gf_X8_seekRests_114_7 j10l3 j10l2 j10a0_37)) else (if r87 = 1 then (if j10l2 = 0 then (fl_lt (j10l3 / 2) (fun x105 => fl_lt (10 * x105) (fun x106 => fl_lt (j10l3 % 2) (fun x109 => fl_lt (x106 + x109) (fun x110 => Gf_X8_seekRests_114_8 j10l3 j10l2 x110))))) else (Gf_X8_seekRests_114_8 j10l3 j10l2 j10a0_37)) else (if r87 = 0 then (if j10l2 = 0 then (fl_lt (j10l3 / 2) (fun x105 => fl_lt (10 * x105) (fun x106 => fl_lt (j10l3 % 2) (fun x109 => fl_lt (x106 + x109) (fun x110 => Gf_X8_seekRests_114_9 j10l3 j10l2 x110))))) else (Gf_X8_seekRests_114_9 j10l3 j10l2 j10a0_37)) else (if j10l2 = 0 then (fl_lt (j10l3 / 2) (fun x105 => fl_lt (10 * x105) (fun x106 => fl_lt (j10l3 % 2) (fun x109 => fl_lt (x106 + x109) (fun x110 => Gf_X8_seekRests_114_10 j10l3 j10l2 x110))))) else (Gf_X8_seekRests_114_10 j10l3 j10l2 j10a0_37)))))))))
def Gf_X8_seekRests_52_1 (a1 : Int) (j10l3 : Int) (j10l2 : Int) (j10a0_37 : Int) (j25s0 : Int) (j39s0 : Int) (j52s0 : Int) : Sum (Int × Int × Int) (Int × Int) :=
  fl_lt (Ff_X8_figureHas a1 j52s0 j39s0) (fun r54 => fl_lt (Ff_X8_figureHas a1 j25s0 j39s0) (fun r62 => if r62 < r54 then (Gf_X8_seekRests_117_1 j10l3 j10l2 j10a0_37) else (if j39s0 = 0 then (Gf_X8_seekRests_80_1 j10l3 j10l2 j10a0_37 j25s0 j39s0 1) else (Gf_X8_seekRests_80_1 j10l3 j10l2 j10a0_37 j25s0 j39s0 0))))
def Gf_X8_seekRests_39_1 (a1 : Int) (j10l3 : Int) (j10l2 : Int) (j10a0_37 : Int) (j25s0 : Int) (j39s0 : Int) : Sum (Int × Int × Int) (Int × Int) :=
  if j25s0 = 0 then (Gf_X8_seekRests_52_1 a1 j10l3 j10l2 j10a0_37 j25s0 j39s0 1) else (Gf_X8_seekRests_52_1 a1 j10l3 j10l2 j10a0_37 j25s0 j39s0 0)
def Gf_X8_seekRests_25_1 (a1 : Int) (j10l3 : Int) (j10l2 : Int) (j10a0_37 : Int) (j25s0 : Int) : Sum (Int × Int × Int) (Int × Int) :=
  fl_lt (j10l3 % 2) (fun x29 => if x29 = 1 then (Gf_X8_seekRests_39_1 a1 j10l3 j10l2 j10a0_37 j25s0 1) else (Gf_X8_seekRests_39_1 a1 j10l3 j10l2 j10a0_37 j25s0 0))
def Sf_X8_seekRests_10_1 (a1 : Int) (j10l3 : Int) (j10l2 : Int) (j10a0_37 : Int) : Sum (Int × Int × Int) (Int × Int) :=
  if 4 ≤ j10l3 then (Sum.inr ((j10l2, j10a0_37))) else (if j10l3 ≤ 1 then (Gf_X8_seekRests_25_1 a1 j10l3 j10l2 j10a0_37 0) else (Gf_X8_seekRests_25_1 a1 j10l3 j10l2 j10a0_37 1))
def Ff_X8_seekRests (a1 : Int) : Int × Int :=
  fl_wh (fun t9 => Sf_X8_seekRests_10_1 a1 t9.1 t9.2.1 t9.2.2) (0, 0) 5 (0, 0, (-2))

def Ff_X8_rests (a1 : Int) (a0_14 : Int) (a0_37 : Int) : Int × Int × Int × Int :=
  fl_c2 (Ff_X8_good) (fun v1na0_0 v1na0_11 => fl_lt (Ff_X8_in a1 0 9) (fun r13 => if r13 = 1 then (fl_lt (Ff_X8_why a0_14 1) (fun r16 => if r16 = 2 then ((0, 0, 0, 0)) else (if r16 = 1 then (fl_c2 (Ff_X8_no 1) (fun r26 v26na0_11 => ((-1), v1na0_0, v26na0_11, a0_37))) else (fl_c2 (Ff_X8_seekRests a1) (fun r34 v34na0_37 => (r34, v1na0_0, v1na0_11, v34na0_37)))))) else (fl_lt (Ff_X8_why a0_14 0) (fun r16 => if r16 = 2 then (fl_c2 (Ff_X8_no 2) (fun r26 v26na0_11 => ((-1), v1na0_0, v26na0_11, a0_37))) else (if r16 = 1 then (fl_c2 (Ff_X8_no 1) (fun r26 v26na0_11 => ((-1), v1na0_0, v26na0_11, a0_37))) else (fl_c2 (Ff_X8_seekRests a1) (fun r34 v34na0_37 => (r34, v1na0_0, v1na0_11, v34na0_37))))))))

def Gf_X7_rest_49_1 (a1 : Int) (j21l3 : Int) (j37s0 : Int) (j49s0 : Int) : Sum (Int) (Int × Int) :=
  fl_lt (Ff_X7_isRest a1 j37s0 j49s0) (fun r49 => if r49 = 1 then (Sum.inr (fl_lt (j21l3 / 2) (fun x60 => fl_lt (10 * x60) (fun x61 => fl_lt (j21l3 % 2) (fun x64 => fl_lt (x61 + x64) (fun x65 => fl_c2 (Ff_X7_answered x65) (fun r66 v66na0_8 => (x65, v66na0_8)))))))) else (fl_lt (j21l3 + 1) (fun x70 => Sum.inl x70)))
def Gf_X7_rest_37_1 (a1 : Int) (j21l3 : Int) (j37s0 : Int) : Sum (Int) (Int × Int) :=
  fl_lt (j21l3 % 2) (fun x39 => if x39 = 1 then (Gf_X7_rest_49_1 a1 j21l3 j37s0 1) else (Gf_X7_rest_49_1 a1 j21l3 j37s0 0))
def Sf_X7_rest_21_1 (a1 : Int) (j21l3 : Int) : Sum (Int) (Int × Int) :=
  if 4 ≤ j21l3 then (Sum.inr (fl_c2 (Ff_X7_answered (-2)) (fun r79 v79na0_8 => ((-2), v79na0_8)))) else (if j21l3 < 2 then (Gf_X7_rest_37_1 a1 j21l3 0) else (Gf_X7_rest_37_1 a1 j21l3 1))
def Ff_X7_rest (a1 : Int) (a0_7_0 : Int) : Int × Int :=
  fl_lt (Ff_X7_troubleOfNumber a1 0 9 a0_7_0) (fun r5 => if r5 = 0 then (fl_wh (Sf_X7_rest_21_1 a1) (0, 0) 5 0) else (if r5 = 1 then (fl_c2 (Ff_X7_refused 1) (fun r15 v15na0_8 => ((-1), v15na0_8))) else (fl_c2 (Ff_X7_refused 2) (fun r15 v15na0_8 => ((-1), v15na0_8)))))

def Ff_X8_rest (a1 : Int) (a0_14 : Int) (a0_37 : Int) : Int × Int × Int × Int :=
  fl_c2 (Ff_X8_good) (fun v1na0_0 v1na0_11 => fl_lt (Ff_X8_in a1 0 9) (fun r13 => if r13 = 1 then (fl_lt (Ff_X8_why a0_14 1) (fun r16 => if r16 = 2 then ((0, 0, 0, 0)) else (if r16 = 1 then (fl_c2 (Ff_X8_no 1) (fun r26 v26na0_11 => ((-1), v1na0_0, v26na0_11, a0_37))) else (fl_c2 (Ff_X8_seekRests a1) (fun r32 v32na0_37 => (v32na0_37, v1na0_0, v1na0_11, v32na0_37)))))) else (fl_lt (Ff_X8_why a0_14 0) (fun r16 => if r16 = 2 then (fl_c2 (Ff_X8_no 2) (fun r26 v26na0_11 => ((-1), v1na0_0, v26na0_11, a0_37))) else (if r16 = 1 then (fl_c2 (Ff_X8_no 1) (fun r26 v26na0_11 => ((-1), v1na0_0, v26na0_11, a0_37))) else (fl_c2 (Ff_X8_seekRests a1) (fun r32 v32na0_37 => (v32na0_37, v1na0_0, v1na0_11, v32na0_37))))))))
