def zf_L_hangs_b226 (fu : Nat) (fn : Nat) (rec96 : Int32 → Int32 → Int32 → Int32 → Int32 → Int32 → Int32 → Int32 → Int32 → Int32 → zTR → Option Int32) (y1 : Int32) (y2 : Int32) (y3 : Int32) (y4 : Int32) (y5 : Int32) (y6 : Int32) (y7 : Int32) (y10 : Int32) (y12 : Int32) (z0 : Int32) (z1 : Int32) (v : zTR) : Option Int32 := zlet (z0 + z1) fun x60 => zlet (y10 + 1) fun x61 => rec96 y1 y2 y3 y4 y5 y6 y7 x60 y12 x61 v
def zf_L_hangs_b225 (fu : Nat) (fn : Nat) (rec96 : Int32 → Int32 → Int32 → Int32 → Int32 → Int32 → Int32 → Int32 → Int32 → Int32 → zTR → Option Int32) (y1 : Int32) (y2 : Int32) (y3 : Int32) (y4 : Int32) (y5 : Int32) (y6 : Int32) (y7 : Int32) (y10 : Int32) (y12 : Int32) (z0 : Int32) (v : zTR) : Option Int32 := zf_L_hangs_b226 fu fn rec96 y1 y2 y3 y4 y5 y6 y7 y10 y12 z0 0 v
def zf_L_hangs_b206 (fu : Nat) (fn : Nat) (rec96 : Int32 → Int32 → Int32 → Int32 → Int32 → Int32 → Int32 → Int32 → Int32 → Int32 → zTR → Option Int32) (y1 : Int32) (y2 : Int32) (y3 : Int32) (y4 : Int32) (y5 : Int32) (y6 : Int32) (y8 : Int32) (y9 : Int32) (y10 : Int32) (y12 : Int32) (z0 : Int32) (z1 : Int32) (v : zTR) : Option Int32 := zlet (z0 + z1) fun x51 => if y12 = 0 then (zf_L_hangs_b225 fu fn rec96 y1 y2 y3 y4 y5 y6 x51 y10 y12 y8 v) else (if y9 = 0 then (zf_L_hangs_b226 fu fn rec96 y1 y2 y3 y4 y5 y6 x51 y10 y12 y8 1 v) else (zf_L_hangs_b225 fu fn rec96 y1 y2 y3 y4 y5 y6 x51 y10 y12 y8 v))
def zf_L_hangs_b189 (fu : Nat) (fn : Nat) (rec96 : Int32 → Int32 → Int32 → Int32 → Int32 → Int32 → Int32 → Int32 → Int32 → Int32 → zTR → Option Int32) (y1 : Int32) (y2 : Int32) (y3 : Int32) (y4 : Int32) (y5 : Int32) (y7 : Int32) (y8 : Int32) (y9 : Int32) (y10 : Int32) (y11 : Int32) (y12 : Int32) (z0 : Int32) (z1 : Int32) (v : zTR) : Option Int32 := zlet (z0 + z1) fun x49 => if y11 = 29 then (zf_L_hangs_b206 fu fn rec96 y1 y2 y3 y4 y5 x49 y8 y9 y10 y12 y7 1 v) else (zf_L_hangs_b206 fu fn rec96 y1 y2 y3 y4 y5 x49 y8 y9 y10 y12 y7 0 v)
def zf_L_hangs_b184 (fu : Nat) (fn : Nat) (rec96 : Int32 → Int32 → Int32 → Int32 → Int32 → Int32 → Int32 → Int32 → Int32 → Int32 → zTR → Option Int32) (y1 : Int32) (y2 : Int32) (y3 : Int32) (y4 : Int32) (y5 : Int32) (y7 : Int32) (y8 : Int32) (y9 : Int32) (y10 : Int32) (y11 : Int32) (y12 : Int32) (z0 : Int32) (v : zTR) : Option Int32 := zf_L_hangs_b189 fu fn rec96 y1 y2 y3 y4 y5 y7 y8 y9 y10 y11 y12 z0 1 v
def zf_L_hangs_b165 (fu : Nat) (fn : Nat) (rec96 : Int32 → Int32 → Int32 → Int32 → Int32 → Int32 → Int32 → Int32 → Int32 → Int32 → zTR → Option Int32) (y1 : Int32) (y2 : Int32) (y3 : Int32) (y4 : Int32) (y6 : Int32) (y7 : Int32) (y8 : Int32) (y9 : Int32) (y10 : Int32) (y11 : Int32) (y12 : Int32) (z0 : Int32) (z1 : Int32) (v : zTR) : Option Int32 := zlet (z0 + z1) fun x38 => if y11 = 27 then (zf_L_hangs_b184 fu fn rec96 y1 y2 y3 y4 x38 y7 y8 y9 y10 y11 y12 y6 v) else (if y11 = 28 then (zf_L_hangs_b184 fu fn rec96 y1 y2 y3 y4 x38 y7 y8 y9 y10 y11 y12 y6 v) else (zf_L_hangs_b189 fu fn rec96 y1 y2 y3 y4 x38 y7 y8 y9 y10 y11 y12 y6 0 v))
def zf_L_hangs_b151 (fu : Nat) (fn : Nat) (rec96 : Int32 → Int32 → Int32 → Int32 → Int32 → Int32 → Int32 → Int32 → Int32 → Int32 → zTR → Option Int32) (y1 : Int32) (y2 : Int32) (y3 : Int32) (y5 : Int32) (y6 : Int32) (y7 : Int32) (y8 : Int32) (y9 : Int32) (y10 : Int32) (y11 : Int32) (y12 : Int32) (z0 : Int32) (v : zTR) : Option Int32 := if y12 = 0 then (zf_L_hangs_b165 fu fn rec96 y1 y2 y3 z0 y6 y7 y8 y9 y10 y11 y12 y5 0 v) else (zf_L_hangs_b165 fu fn rec96 y1 y2 y3 z0 y6 y7 y8 y9 y10 y11 y12 y5 1 v)
def zf_L_hangs_b150 (fu : Nat) (fn : Nat) (rec96 : Int32 → Int32 → Int32 → Int32 → Int32 → Int32 → Int32 → Int32 → Int32 → Int32 → zTR → Option Int32) (y1 : Int32) (y2 : Int32) (y3 : Int32) (y5 : Int32) (y6 : Int32) (y7 : Int32) (y8 : Int32) (y9 : Int32) (y10 : Int32) (y11 : Int32) (y12 : Int32) (v : zTR) : Option Int32 := zf_L_hangs_b151 fu fn rec96 y1 y2 y3 y5 y6 y7 y8 y9 y10 y11 y12 0 v
def zf_L_hangs_b132 (fu : Nat) (fn : Nat) (rec96 : Int32 → Int32 → Int32 → Int32 → Int32 → Int32 → Int32 → Int32 → Int32 → Int32 → zTR → Option Int32) (y1 : Int32) (y2 : Int32) (y3 : Int32) (y5 : Int32) (y6 : Int32) (y7 : Int32) (y8 : Int32) (y9 : Int32) (y10 : Int32) (y11 : Int32) (z0 : Int32) (v : zTR) : Option Int32 := if y11 < 0 then (zf_L_hangs_b150 fu fn rec96 y1 y2 y3 y5 y6 y7 y8 y9 y10 y11 z0 v) else (if 32 ≤ y11 then (zf_L_hangs_b150 fu fn rec96 y1 y2 y3 y5 y6 y7 y8 y9 y10 y11 z0 v) else (zf_L_hangs_b151 fu fn rec96 y1 y2 y3 y5 y6 y7 y8 y9 y10 y11 z0 1 v))
def zf_L_hangs_b131 (fu : Nat) (fn : Nat) (rec96 : Int32 → Int32 → Int32 → Int32 → Int32 → Int32 → Int32 → Int32 → Int32 → Int32 → zTR → Option Int32) (y1 : Int32) (y2 : Int32) (y3 : Int32) (y5 : Int32) (y6 : Int32) (y7 : Int32) (y8 : Int32) (y9 : Int32) (y10 : Int32) (y11 : Int32) (v : zTR) : Option Int32 := zf_L_hangs_b132 fu fn rec96 y1 y2 y3 y5 y6 y7 y8 y9 y10 y11 0 v
def zf_L_hangs_b352 (fu : Nat) (fn : Nat) (rec254 : Int32 → Int32 → Int32 → Int32 → Int32 → Int32 → Int32 → Int32 → Int32 → Int32 → Int32 → Int32 → Int32 → zTR → Option Int32) (y1 : Int32) (y2 : Int32) (y3 : Int32) (y4 : Int32) (y5 : Int32) (y6 : Int32) (y7 : Int32) (y8 : Int32) (y10 : Int32) (y11 : Int32) (y12 : Int32) (y14 : Int32) (z0 : Int32) (z1 : Int32) (v : zTR) : Option Int32 := zlet (z0 + z1) fun x47 => zlet (y14 + 1) fun x48 => rec254 y1 y2 y3 y4 y5 y6 y7 y8 y10 y11 y12 x47 x48 v
def zf_L_hangs_b347 (fu : Nat) (fn : Nat) (rec254 : Int32 → Int32 → Int32 → Int32 → Int32 → Int32 → Int32 → Int32 → Int32 → Int32 → Int32 → Int32 → Int32 → zTR → Option Int32) (y1 : Int32) (y2 : Int32) (y3 : Int32) (y4 : Int32) (y5 : Int32) (y6 : Int32) (y7 : Int32) (y8 : Int32) (y10 : Int32) (y11 : Int32) (y12 : Int32) (y14 : Int32) (z0 : Int32) (v : zTR) : Option Int32 := zf_L_hangs_b352 fu fn rec254 y1 y2 y3 y4 y5 y6 y7 y8 y10 y11 y12 y14 z0 1 v
def zf_L_hangs_b299 (fu : Nat) (fn : Nat) (rec254 : Int32 → Int32 → Int32 → Int32 → Int32 → Int32 → Int32 → Int32 → Int32 → Int32 → Int32 → Int32 → Int32 → zTR → Option Int32) (y1 : Int32) (y2 : Int32) (y3 : Int32) (y5 : Int32) (y6 : Int32) (y7 : Int32) (y8 : Int32) (y10 : Int32) (y11 : Int32) (y12 : Int32) (y13 : Int32) (y14 : Int32) (y15 : Int32) (z0 : Int32) (v : zTR) : Option Int32 := (zf_L_segmentLength fu v y14).bind fun r32 => zlet (y10 + r32) fun x33 => zlet (y11 + ((y15 >>> ((1 : Int32) &&& 31)) &&& (1 : Int32))) fun x34 => zlet (y12 + ((y15 >>> ((2 : Int32) &&& 31)) &&& (1 : Int32))) fun x35 => if y15 = 0 then (zf_L_hangs_b347 fu fn rec254 y1 y2 y3 z0 y5 y6 y7 y8 x33 x34 x35 y14 y13 v) else (if y15 = 2 then (zf_L_hangs_b347 fu fn rec254 y1 y2 y3 z0 y5 y6 y7 y8 x33 x34 x35 y14 y13 v) else (zf_L_hangs_b352 fu fn rec254 y1 y2 y3 z0 y5 y6 y7 y8 x33 x34 x35 y14 y13 0 v))
def zf_L_hangs_b298 (fu : Nat) (fn : Nat) (rec254 : Int32 → Int32 → Int32 → Int32 → Int32 → Int32 → Int32 → Int32 → Int32 → Int32 → Int32 → Int32 → Int32 → zTR → Option Int32) (y1 : Int32) (y2 : Int32) (y3 : Int32) (y5 : Int32) (y6 : Int32) (y7 : Int32) (y8 : Int32) (y10 : Int32) (y11 : Int32) (y12 : Int32) (y13 : Int32) (y14 : Int32) (y15 : Int32) (v : zTR) : Option Int32 := zf_L_hangs_b299 fu fn rec254 y1 y2 y3 y5 y6 y7 y8 y10 y11 y12 y13 y14 y15 0 v
def zf_L_hangs_b446 (fu : Nat) (fn : Nat) (rec401 : Int32 → Int32 → Int32 → Int32 → Int32 → Int32 → Int32 → Int32 → Int32 → Int32 → Int32 → Int32 → Int32 → Int32 → zTR → Option Int32) (y1 : Int32) (y2 : Int32) (y3 : Int32) (y5 : Int32) (y6 : Int32) (y7 : Int32) (y8 : Int32) (y10 : Int32) (y11 : Int32) (y12 : Int32) (y13 : Int32) (y14 : Int32) (y15 : Int32) (z0 : Int32) (v : zTR) : Option Int32 := zlet (y15 + 1) fun x87 => rec401 y1 y2 y3 z0 y5 y6 y7 y8 y10 y11 y12 y13 y14 x87 v
def zf_L_hangs_b441 (fu : Nat) (fn : Nat) (rec401 : Int32 → Int32 → Int32 → Int32 → Int32 → Int32 → Int32 → Int32 → Int32 → Int32 → Int32 → Int32 → Int32 → Int32 → zTR → Option Int32) (y1 : Int32) (y2 : Int32) (y3 : Int32) (y5 : Int32) (y6 : Int32) (y7 : Int32) (y8 : Int32) (y10 : Int32) (y11 : Int32) (y12 : Int32) (y13 : Int32) (y14 : Int32) (y15 : Int32) (v : zTR) : Option Int32 := zf_L_hangs_b446 fu fn rec401 y1 y2 y3 y5 y6 y7 y8 y10 y11 y12 y13 y14 y15 1 v
def zf_L_hangs_b445 (fu : Nat) (fn : Nat) (rec401 : Int32 → Int32 → Int32 → Int32 → Int32 → Int32 → Int32 → Int32 → Int32 → Int32 → Int32 → Int32 → Int32 → Int32 → zTR → Option Int32) (y1 : Int32) (y2 : Int32) (y3 : Int32) (y5 : Int32) (y6 : Int32) (y7 : Int32) (y8 : Int32) (y10 : Int32) (y11 : Int32) (y12 : Int32) (y13 : Int32) (y14 : Int32) (y15 : Int32) (v : zTR) : Option Int32 := zf_L_hangs_b446 fu fn rec401 y1 y2 y3 y5 y6 y7 y8 y10 y11 y12 y13 y14 y15 0 v
def zf_L_hangs_b720 (fu : Nat) (fn : Nat) (y1 : Int32) (y12 : Int32) (v : zTR) : Option Int32 := (zf_L_doubtfulWith fu v y1 30).bind fun r112 => if r112 = y12 then (some 1) else (some 0)
def zf_L_hangs_b705 (fu : Nat) (fn : Nat) (y1 : Int32) (y12 : Int32) (v : zTR) : Option Int32 := (zf_X7_receiverShift fu v).bind fun r108 => if r108 = 0 then (zf_L_hangs_b720 fu fn y1 y12 v) else ((zf_X7_receiverShift fu v).bind fun r110 => if r110 = 1 then (zf_L_hangs_b720 fu fn y1 y12 v) else (some 0))
def zf_L_hangs_b659 (fu : Nat) (fn : Nat) (y1 : Int32) (y12 : Int32) (z0 : Int32) (v : zTR) : Option Int32 := if z0 = 0 then (some 0) else ((zf_X7_wrongCharacters fu v).bind fun r98 => if r98 < 0 then (some 0) else ((zf_X7_faults fu v).bind fun r100 => if r100 < 0 then (some 0) else ((zf_X7_faults fu v).bind fun r102 => if 200 < r102 then (some 0) else ((zf_X7_senderShift fu v).bind fun r104 => if r104 = 0 then (zf_L_hangs_b705 fu fn y1 y12 v) else ((zf_X7_senderShift fu v).bind fun r106 => if r106 = 1 then (zf_L_hangs_b705 fu fn y1 y12 v) else (some 0))))))
def zf_L_hangs_b654 (fu : Nat) (fn : Nat) (y1 : Int32) (y12 : Int32) (v : zTR) : Option Int32 := zf_L_hangs_b659 fu fn y1 y12 1 v
def zf_L_hangs_b658 (fu : Nat) (fn : Nat) (y1 : Int32) (y12 : Int32) (v : zTR) : Option Int32 := zf_L_hangs_b659 fu fn y1 y12 0 v
def zf_L_hangs_b643 (fu : Nat) (fn : Nat) (y1 : Int32) (y12 : Int32) (y15 : Int32) (v : zTR) : Option Int32 := if 0 < y12 then (zf_L_hangs_b654 fu fn y1 y12 v) else (if y15 = (-1) then (zf_L_hangs_b654 fu fn y1 y12 v) else (zf_L_hangs_b658 fu fn y1 y12 v))
def zf_L_hangs_b589 (fu : Nat) (fn : Nat) (y1 : Int32) (y12 : Int32) (z0 : Int32) (v : zTR) : Option Int32 := (zf_X7_bestRepair fu v).bind fun r88 => if z0 = 0 then (zf_L_hangs_b658 fu fn y1 y12 v) else (if r88 = (-1) then (zf_L_hangs_b643 fu fn y1 y12 r88 v) else (if r88 < 0 then (zf_L_hangs_b658 fu fn y1 y12 v) else (if (((2 : Int32) * y1) + (2 : Int32)) ≤ r88 then (zf_L_hangs_b658 fu fn y1 y12 v) else ((zf_L_doubtfulWith fu v (r88 / 2) ((30 : Int32) + (r88 - r88 / 2 * 2))).bind fun r93 => if y12 ≤ r93 then (zf_L_hangs_b658 fu fn y1 y12 v) else (zf_L_hangs_b643 fu fn y1 y12 r88 v)))))
def zf_L_hangs_b588 (fu : Nat) (fn : Nat) (y1 : Int32) (y12 : Int32) (v : zTR) : Option Int32 := zf_L_hangs_b589 fu fn y1 y12 0 v
def zf_L_hangs_b580 (fu : Nat) (fn : Nat) (y1 : Int32) (y12 : Int32) (z0 : UInt64) (z1 : UInt64) (v : zTR) : Option Int32 := if (Op.cmpValue (FP.dcmp z0 z1) .l) = 0 then (zf_L_hangs_b589 fu fn y1 y12 1 v) else (zf_L_hangs_b588 fu fn y1 y12 v)
def zf_L_hangs_b454 (fu : Nat) (fn : Nat) (y1 : Int32) (y2 : Int32) (y3 : Int32) (y4 : Int32) (y5 : Int32) (y6 : Int32) (y7 : Int32) (y8 : Int32) (y10 : Int32) (y11 : Int32) (y12 : Int32) (y13 : Int32) (y14 : Int32) (v : zTR) : Option Int32 := if y4 = 0 then (zf_L_hangs_b588 fu fn y1 y12 v) else (if y5 = y10 then (if (y5 + y6) = y2 then (if y8 = y3 then ((zf_X7_bells fu v).bind fun r66 => (zf_X7_questions fu v).bind fun r67 => if (r66 + r67) = y7 then ((zf_X7_guesses fu v).bind fun r69 => if y11 = r69 then ((zf_X7_doubtful fu v).bind fun r71 => if y12 = r71 then (if y14 = y13 then ((zf_L_printed fu v y2).bind fun r74 => if r74 = (-2) then ((zf_L_printed fu v (-1)).bind fun r76 => if r76 = (-2) then ((zf_L_segmentLength fu v y3).bind fun r78 => if r78 = (-2) then ((zf_L_receivedCode fu v (-1)).bind fun r80 => if r80 = (-2) then ((zf_X7_plausibility fu v).bind fun r82 => if y3 = 0 then (zf_L_hangs_b580 fu fn y1 y12 r82 FP.dconst1 v) else (if (FP.ddiv (FP.i2d (y3 - y12)) (FP.i2d y3)) &&& 0x7fffffffffffffff ≤ 0x7ff0000000000000 then (zlet (FP.ddiv (FP.i2d (y3 - y12)) (FP.i2d y3)) fun x85 => zf_L_hangs_b580 fu fn y1 y12 r82 x85 v) else none)) else (zf_L_hangs_b588 fu fn y1 y12 v)) else (zf_L_hangs_b588 fu fn y1 y12 v)) else (zf_L_hangs_b588 fu fn y1 y12 v)) else (zf_L_hangs_b588 fu fn y1 y12 v)) else (zf_L_hangs_b588 fu fn y1 y12 v)) else (zf_L_hangs_b588 fu fn y1 y12 v)) else (zf_L_hangs_b588 fu fn y1 y12 v)) else (zf_L_hangs_b588 fu fn y1 y12 v)) else (zf_L_hangs_b588 fu fn y1 y12 v)) else (zf_L_hangs_b588 fu fn y1 y12 v)) else (zf_L_hangs_b588 fu fn y1 y12 v))
def zf_L_hangs_L401 (fu : Nat) (fn : Nat) : Nat → Int32 → Int32 → Int32 → Int32 → Int32 → Int32 → Int32 → Int32 → Int32 → Int32 → Int32 → Int32 → Int32 → Int32 → zTR → Option Int32
  | 0, _, _, _, _, _, _, _, _, _, _, _, _, _, _, _ => none
  | n + 1, y1, y2, y3, y4, y5, y6, y7, y8, y10, y11, y12, y13, y14, y15, v => if y2 ≤ y15 then (zf_L_hangs_b454 fu fn y1 y2 y3 y4 y5 y6 y7 y8 y10 y11 y12 y13 y14 v) else (if y4 = 0 then (zf_L_hangs_b454 fu fn y1 y2 y3 y4 y5 y6 y7 y8 y10 y11 y12 y13 y14 v) else ((zf_L_printed fu v y15).bind fun r56 => if r56 = 10 then (zf_L_hangs_b441 fu fn (zf_L_hangs_L401 fu fn n) y1 y2 y3 y5 y6 y7 y8 y10 y11 y12 y13 y14 y15 v) else (if r56 < 32 then (zf_L_hangs_b445 fu fn (zf_L_hangs_L401 fu fn n) y1 y2 y3 y5 y6 y7 y8 y10 y11 y12 y13 y14 y15 v) else (if 123 ≤ r56 then (zf_L_hangs_b445 fu fn (zf_L_hangs_L401 fu fn n) y1 y2 y3 y5 y6 y7 y8 y10 y11 y12 y13 y14 y15 v) else (zf_L_hangs_b441 fu fn (zf_L_hangs_L401 fu fn n) y1 y2 y3 y5 y6 y7 y8 y10 y11 y12 y13 y14 y15 v)))))
def zf_L_hangs_b398 (fu : Nat) (fn : Nat) (y1 : Int32) (y2 : Int32) (y3 : Int32) (y4 : Int32) (y5 : Int32) (y6 : Int32) (y7 : Int32) (y8 : Int32) (y10 : Int32) (y11 : Int32) (y12 : Int32) (y13 : Int32) (y14 : Int32) (v : zTR) : Option Int32 := zf_L_hangs_L401 fu fn fn y1 y2 y3 y4 y5 y6 y7 y8 y10 y11 y12 y13 y14 0 v
def zf_L_hangs_L367 (fu : Nat) (fn : Nat) : Nat → Int32 → Int32 → Int32 → Int32 → Int32 → Int32 → Int32 → Int32 → Int32 → Int32 → Int32 → Int32 → Int32 → Int32 → zTR → Option Int32
  | 0, _, _, _, _, _, _, _, _, _, _, _, _, _, _, _ => none
  | n + 1, y1, y2, y3, y4, y5, y6, y7, y8, y10, y11, y12, y13, y14, y15, v => (zf_X7_words fu v).bind fun r41 => if r41 ≤ y15 then (zf_L_hangs_b398 fu fn y1 y2 y3 y4 y5 y6 y7 y8 y10 y11 y12 y13 y14 v) else (if y4 = 0 then (zf_L_hangs_b398 fu fn y1 y2 y3 y4 y5 y6 y7 y8 y10 y11 y12 y13 y14 v) else ((zf_L_uses fu v y15).bind fun r44 => zlet (y14 + r44) fun x45 => zlet (y15 + 1) fun x46 => zf_L_hangs_L367 fu fn n y1 y2 y3 y4 y5 y6 y7 y8 y10 y11 y12 y13 x45 x46 v))
def zf_L_hangs_b361 (fu : Nat) (fn : Nat) (y1 : Int32) (y2 : Int32) (y3 : Int32) (y4 : Int32) (y5 : Int32) (y6 : Int32) (y7 : Int32) (y8 : Int32) (y10 : Int32) (y11 : Int32) (y12 : Int32) (y13 : Int32) (v : zTR) : Option Int32 := zf_L_hangs_L367 fu fn fn y1 y2 y3 y4 y5 y6 y7 y8 y10 y11 y12 y13 0 0 v
def zf_L_hangs_L254 (fu : Nat) (fn : Nat) : Nat → Int32 → Int32 → Int32 → Int32 → Int32 → Int32 → Int32 → Int32 → Int32 → Int32 → Int32 → Int32 → Int32 → zTR → Option Int32
  | 0, _, _, _, _, _, _, _, _, _, _, _, _, _, _ => none
  | n + 1, y1, y2, y3, y4, y5, y6, y7, y8, y10, y11, y12, y13, y14, v => if y3 ≤ y14 then (zf_L_hangs_b361 fu fn y1 y2 y3 y4 y5 y6 y7 y8 y10 y11 y12 y13 v) else (if y4 = 0 then (zf_L_hangs_b361 fu fn y1 y2 y3 y4 y5 y6 y7 y8 y10 y11 y12 y13 v) else ((zf_L_segmentKind fu v y14).bind fun r26 => if r26 < 0 then (zf_L_hangs_b298 fu fn (zf_L_hangs_L254 fu fn n) y1 y2 y3 y5 y6 y7 y8 y10 y11 y12 y13 y14 r26 v) else (if 6 ≤ r26 then (zf_L_hangs_b298 fu fn (zf_L_hangs_L254 fu fn n) y1 y2 y3 y5 y6 y7 y8 y10 y11 y12 y13 y14 r26 v) else ((zf_L_segmentLength fu v y14).bind fun r29 => if r29 ≤ 0 then (zf_L_hangs_b298 fu fn (zf_L_hangs_L254 fu fn n) y1 y2 y3 y5 y6 y7 y8 y10 y11 y12 y13 y14 r26 v) else (zf_L_hangs_b299 fu fn (zf_L_hangs_L254 fu fn n) y1 y2 y3 y5 y6 y7 y8 y10 y11 y12 y13 y14 r26 1 v)))))
def zf_L_hangs_b239 (fu : Nat) (fn : Nat) (y1 : Int32) (y2 : Int32) (y3 : Int32) (y4 : Int32) (y5 : Int32) (y6 : Int32) (y7 : Int32) (y8 : Int32) (v : zTR) : Option Int32 := zf_L_hangs_L254 fu fn fn y1 y2 y3 y4 y5 y6 y7 y8 0 0 0 0 0 v
def zf_L_hangs_L96 (fu : Nat) (fn : Nat) : Nat → Int32 → Int32 → Int32 → Int32 → Int32 → Int32 → Int32 → Int32 → Int32 → Int32 → zTR → Option Int32
  | 0, _, _, _, _, _, _, _, _, _, _, _ => none
  | n + 1, y1, y2, y3, y4, y5, y6, y7, y8, y9, y10, v => if y1 ≤ y10 then (zf_L_hangs_b239 fu fn y1 y2 y3 y4 y5 y6 y7 y8 v) else (if y4 = 0 then (zf_L_hangs_b239 fu fn y1 y2 y3 y4 y5 y6 y7 y8 v) else ((zf_L_receivedCode fu v y10).bind fun r19 => if r19 ≤ 0 then (zf_L_hangs_b131 fu fn (zf_L_hangs_L96 fu fn n) y1 y2 y3 y5 y6 y7 y8 y9 y10 r19 v) else (if 27 ≤ r19 then (zf_L_hangs_b131 fu fn (zf_L_hangs_L96 fu fn n) y1 y2 y3 y5 y6 y7 y8 y9 y10 r19 v) else (zf_L_hangs_b132 fu fn (zf_L_hangs_L96 fu fn n) y1 y2 y3 y5 y6 y7 y8 y9 y10 r19 1 v))))
def zf_L_hangs_b76 (fu : Nat) (fn : Nat) (y1 : Int32) (y2 : Int32) (y3 : Int32) (z0 : Int32) (v : zTR) : Option Int32 := zf_L_hangs_L96 fu fn fn y1 y2 y3 z0 0 0 0 0 0 0 v
def zf_L_hangs_b75 (fu : Nat) (fn : Nat) (y1 : Int32) (y2 : Int32) (y3 : Int32) (v : zTR) : Option Int32 := zf_L_hangs_b76 fu fn y1 y2 y3 0 v
def zf_L_hangs (fu : Nat) (fn : Nat) (v0 : zTR) : Option Int32 := (zf_X7_received fu v0).bind fun r1 => (zf_X7_printedLength fu v0).bind fun r2 => (zf_X7_segments fu v0).bind fun r3 => if r1 < 0 then (zf_L_hangs_b75 fu fn r1 r2 r3 v0) else ((zf_X7_sent fu v0).bind fun r5 => if r5 < r1 then (zf_L_hangs_b75 fu fn r1 r2 r3 v0) else ((zf_X7_sent fu v0).bind fun r7 => if 200 < r7 then (zf_L_hangs_b75 fu fn r1 r2 r3 v0) else ((zf_X7_words fu v0).bind fun r9 => if r9 < 0 then (zf_L_hangs_b75 fu fn r1 r2 r3 v0) else ((zf_X7_words fu v0).bind fun r11 => if 20 < r11 then (zf_L_hangs_b75 fu fn r1 r2 r3 v0) else (if r2 < 0 then (zf_L_hangs_b75 fu fn r1 r2 r3 v0) else (if r1 < r2 then (zf_L_hangs_b75 fu fn r1 r2 r3 v0) else (if r3 < 0 then (zf_L_hangs_b75 fu fn r1 r2 r3 v0) else (if r1 < r3 then (zf_L_hangs_b75 fu fn r1 r2 r3 v0) else (zf_L_hangs_b76 fu fn r1 r2 r3 1 v0)))))))))
theorem zh_L_hangs : yL_hangs.cls ≠ "java/lang/invoke/MethodHandle" ∧ yL_hangs.cls ≠ "java/lang/invoke/VarHandle" ∧ (parseMethodDescriptor yL_hangs.desc).map (fun d => d.parameters.length) = some 1 := by decide +kernel
set_option maxHeartbeats 40000000 in
set_option maxRecDepth 20000 in
theorem zc_L_hangs (G : zgG) (hst : G.1.stackTraces = false) (a hb : Nat → Nat) (v0 : zTR) (fu fn : Nat) (hfn : fn ≤ 250) (res : Int32) (hf : zf_L_hangs fu fn v0 = some res) : zgCt (σ := Nat → Nat) G yL_hangs wsL_hangs ({ frames := 8, cells := 1506, slots := 9036, locals := 184 } : Room) [.ref (a 0)] (zTc G a hb v0) (fun _ => some (.int res)) (fun h => zTc G a h v0) 1506 9036 := by
  refine zg_of (own := RL) (cc := cL_hangs) (nL := 17) (ret := (some .boolean)) (by decide +kernel) rfl rfl (Nat.le_of_ble_eq_true rfl) (fun Z X hF => ?_)
  show zgGd G Z ({ frames := 8, cells := 1506, slots := 9036, locals := 184 } : Room) 0 0 17 (zTc G a hb v0) 0 [(0, .ref (a 0))] []
  have hB720 : ∀ (hb : Nat → Nat) (kc ks : Nat) (y1 : Int32) (y12 : Int32), kc + (1) ≤ 1506 → ks + 6 * (1) ≤ 9036 → zf_L_hangs_b720 fu fn y1 y12 v0 = some res → zgGd G Z ({ frames := 8, cells := 1506, slots := 9036, locals := 184 } : Room) kc ks 17 (zTc G a hb v0) 720 [(0, .ref (a 0)), (1, .int y1), (12, .int y12)] [] := by
    intro hb kc ks y1 y12 hkc hks hf
    unfold zf_L_hangs_b720 at hf
    refine zg_aload_n X dL_hangs_720 rfl 0 rfl ?_
    refine zg_iload_n X dL_hangs_721 rfl 1 rfl ?_
    refine zg_bipush (v := 30) X dL_hangs_722 (by decide) ?_
    obtain ⟨r112, hr112, hf⟩ := pl_b hf
    refine zg_t1 (v' := v0) X (zg_runSW X (zc_L_doubtfulWith G hst a hb v0 y1 30 fu r112 hr112) gL_hangs_L_doubtfulWith rfl zh_L_doubtfulWith ⟨rfl, rfl⟩ ⟨Nat.le_of_ble_eq_true rfl, Nat.le_of_ble_eq_true rfl⟩ rfl (Nat.le_of_ble_eq_true rfl) ⟨(show kc + 1 ≤ 1506 by omega), (show ks + 6 ≤ 9036 by omega)⟩ zI1 zT_nd zT_ix rfl dL_hangs_724) (fun u => ⟨u, rfl⟩) (fun _ => rfl) (fun hb => ?_)
    refine zg_iload X dL_hangs_727 2 rfl ?_
    refine zg_icmp_ne (tgt := 736) X dL_hangs_729 (by decide) (fun c113 => ?_) (fun c113 => ?_)
    · have hf := pl_f c113 hf
      refine zg_iconst (v := 0) X dL_hangs_736 (by decide) ?_
      have hf := Option.some.inj hf
      subst hf
      exact zg_iret X hF rfl rfl hb rfl rfl (by omega) (by omega) dL_hangs_737
    · have hf := pl_t c113 hf
      refine zg_iconst (v := 1) X dL_hangs_732 (by decide) ?_
      refine zg_goto (tgt := 737) X dL_hangs_733 (by decide) ?_
      have hf := Option.some.inj hf
      subst hf
      exact zg_iret X hF rfl rfl hb rfl rfl (by omega) (by omega) dL_hangs_737
  have hB705 : ∀ (hb : Nat → Nat) (kc ks : Nat) (y1 : Int32) (y12 : Int32), kc + (1) ≤ 1506 → ks + 6 * (1) ≤ 9036 → zf_L_hangs_b705 fu fn y1 y12 v0 = some res → zgGd G Z ({ frames := 8, cells := 1506, slots := 9036, locals := 184 } : Room) kc ks 17 (zTc G a hb v0) 705 [(0, .ref (a 0)), (1, .int y1), (12, .int y12)] [] := by
    intro hb kc ks y1 y12 hkc hks hf
    unfold zf_L_hangs_b705 at hf
    refine zg_aload_n X dL_hangs_705 rfl 0 rfl ?_
    obtain ⟨r108, hr108, hf⟩ := pl_b hf
    refine zg_t10 (v' := v0) X (zg_runV X (zt_X7_receiverShift G a hb v0 fu r108 hr108) gL_hangs_X7_receiverShift rfl zh_X7_receiverShift ⟨rfl, rfl⟩ ⟨Nat.le_of_ble_eq_true rfl, Nat.le_of_ble_eq_true rfl⟩ rfl rfl rfl (Nat.le_of_ble_eq_true rfl) ⟨(show kc + 0 ≤ 1506 by omega), (show ks + 0 ≤ 9036 by omega)⟩ zI1 zT_nd zT_ix rfl dL_hangs_706) ⟨_, rfl⟩ (fun hb => ?_)
    refine zg_if_eq (tgt := 720) X dL_hangs_709 (by decide) (fun c109 => ?_) (fun c109 => ?_)
    · have hf := pl_t c109 hf
      exact hB720 hb kc ks y1 y12 (by omega) (by omega) hf
    · have hf := pl_f c109 hf
      refine zg_aload_n X dL_hangs_712 rfl 0 rfl ?_
      obtain ⟨r110, hr110, hf⟩ := pl_b hf
      refine zg_t10 (v' := v0) X (zg_runV X (zt_X7_receiverShift G a hb v0 fu r110 hr110) gL_hangs_X7_receiverShift rfl zh_X7_receiverShift ⟨rfl, rfl⟩ ⟨Nat.le_of_ble_eq_true rfl, Nat.le_of_ble_eq_true rfl⟩ rfl rfl rfl (Nat.le_of_ble_eq_true rfl) ⟨(show kc + 0 ≤ 1506 by omega), (show ks + 0 ≤ 9036 by omega)⟩ zI1 zT_nd zT_ix rfl dL_hangs_713) ⟨_, rfl⟩ (fun hb => ?_)
      refine zg_iconst (v := 1) X dL_hangs_716 (by decide) ?_
      refine zg_icmp_ne (tgt := 736) X dL_hangs_717 (by decide) (fun c111 => ?_) (fun c111 => ?_)
      · have hf := pl_f c111 hf
        refine zg_iconst (v := 0) X dL_hangs_736 (by decide) ?_
        have hf := Option.some.inj hf
        subst hf
        exact zg_iret X hF rfl rfl hb rfl rfl (by omega) (by omega) dL_hangs_737
      · have hf := pl_t c111 hf
        exact hB720 hb kc ks y1 y12 (by omega) (by omega) hf
  have hB659 : ∀ (hb : Nat → Nat) (kc ks : Nat) (y1 : Int32) (y12 : Int32) (z0 : Int32), kc + (1) ≤ 1506 → ks + 6 * (1) ≤ 9036 → zf_L_hangs_b659 fu fn y1 y12 z0 v0 = some res → zgGd G Z ({ frames := 8, cells := 1506, slots := 9036, locals := 184 } : Room) kc ks 17 (zTc G a hb v0) 659 [(0, .ref (a 0)), (1, .int y1), (12, .int y12)] [.int z0] := by
    intro hb kc ks y1 y12 z0 hkc hks hf
    unfold zf_L_hangs_b659 at hf
    refine zg_istore (L' := [(4, .int z0), (0, .ref (a 0)), (1, .int y1), (12, .int y12)]) X dL_hangs_659 (by decide) rfl ?_
    refine zg_iload X dL_hangs_661 0 rfl ?_
    refine zg_if_eq (tgt := 736) X dL_hangs_663 (by decide) (fun c97 => ?_) (fun c97 => ?_)
    · have hf := pl_t c97 hf
      refine zg_iconst (v := 0) X dL_hangs_736 (by decide) ?_
      have hf := Option.some.inj hf
      subst hf
      exact zg_iret X hF rfl rfl hb rfl rfl (by omega) (by omega) dL_hangs_737
    · have hf := pl_f c97 hf
      refine zg_aload_n X dL_hangs_666 rfl 1 rfl ?_
      obtain ⟨r98, hr98, hf⟩ := pl_b hf
      refine zg_t10 (v' := v0) X (zg_runV X (zt_X7_wrongCharacters G a hb v0 fu r98 hr98) gL_hangs_X7_wrongCharacters rfl zh_X7_wrongCharacters ⟨rfl, rfl⟩ ⟨Nat.le_of_ble_eq_true rfl, Nat.le_of_ble_eq_true rfl⟩ rfl rfl rfl (Nat.le_of_ble_eq_true rfl) ⟨(show kc + 0 ≤ 1506 by omega), (show ks + 0 ≤ 9036 by omega)⟩ zI1 zT_nd zT_ix rfl dL_hangs_667) ⟨_, rfl⟩ (fun hb => ?_)
      refine zg_if_lt (tgt := 736) X dL_hangs_670 (by decide) (fun c99 => ?_) (fun c99 => ?_)
      · have hf := pl_t c99 hf
        refine zg_iconst (v := 0) X dL_hangs_736 (by decide) ?_
        have hf := Option.some.inj hf
        subst hf
        exact zg_iret X hF rfl rfl hb rfl rfl (by omega) (by omega) dL_hangs_737
      · have hf := pl_f c99 hf
        refine zg_aload_n X dL_hangs_673 rfl 1 rfl ?_
        obtain ⟨r100, hr100, hf⟩ := pl_b hf
        refine zg_t10 (v' := v0) X (zg_runV X (zt_X7_faults G a hb v0 fu r100 hr100) gL_hangs_X7_faults rfl zh_X7_faults ⟨rfl, rfl⟩ ⟨Nat.le_of_ble_eq_true rfl, Nat.le_of_ble_eq_true rfl⟩ rfl rfl rfl (Nat.le_of_ble_eq_true rfl) ⟨(show kc + 0 ≤ 1506 by omega), (show ks + 0 ≤ 9036 by omega)⟩ zI1 zT_nd zT_ix rfl dL_hangs_674) ⟨_, rfl⟩ (fun hb => ?_)
        refine zg_if_lt (tgt := 736) X dL_hangs_677 (by decide) (fun c101 => ?_) (fun c101 => ?_)
        · have hf := pl_t c101 hf
          refine zg_iconst (v := 0) X dL_hangs_736 (by decide) ?_
          have hf := Option.some.inj hf
          subst hf
          exact zg_iret X hF rfl rfl hb rfl rfl (by omega) (by omega) dL_hangs_737
        · have hf := pl_f c101 hf
          refine zg_aload_n X dL_hangs_680 rfl 1 rfl ?_
          obtain ⟨r102, hr102, hf⟩ := pl_b hf
          refine zg_t10 (v' := v0) X (zg_runV X (zt_X7_faults G a hb v0 fu r102 hr102) gL_hangs_X7_faults rfl zh_X7_faults ⟨rfl, rfl⟩ ⟨Nat.le_of_ble_eq_true rfl, Nat.le_of_ble_eq_true rfl⟩ rfl rfl rfl (Nat.le_of_ble_eq_true rfl) ⟨(show kc + 0 ≤ 1506 by omega), (show ks + 0 ≤ 9036 by omega)⟩ zI1 zT_nd zT_ix rfl dL_hangs_681) ⟨_, rfl⟩ (fun hb => ?_)
          refine zg_sipush (v := 200) X dL_hangs_684 (by decide) ?_
          refine zg_icmp_gt (tgt := 736) X dL_hangs_687 (by decide) (fun c103 => ?_) (fun c103 => ?_)
          · have hf := pl_t c103 hf
            refine zg_iconst (v := 0) X dL_hangs_736 (by decide) ?_
            have hf := Option.some.inj hf
            subst hf
            exact zg_iret X hF rfl rfl hb rfl rfl (by omega) (by omega) dL_hangs_737
          · have hf := pl_f c103 hf
            refine zg_aload_n X dL_hangs_690 rfl 1 rfl ?_
            obtain ⟨r104, hr104, hf⟩ := pl_b hf
            refine zg_t10 (v' := v0) X (zg_runV X (zt_X7_senderShift G a hb v0 fu r104 hr104) gL_hangs_X7_senderShift rfl zh_X7_senderShift ⟨rfl, rfl⟩ ⟨Nat.le_of_ble_eq_true rfl, Nat.le_of_ble_eq_true rfl⟩ rfl rfl rfl (Nat.le_of_ble_eq_true rfl) ⟨(show kc + 0 ≤ 1506 by omega), (show ks + 0 ≤ 9036 by omega)⟩ zI1 zT_nd zT_ix rfl dL_hangs_691) ⟨_, rfl⟩ (fun hb => ?_)
            refine zg_if_eq (tgt := 705) X dL_hangs_694 (by decide) (fun c105 => ?_) (fun c105 => ?_)
            · have hf := pl_t c105 hf
              refine zg_loc [1, 2, 3] rfl ?_
              exact hB705 hb kc ks y1 y12 (by omega) (by omega) hf
            · have hf := pl_f c105 hf
              refine zg_aload_n X dL_hangs_697 rfl 1 rfl ?_
              obtain ⟨r106, hr106, hf⟩ := pl_b hf
              refine zg_t10 (v' := v0) X (zg_runV X (zt_X7_senderShift G a hb v0 fu r106 hr106) gL_hangs_X7_senderShift rfl zh_X7_senderShift ⟨rfl, rfl⟩ ⟨Nat.le_of_ble_eq_true rfl, Nat.le_of_ble_eq_true rfl⟩ rfl rfl rfl (Nat.le_of_ble_eq_true rfl) ⟨(show kc + 0 ≤ 1506 by omega), (show ks + 0 ≤ 9036 by omega)⟩ zI1 zT_nd zT_ix rfl dL_hangs_698) ⟨_, rfl⟩ (fun hb => ?_)
              refine zg_iconst (v := 1) X dL_hangs_701 (by decide) ?_
              refine zg_icmp_ne (tgt := 736) X dL_hangs_702 (by decide) (fun c107 => ?_) (fun c107 => ?_)
              · have hf := pl_f c107 hf
                refine zg_iconst (v := 0) X dL_hangs_736 (by decide) ?_
                have hf := Option.some.inj hf
                subst hf
                exact zg_iret X hF rfl rfl hb rfl rfl (by omega) (by omega) dL_hangs_737
              · have hf := pl_t c107 hf
                refine zg_loc [1, 2, 3] rfl ?_
                exact hB705 hb kc ks y1 y12 (by omega) (by omega) hf
  have hB654 : ∀ (hb : Nat → Nat) (kc ks : Nat) (y1 : Int32) (y12 : Int32), kc + (1) ≤ 1506 → ks + 6 * (1) ≤ 9036 → zf_L_hangs_b654 fu fn y1 y12 v0 = some res → zgGd G Z ({ frames := 8, cells := 1506, slots := 9036, locals := 184 } : Room) kc ks 17 (zTc G a hb v0) 654 [(0, .ref (a 0)), (1, .int y1), (12, .int y12)] [] := by
    intro hb kc ks y1 y12 hkc hks hf
    unfold zf_L_hangs_b654 at hf
    refine zg_iconst (v := 1) X dL_hangs_654 (by decide) ?_
    refine zg_goto (tgt := 659) X dL_hangs_655 (by decide) ?_
    exact hB659 hb kc ks y1 y12 1 (by omega) (by omega) hf
  have hB658 : ∀ (hb : Nat → Nat) (kc ks : Nat) (y1 : Int32) (y12 : Int32), kc + (1) ≤ 1506 → ks + 6 * (1) ≤ 9036 → zf_L_hangs_b658 fu fn y1 y12 v0 = some res → zgGd G Z ({ frames := 8, cells := 1506, slots := 9036, locals := 184 } : Room) kc ks 17 (zTc G a hb v0) 658 [(0, .ref (a 0)), (1, .int y1), (12, .int y12)] [] := by
    intro hb kc ks y1 y12 hkc hks hf
    unfold zf_L_hangs_b658 at hf
    refine zg_iconst (v := 0) X dL_hangs_658 (by decide) ?_
    exact hB659 hb kc ks y1 y12 0 (by omega) (by omega) hf
  have hB643 : ∀ (hb : Nat → Nat) (kc ks : Nat) (y1 : Int32) (y12 : Int32) (y15 : Int32), kc + (1) ≤ 1506 → ks + 6 * (1) ≤ 9036 → zf_L_hangs_b643 fu fn y1 y12 y15 v0 = some res → zgGd G Z ({ frames := 8, cells := 1506, slots := 9036, locals := 184 } : Room) kc ks 17 (zTc G a hb v0) 643 [(0, .ref (a 0)), (1, .int y1), (12, .int y12), (15, .int y15)] [] := by
    intro hb kc ks y1 y12 y15 hkc hks hf
    unfold zf_L_hangs_b643 at hf
    refine zg_iload X dL_hangs_643 2 rfl ?_
    refine zg_if_gt (tgt := 654) X dL_hangs_645 (by decide) (fun c95 => ?_) (fun c95 => ?_)
    · have hf := pl_t c95 hf
      refine zg_loc [0, 1, 2] rfl ?_
      exact hB654 hb kc ks y1 y12 (by omega) (by omega) hf
    · have hf := pl_f c95 hf
      refine zg_iload X dL_hangs_648 3 rfl ?_
      refine zg_iconst (v := (-1)) X dL_hangs_650 (by decide) ?_
      refine zg_icmp_ne (tgt := 658) X dL_hangs_651 (by decide) (fun c96 => ?_) (fun c96 => ?_)
      · have hf := pl_f c96 hf
        refine zg_loc [0, 1, 2] rfl ?_
        exact hB658 hb kc ks y1 y12 (by omega) (by omega) hf
      · have hf := pl_t c96 hf
        refine zg_loc [0, 1, 2] rfl ?_
        exact hB654 hb kc ks y1 y12 (by omega) (by omega) hf
  have hB589 : ∀ (hb : Nat → Nat) (kc ks : Nat) (y1 : Int32) (y12 : Int32) (z0 : Int32), kc + (2) ≤ 1506 → ks + 6 * (2) ≤ 9036 → zf_L_hangs_b589 fu fn y1 y12 z0 v0 = some res → zgGd G Z ({ frames := 8, cells := 1506, slots := 9036, locals := 184 } : Room) kc ks 17 (zTc G a hb v0) 589 [(0, .ref (a 0)), (1, .int y1), (12, .int y12)] [.int z0] := by
    intro hb kc ks y1 y12 z0 hkc hks hf
    unfold zf_L_hangs_b589 at hf
    refine zg_istore (L' := [(4, .int z0), (0, .ref (a 0)), (1, .int y1), (12, .int y12)]) X dL_hangs_589 (by decide) rfl ?_
    refine zg_aload_n X dL_hangs_591 rfl 1 rfl ?_
    obtain ⟨r88, hr88, hf⟩ := pl_b hf
    refine zg_t10 (v' := v0) X (zg_runV X (zt_X7_bestRepair G a hb v0 fu r88 hr88) gL_hangs_X7_bestRepair rfl zh_X7_bestRepair ⟨rfl, rfl⟩ ⟨Nat.le_of_ble_eq_true rfl, Nat.le_of_ble_eq_true rfl⟩ rfl rfl rfl (Nat.le_of_ble_eq_true rfl) ⟨(show kc + 0 ≤ 1506 by omega), (show ks + 0 ≤ 9036 by omega)⟩ zI1 zT_nd zT_ix rfl dL_hangs_592) ⟨_, rfl⟩ (fun hb => ?_)
    refine zg_istore (L' := [(15, .int r88), (4, .int z0), (0, .ref (a 0)), (1, .int y1), (12, .int y12)]) X dL_hangs_595 (by decide) rfl ?_
    refine zg_iload X dL_hangs_597 1 rfl ?_
    refine zg_if_eq (tgt := 658) X dL_hangs_599 (by decide) (fun c89 => ?_) (fun c89 => ?_)
    · have hf := pl_t c89 hf
      refine zg_loc [2, 3, 4] rfl ?_
      exact hB658 hb kc ks y1 y12 (by omega) (by omega) hf
    · have hf := pl_f c89 hf
      refine zg_iload X dL_hangs_602 0 rfl ?_
      refine zg_iconst (v := (-1)) X dL_hangs_604 (by decide) ?_
      refine zg_icmp_eq (tgt := 643) X dL_hangs_605 (by decide) (fun c90 => ?_) (fun c90 => ?_)
      · have hf := pl_t c90 hf
        refine zg_loc [2, 3, 4, 0] rfl ?_
        exact hB643 hb kc ks y1 y12 r88 (by omega) (by omega) hf
      · have hf := pl_f c90 hf
        refine zg_iload X dL_hangs_608 0 rfl ?_
        refine zg_if_lt (tgt := 658) X dL_hangs_610 (by decide) (fun c91 => ?_) (fun c91 => ?_)
        · have hf := pl_t c91 hf
          refine zg_loc [2, 3, 4] rfl ?_
          exact hB658 hb kc ks y1 y12 (by omega) (by omega) hf
        · have hf := pl_f c91 hf
          refine zg_iload X dL_hangs_613 0 rfl ?_
          refine zg_iconst (v := 2) X dL_hangs_615 (by decide) ?_
          refine zg_iload_n X dL_hangs_616 rfl 3 rfl ?_
          refine zg_imul X dL_hangs_617 ?_
          refine zg_iconst (v := 2) X dL_hangs_618 (by decide) ?_
          refine zg_iadd X dL_hangs_619 ?_
          refine zg_icmp_ge (tgt := 658) X dL_hangs_620 (by decide) (fun c92 => ?_) (fun c92 => ?_)
          · have hf := pl_t c92 hf
            refine zg_loc [2, 3, 4] rfl ?_
            exact hB658 hb kc ks y1 y12 (by omega) (by omega) hf
          · have hf := pl_f c92 hf
            refine zg_aload_n X dL_hangs_623 rfl 2 rfl ?_
            refine zg_iload X dL_hangs_624 0 rfl ?_
            refine zg_iconst (v := 2) X dL_hangs_626 (by decide) ?_
            refine zg_idiv X dL_hangs_627 (by decide) ?_
            refine zg_bipush (v := 30) X dL_hangs_628 (by decide) ?_
            refine zg_iload X dL_hangs_630 0 rfl ?_
            refine zg_iconst (v := 2) X dL_hangs_632 (by decide) ?_
            refine zg_irem X dL_hangs_633 (by decide) ?_
            refine zg_iadd X dL_hangs_634 ?_
            obtain ⟨r93, hr93, hf⟩ := pl_b hf
            refine zg_t1 (v' := v0) X (zg_runSW X (zc_L_doubtfulWith G hst a hb v0 (r88 / 2) ((30 : Int32) + (r88 - r88 / 2 * 2)) fu r93 hr93) gL_hangs_L_doubtfulWith rfl zh_L_doubtfulWith ⟨rfl, rfl⟩ ⟨Nat.le_of_ble_eq_true rfl, Nat.le_of_ble_eq_true rfl⟩ rfl (Nat.le_of_ble_eq_true rfl) ⟨(show kc + 1 ≤ 1506 by omega), (show ks + 6 ≤ 9036 by omega)⟩ zI1 zT_nd zT_ix rfl dL_hangs_635) (fun u => ⟨u, rfl⟩) (fun _ => rfl) (fun hb => ?_)
            refine zg_iload X dL_hangs_638 4 rfl ?_
            refine zg_icmp_ge (tgt := 658) X dL_hangs_640 (by decide) (fun c94 => ?_) (fun c94 => ?_)
            · have hf := pl_t c94 hf
              refine zg_loc [2, 3, 4] rfl ?_
              exact hB658 hb (kc + 1) (ks + 6) y1 y12 (by omega) (by omega) hf
            · have hf := pl_f c94 hf
              refine zg_loc [2, 3, 4, 0] rfl ?_
              exact hB643 hb (kc + 1) (ks + 6) y1 y12 r88 (by omega) (by omega) hf
  have hB588 : ∀ (hb : Nat → Nat) (kc ks : Nat) (y1 : Int32) (y12 : Int32), kc + (2) ≤ 1506 → ks + 6 * (2) ≤ 9036 → zf_L_hangs_b588 fu fn y1 y12 v0 = some res → zgGd G Z ({ frames := 8, cells := 1506, slots := 9036, locals := 184 } : Room) kc ks 17 (zTc G a hb v0) 588 [(0, .ref (a 0)), (1, .int y1), (12, .int y12)] [] := by
    intro hb kc ks y1 y12 hkc hks hf
    unfold zf_L_hangs_b588 at hf
    refine zg_iconst (v := 0) X dL_hangs_588 (by decide) ?_
    exact hB589 hb kc ks y1 y12 0 (by omega) (by omega) hf
  have hB580 : ∀ (hb : Nat → Nat) (kc ks : Nat) (y1 : Int32) (y12 : Int32) (z0 : UInt64) (z1 : UInt64), kc + (2) ≤ 1506 → ks + 6 * (2) ≤ 9036 → zf_L_hangs_b580 fu fn y1 y12 z0 z1 v0 = some res → zgGd G Z ({ frames := 8, cells := 1506, slots := 9036, locals := 184 } : Room) kc ks 17 (zTc G a hb v0) 580 [(0, .ref (a 0)), (1, .int y1), (12, .int y12)] [.double z1, .double z0] := by
    intro hb kc ks y1 y12 z0 z1 hkc hks hf
    unfold zf_L_hangs_b580 at hf
    refine zg_dcmp X dL_hangs_580 ?_
    refine zg_if_ne (tgt := 588) X dL_hangs_581 (by decide) (fun c86 => ?_) (fun c86 => ?_)
    · have hf := pl_f c86 hf
      exact hB588 hb kc ks y1 y12 (by omega) (by omega) hf
    · have hf := pl_t c86 hf
      refine zg_iconst (v := 1) X dL_hangs_584 (by decide) ?_
      refine zg_goto (tgt := 589) X dL_hangs_585 (by decide) ?_
      exact hB589 hb kc ks y1 y12 1 (by omega) (by omega) hf
  have hB454 : ∀ (hb : Nat → Nat) (kc ks : Nat) (y1 : Int32) (y2 : Int32) (y3 : Int32) (y4 : Int32) (y5 : Int32) (y6 : Int32) (y7 : Int32) (y8 : Int32) (y10 : Int32) (y11 : Int32) (y12 : Int32) (y13 : Int32) (y14 : Int32), kc + (6) ≤ 1506 → ks + 6 * (6) ≤ 9036 → zf_L_hangs_b454 fu fn y1 y2 y3 y4 y5 y6 y7 y8 y10 y11 y12 y13 y14 v0 = some res → zgGd G Z ({ frames := 8, cells := 1506, slots := 9036, locals := 184 } : Room) kc ks 17 (zTc G a hb v0) 454 [(0, .ref (a 0)), (1, .int y1), (2, .int y2), (3, .int y3), (4, .int y4), (5, .int y5), (6, .int y6), (7, .int y7), (8, .int y8), (10, .int y10), (11, .int y11), (12, .int y12), (13, .int y13), (14, .int y14)] [] := by
    intro hb kc ks y1 y2 y3 y4 y5 y6 y7 y8 y10 y11 y12 y13 y14 hkc hks hf
    unfold zf_L_hangs_b454 at hf
    refine zg_iload X dL_hangs_454 4 rfl ?_
    refine zg_if_eq (tgt := 588) X dL_hangs_456 (by decide) (fun c62 => ?_) (fun c62 => ?_)
    · have hf := pl_t c62 hf
      refine zg_loc [0, 1, 11] rfl ?_
      exact hB588 hb kc ks y1 y12 (by omega) (by omega) hf
    · have hf := pl_f c62 hf
      refine zg_iload X dL_hangs_459 5 rfl ?_
      refine zg_iload X dL_hangs_461 9 rfl ?_
      refine zg_icmp_ne (tgt := 588) X dL_hangs_463 (by decide) (fun c63 => ?_) (fun c63 => ?_)
      · have hf := pl_f c63 hf
        refine zg_loc [0, 1, 11] rfl ?_
        exact hB588 hb kc ks y1 y12 (by omega) (by omega) hf
      · have hf := pl_t c63 hf
        refine zg_iload X dL_hangs_466 5 rfl ?_
        refine zg_iload X dL_hangs_468 6 rfl ?_
        refine zg_iadd X dL_hangs_470 ?_
        refine zg_iload_n X dL_hangs_471 rfl 2 rfl ?_
        refine zg_icmp_ne (tgt := 588) X dL_hangs_472 (by decide) (fun c64 => ?_) (fun c64 => ?_)
        · have hf := pl_f c64 hf
          refine zg_loc [0, 1, 11] rfl ?_
          exact hB588 hb kc ks y1 y12 (by omega) (by omega) hf
        · have hf := pl_t c64 hf
          refine zg_iload X dL_hangs_475 8 rfl ?_
          refine zg_iload_n X dL_hangs_477 rfl 3 rfl ?_
          refine zg_icmp_ne (tgt := 588) X dL_hangs_478 (by decide) (fun c65 => ?_) (fun c65 => ?_)
          · have hf := pl_f c65 hf
            refine zg_loc [0, 1, 11] rfl ?_
            exact hB588 hb kc ks y1 y12 (by omega) (by omega) hf
          · have hf := pl_t c65 hf
            refine zg_aload_n X dL_hangs_481 rfl 0 rfl ?_
            obtain ⟨r66, hr66, hf⟩ := pl_b hf
            refine zg_t10 (v' := v0) X (zg_runV X (zt_X7_bells G a hb v0 fu r66 hr66) gL_hangs_X7_bells rfl zh_X7_bells ⟨rfl, rfl⟩ ⟨Nat.le_of_ble_eq_true rfl, Nat.le_of_ble_eq_true rfl⟩ rfl rfl rfl (Nat.le_of_ble_eq_true rfl) ⟨(show kc + 0 ≤ 1506 by omega), (show ks + 0 ≤ 9036 by omega)⟩ zI1 zT_nd zT_ix rfl dL_hangs_482) ⟨_, rfl⟩ (fun hb => ?_)
            refine zg_aload_n X dL_hangs_485 rfl 0 rfl ?_
            obtain ⟨r67, hr67, hf⟩ := pl_b hf
            refine zg_t10 (v' := v0) X (zg_runV X (zt_X7_questions G a hb v0 fu r67 hr67) gL_hangs_X7_questions rfl zh_X7_questions ⟨rfl, rfl⟩ ⟨Nat.le_of_ble_eq_true rfl, Nat.le_of_ble_eq_true rfl⟩ rfl rfl rfl (Nat.le_of_ble_eq_true rfl) ⟨(show kc + 0 ≤ 1506 by omega), (show ks + 0 ≤ 9036 by omega)⟩ zI1 zT_nd zT_ix rfl dL_hangs_486) ⟨_, rfl⟩ (fun hb => ?_)
            refine zg_iadd X dL_hangs_489 ?_
            refine zg_iload X dL_hangs_490 7 rfl ?_
            refine zg_icmp_ne (tgt := 588) X dL_hangs_492 (by decide) (fun c68 => ?_) (fun c68 => ?_)
            · have hf := pl_f c68 hf
              refine zg_loc [0, 1, 11] rfl ?_
              exact hB588 hb kc ks y1 y12 (by omega) (by omega) hf
            · have hf := pl_t c68 hf
              refine zg_iload X dL_hangs_495 10 rfl ?_
              refine zg_aload_n X dL_hangs_497 rfl 0 rfl ?_
              obtain ⟨r69, hr69, hf⟩ := pl_b hf
              refine zg_t10 (v' := v0) X (zg_runV X (zt_X7_guesses G a hb v0 fu r69 hr69) gL_hangs_X7_guesses rfl zh_X7_guesses ⟨rfl, rfl⟩ ⟨Nat.le_of_ble_eq_true rfl, Nat.le_of_ble_eq_true rfl⟩ rfl rfl rfl (Nat.le_of_ble_eq_true rfl) ⟨(show kc + 0 ≤ 1506 by omega), (show ks + 0 ≤ 9036 by omega)⟩ zI1 zT_nd zT_ix rfl dL_hangs_498) ⟨_, rfl⟩ (fun hb => ?_)
              refine zg_icmp_ne (tgt := 588) X dL_hangs_501 (by decide) (fun c70 => ?_) (fun c70 => ?_)
              · have hf := pl_f c70 hf
                refine zg_loc [0, 1, 11] rfl ?_
                exact hB588 hb kc ks y1 y12 (by omega) (by omega) hf
              · have hf := pl_t c70 hf
                refine zg_iload X dL_hangs_504 11 rfl ?_
                refine zg_aload_n X dL_hangs_506 rfl 0 rfl ?_
                obtain ⟨r71, hr71, hf⟩ := pl_b hf
                refine zg_t10 (v' := v0) X (zg_runV X (zt_X7_doubtful G a hb v0 fu r71 hr71) gL_hangs_X7_doubtful rfl zh_X7_doubtful ⟨rfl, rfl⟩ ⟨Nat.le_of_ble_eq_true rfl, Nat.le_of_ble_eq_true rfl⟩ rfl rfl rfl (Nat.le_of_ble_eq_true rfl) ⟨(show kc + 0 ≤ 1506 by omega), (show ks + 0 ≤ 9036 by omega)⟩ zI1 zT_nd zT_ix rfl dL_hangs_507) ⟨_, rfl⟩ (fun hb => ?_)
                refine zg_icmp_ne (tgt := 588) X dL_hangs_510 (by decide) (fun c72 => ?_) (fun c72 => ?_)
                · have hf := pl_f c72 hf
                  refine zg_loc [0, 1, 11] rfl ?_
                  exact hB588 hb kc ks y1 y12 (by omega) (by omega) hf
                · have hf := pl_t c72 hf
                  refine zg_iload X dL_hangs_513 13 rfl ?_
                  refine zg_iload X dL_hangs_515 12 rfl ?_
                  refine zg_icmp_ne (tgt := 588) X dL_hangs_517 (by decide) (fun c73 => ?_) (fun c73 => ?_)
                  · have hf := pl_f c73 hf
                    refine zg_loc [0, 1, 11] rfl ?_
                    exact hB588 hb kc ks y1 y12 (by omega) (by omega) hf
                  · have hf := pl_t c73 hf
                    refine zg_aload_n X dL_hangs_520 rfl 0 rfl ?_
                    refine zg_iload_n X dL_hangs_521 rfl 2 rfl ?_
                    obtain ⟨r74, hr74, hf⟩ := pl_b hf
                    refine zg_t1 (v' := v0) X (zg_runSW X (zc_L_printed G hst a hb v0 y2 fu r74 hr74) gL_hangs_L_printed rfl zh_L_printed ⟨rfl, rfl⟩ ⟨Nat.le_of_ble_eq_true rfl, Nat.le_of_ble_eq_true rfl⟩ rfl (Nat.le_of_ble_eq_true rfl) ⟨(show kc + 1 ≤ 1506 by omega), (show ks + 6 ≤ 9036 by omega)⟩ zI1 zT_nd zT_ix rfl dL_hangs_522) (fun u => ⟨u, rfl⟩) (fun _ => rfl) (fun hb => ?_)
                    refine zg_bipush (v := (-2)) X dL_hangs_525 (by decide) ?_
                    refine zg_icmp_ne (tgt := 588) X dL_hangs_527 (by decide) (fun c75 => ?_) (fun c75 => ?_)
                    · have hf := pl_f c75 hf
                      refine zg_loc [0, 1, 11] rfl ?_
                      exact hB588 hb (kc + 1) (ks + 6) y1 y12 (by omega) (by omega) hf
                    · have hf := pl_t c75 hf
                      refine zg_aload_n X dL_hangs_530 rfl 0 rfl ?_
                      refine zg_iconst (v := (-1)) X dL_hangs_531 (by decide) ?_
                      obtain ⟨r76, hr76, hf⟩ := pl_b hf
                      refine zg_t1 (v' := v0) X (zg_runSW X (zc_L_printed G hst a hb v0 (-1) fu r76 hr76) gL_hangs_L_printed rfl zh_L_printed ⟨rfl, rfl⟩ ⟨Nat.le_of_ble_eq_true rfl, Nat.le_of_ble_eq_true rfl⟩ rfl (Nat.le_of_ble_eq_true rfl) ⟨(show (kc + 1) + 1 ≤ 1506 by omega), (show (ks + 6) + 6 ≤ 9036 by omega)⟩ zI1 zT_nd zT_ix rfl dL_hangs_532) (fun u => ⟨u, rfl⟩) (fun _ => rfl) (fun hb => ?_)
                      refine zg_bipush (v := (-2)) X dL_hangs_535 (by decide) ?_
                      refine zg_icmp_ne (tgt := 588) X dL_hangs_537 (by decide) (fun c77 => ?_) (fun c77 => ?_)
                      · have hf := pl_f c77 hf
                        refine zg_loc [0, 1, 11] rfl ?_
                        exact hB588 hb ((kc + 1) + 1) ((ks + 6) + 6) y1 y12 (by omega) (by omega) hf
                      · have hf := pl_t c77 hf
                        refine zg_aload_n X dL_hangs_540 rfl 0 rfl ?_
                        refine zg_iload_n X dL_hangs_541 rfl 3 rfl ?_
                        obtain ⟨r78, hr78, hf⟩ := pl_b hf
                        refine zg_t1 (v' := v0) X (zg_runSW X (zc_L_segmentLength G hst a hb v0 y3 fu r78 hr78) gL_hangs_L_segmentLength rfl zh_L_segmentLength ⟨rfl, rfl⟩ ⟨Nat.le_of_ble_eq_true rfl, Nat.le_of_ble_eq_true rfl⟩ rfl (Nat.le_of_ble_eq_true rfl) ⟨(show ((kc + 1) + 1) + 1 ≤ 1506 by omega), (show ((ks + 6) + 6) + 6 ≤ 9036 by omega)⟩ zI1 zT_nd zT_ix rfl dL_hangs_542) (fun u => ⟨u, rfl⟩) (fun _ => rfl) (fun hb => ?_)
                        refine zg_bipush (v := (-2)) X dL_hangs_545 (by decide) ?_
                        refine zg_icmp_ne (tgt := 588) X dL_hangs_547 (by decide) (fun c79 => ?_) (fun c79 => ?_)
                        · have hf := pl_f c79 hf
                          refine zg_loc [0, 1, 11] rfl ?_
                          exact hB588 hb (((kc + 1) + 1) + 1) (((ks + 6) + 6) + 6) y1 y12 (by omega) (by omega) hf
                        · have hf := pl_t c79 hf
                          refine zg_aload_n X dL_hangs_550 rfl 0 rfl ?_
                          refine zg_iconst (v := (-1)) X dL_hangs_551 (by decide) ?_
                          obtain ⟨r80, hr80, hf⟩ := pl_b hf
                          refine zg_t1 (v' := v0) X (zg_runSW X (zc_L_receivedCode G hst a hb v0 (-1) fu r80 hr80) gL_hangs_L_receivedCode rfl zh_L_receivedCode ⟨rfl, rfl⟩ ⟨Nat.le_of_ble_eq_true rfl, Nat.le_of_ble_eq_true rfl⟩ rfl (Nat.le_of_ble_eq_true rfl) ⟨(show (((kc + 1) + 1) + 1) + 1 ≤ 1506 by omega), (show (((ks + 6) + 6) + 6) + 6 ≤ 9036 by omega)⟩ zI1 zT_nd zT_ix rfl dL_hangs_552) (fun u => ⟨u, rfl⟩) (fun _ => rfl) (fun hb => ?_)
                          refine zg_bipush (v := (-2)) X dL_hangs_555 (by decide) ?_
                          refine zg_icmp_ne (tgt := 588) X dL_hangs_557 (by decide) (fun c81 => ?_) (fun c81 => ?_)
                          · have hf := pl_f c81 hf
                            refine zg_loc [0, 1, 11] rfl ?_
                            exact hB588 hb ((((kc + 1) + 1) + 1) + 1) ((((ks + 6) + 6) + 6) + 6) y1 y12 (by omega) (by omega) hf
                          · have hf := pl_t c81 hf
                            refine zg_aload_n X dL_hangs_560 rfl 0 rfl ?_
                            obtain ⟨r82, hr82, hf⟩ := pl_b hf
                            refine zg_t10 (v' := v0) X (zg_runV X (zt_X7_plausibility G a hb v0 fu r82 hr82) gL_hangs_X7_plausibility rfl zh_X7_plausibility ⟨rfl, rfl⟩ ⟨Nat.le_of_ble_eq_true rfl, Nat.le_of_ble_eq_true rfl⟩ rfl rfl rfl (Nat.le_of_ble_eq_true rfl) ⟨(show ((((kc + 1) + 1) + 1) + 1) + 0 ≤ 1506 by omega), (show ((((ks + 6) + 6) + 6) + 6) + 0 ≤ 9036 by omega)⟩ zI1 zT_nd zT_ix rfl dL_hangs_561) ⟨_, rfl⟩ (fun hb => ?_)
                            refine zg_iload_n X dL_hangs_564 rfl 3 rfl ?_
                            refine zg_if_ne (tgt := 572) X dL_hangs_565 (by decide) (fun c83 => ?_) (fun c83 => ?_)
                            · have hf := pl_f c83 hf
                              refine zg_iload_n X dL_hangs_572 rfl 3 rfl ?_
                              refine zg_iload X dL_hangs_573 11 rfl ?_
                              refine zg_isub X dL_hangs_575 ?_
                              refine zg_i2d X dL_hangs_576 ?_
                              refine zg_iload_n X dL_hangs_577 rfl 3 rfl ?_
                              refine zg_i2d X dL_hangs_578 ?_
                              obtain ⟨hb84, hf⟩ := pl_d hf
                              refine zg_ddiv X dL_hangs_579 hb84 ?_
                              obtain ⟨x85, ex85, hf⟩ := pl_l hf
                              refine zg_topd ex85 ?_
                              refine zg_loc [0, 1, 11] rfl ?_
                              exact hB580 hb ((((kc + 1) + 1) + 1) + 1) ((((ks + 6) + 6) + 6) + 6) y1 y12 r82 x85 (by omega) (by omega) hf
                            · have hf := pl_t c83 hf
                              refine zg_dconst1 X dL_hangs_568 ?_
                              refine zg_goto (tgt := 580) X dL_hangs_569 (by decide) ?_
                              refine zg_loc [0, 1, 11] rfl ?_
                              exact hB580 hb ((((kc + 1) + 1) + 1) + 1) ((((ks + 6) + 6) + 6) + 6) y1 y12 r82 FP.dconst1 (by omega) (by omega) hf
  have hL401 : ∀ (n : Nat) (hb : Nat → Nat) (kc ks : Nat) (y1 : Int32) (y2 : Int32) (y3 : Int32) (y4 : Int32) (y5 : Int32) (y6 : Int32) (y7 : Int32) (y8 : Int32) (y10 : Int32) (y11 : Int32) (y12 : Int32) (y13 : Int32) (y14 : Int32) (y15 : Int32), kc + (6 + 1 * n) ≤ 1506 → ks + 6 * (6 + 1 * n) ≤ 9036 → zf_L_hangs_L401 fu fn n y1 y2 y3 y4 y5 y6 y7 y8 y10 y11 y12 y13 y14 y15 v0 = some res → zgGd G Z ({ frames := 8, cells := 1506, slots := 9036, locals := 184 } : Room) kc ks 17 (zTc G a hb v0) 401 [(0, .ref (a 0)), (1, .int y1), (2, .int y2), (3, .int y3), (4, .int y4), (5, .int y5), (6, .int y6), (7, .int y7), (8, .int y8), (10, .int y10), (11, .int y11), (12, .int y12), (13, .int y13), (14, .int y14), (15, .int y15)] [] := by
    intro n
    induction n with
    | zero =>
      intro hb kc ks y1 y2 y3 y4 y5 y6 y7 y8 y10 y11 y12 y13 y14 y15 hkc hks hf
      rw [zf_L_hangs_L401] at hf
      cases hf
    | succ n401 ih401 =>
      have hB446 : ∀ (hb : Nat → Nat) (kc ks : Nat) (y1 : Int32) (y2 : Int32) (y3 : Int32) (y5 : Int32) (y6 : Int32) (y7 : Int32) (y8 : Int32) (y10 : Int32) (y11 : Int32) (y12 : Int32) (y13 : Int32) (y14 : Int32) (y15 : Int32) (z0 : Int32), kc + (6 + 1 * n401) ≤ 1506 → ks + 6 * (6 + 1 * n401) ≤ 9036 → zf_L_hangs_b446 fu fn (zf_L_hangs_L401 fu fn n401) y1 y2 y3 y5 y6 y7 y8 y10 y11 y12 y13 y14 y15 z0 v0 = some res → zgGd G Z ({ frames := 8, cells := 1506, slots := 9036, locals := 184 } : Room) kc ks 17 (zTc G a hb v0) 446 [(0, .ref (a 0)), (1, .int y1), (2, .int y2), (3, .int y3), (5, .int y5), (6, .int y6), (7, .int y7), (8, .int y8), (10, .int y10), (11, .int y11), (12, .int y12), (13, .int y13), (14, .int y14), (15, .int y15)] [.int z0] := by
        intro hb kc ks y1 y2 y3 y5 y6 y7 y8 y10 y11 y12 y13 y14 y15 z0 hkc hks hf
        unfold zf_L_hangs_b446 at hf
        refine zg_istore (L' := [(4, .int z0), (0, .ref (a 0)), (1, .int y1), (2, .int y2), (3, .int y3), (5, .int y5), (6, .int y6), (7, .int y7), (8, .int y8), (10, .int y10), (11, .int y11), (12, .int y12), (13, .int y13), (14, .int y14), (15, .int y15)]) X dL_hangs_446 (by decide) rfl ?_
        obtain ⟨x87, ex87, hf⟩ := pl_l hf
        refine zg_iinc (v := x87) (L' := [(15, .int x87), (4, .int z0), (0, .ref (a 0)), (1, .int y1), (2, .int y2), (3, .int y3), (5, .int y5), (6, .int y6), (7, .int y7), (8, .int y8), (10, .int y10), (11, .int y11), (12, .int y12), (13, .int y13), (14, .int y14)]) X dL_hangs_448 (j := 14) rfl (by rw [ex87]; rfl) (by decide) rfl ?_
        refine zg_goto (tgt := 401) X dL_hangs_451 (by decide) ?_
        refine zg_loc [2, 3, 4, 5, 1, 6, 7, 8, 9, 10, 11, 12, 13, 14, 0] rfl ?_
        exact ih401 hb kc ks y1 y2 y3 z0 y5 y6 y7 y8 y10 y11 y12 y13 y14 x87 (by omega) (by omega) hf
      have hB441 : ∀ (hb : Nat → Nat) (kc ks : Nat) (y1 : Int32) (y2 : Int32) (y3 : Int32) (y5 : Int32) (y6 : Int32) (y7 : Int32) (y8 : Int32) (y10 : Int32) (y11 : Int32) (y12 : Int32) (y13 : Int32) (y14 : Int32) (y15 : Int32), kc + (6 + 1 * n401) ≤ 1506 → ks + 6 * (6 + 1 * n401) ≤ 9036 → zf_L_hangs_b441 fu fn (zf_L_hangs_L401 fu fn n401) y1 y2 y3 y5 y6 y7 y8 y10 y11 y12 y13 y14 y15 v0 = some res → zgGd G Z ({ frames := 8, cells := 1506, slots := 9036, locals := 184 } : Room) kc ks 17 (zTc G a hb v0) 441 [(0, .ref (a 0)), (1, .int y1), (2, .int y2), (3, .int y3), (5, .int y5), (6, .int y6), (7, .int y7), (8, .int y8), (10, .int y10), (11, .int y11), (12, .int y12), (13, .int y13), (14, .int y14), (15, .int y15)] [] := by
        intro hb kc ks y1 y2 y3 y5 y6 y7 y8 y10 y11 y12 y13 y14 y15 hkc hks hf
        unfold zf_L_hangs_b441 at hf
        refine zg_iconst (v := 1) X dL_hangs_441 (by decide) ?_
        refine zg_goto (tgt := 446) X dL_hangs_442 (by decide) ?_
        exact hB446 hb kc ks y1 y2 y3 y5 y6 y7 y8 y10 y11 y12 y13 y14 y15 1 (by omega) (by omega) hf
      have hB445 : ∀ (hb : Nat → Nat) (kc ks : Nat) (y1 : Int32) (y2 : Int32) (y3 : Int32) (y5 : Int32) (y6 : Int32) (y7 : Int32) (y8 : Int32) (y10 : Int32) (y11 : Int32) (y12 : Int32) (y13 : Int32) (y14 : Int32) (y15 : Int32), kc + (6 + 1 * n401) ≤ 1506 → ks + 6 * (6 + 1 * n401) ≤ 9036 → zf_L_hangs_b445 fu fn (zf_L_hangs_L401 fu fn n401) y1 y2 y3 y5 y6 y7 y8 y10 y11 y12 y13 y14 y15 v0 = some res → zgGd G Z ({ frames := 8, cells := 1506, slots := 9036, locals := 184 } : Room) kc ks 17 (zTc G a hb v0) 445 [(0, .ref (a 0)), (1, .int y1), (2, .int y2), (3, .int y3), (5, .int y5), (6, .int y6), (7, .int y7), (8, .int y8), (10, .int y10), (11, .int y11), (12, .int y12), (13, .int y13), (14, .int y14), (15, .int y15)] [] := by
        intro hb kc ks y1 y2 y3 y5 y6 y7 y8 y10 y11 y12 y13 y14 y15 hkc hks hf
        unfold zf_L_hangs_b445 at hf
        refine zg_iconst (v := 0) X dL_hangs_445 (by decide) ?_
        exact hB446 hb kc ks y1 y2 y3 y5 y6 y7 y8 y10 y11 y12 y13 y14 y15 0 (by omega) (by omega) hf
      intro hb kc ks y1 y2 y3 y4 y5 y6 y7 y8 y10 y11 y12 y13 y14 y15 hkc hks hf
      rw [zf_L_hangs_L401] at hf
      refine zg_iload X dL_hangs_401 14 rfl ?_
      refine zg_iload_n X dL_hangs_403 rfl 2 rfl ?_
      refine zg_icmp_ge (tgt := 454) X dL_hangs_404 (by decide) (fun c54 => ?_) (fun c54 => ?_)
      · have hf := pl_t c54 hf
        refine zg_loc [0, 1, 2, 3, 4, 5, 6, 7, 8, 9, 10, 11, 12, 13] rfl ?_
        exact hB454 hb kc ks y1 y2 y3 y4 y5 y6 y7 y8 y10 y11 y12 y13 y14 (by omega) (by omega) hf
      · have hf := pl_f c54 hf
        refine zg_iload X dL_hangs_407 4 rfl ?_
        refine zg_if_eq (tgt := 454) X dL_hangs_409 (by decide) (fun c55 => ?_) (fun c55 => ?_)
        · have hf := pl_t c55 hf
          refine zg_loc [0, 1, 2, 3, 4, 5, 6, 7, 8, 9, 10, 11, 12, 13] rfl ?_
          exact hB454 hb kc ks y1 y2 y3 y4 y5 y6 y7 y8 y10 y11 y12 y13 y14 (by omega) (by omega) hf
        · have hf := pl_f c55 hf
          refine zg_aload_n X dL_hangs_412 rfl 0 rfl ?_
          refine zg_iload X dL_hangs_413 14 rfl ?_
          obtain ⟨r56, hr56, hf⟩ := pl_b hf
          refine zg_t1 (v' := v0) X (zg_runSW X (zc_L_printed G hst a hb v0 y15 fu r56 hr56) gL_hangs_L_printed rfl zh_L_printed ⟨rfl, rfl⟩ ⟨Nat.le_of_ble_eq_true rfl, Nat.le_of_ble_eq_true rfl⟩ rfl (Nat.le_of_ble_eq_true rfl) ⟨(show kc + 1 ≤ 1506 by omega), (show ks + 6 ≤ 9036 by omega)⟩ zI1 zT_nd zT_ix rfl dL_hangs_415) (fun u => ⟨u, rfl⟩) (fun _ => rfl) (fun hb => ?_)
          refine zg_istore (L' := [(16, .int r56), (0, .ref (a 0)), (1, .int y1), (2, .int y2), (3, .int y3), (4, .int y4), (5, .int y5), (6, .int y6), (7, .int y7), (8, .int y8), (10, .int y10), (11, .int y11), (12, .int y12), (13, .int y13), (14, .int y14), (15, .int y15)]) X dL_hangs_418 (by decide) rfl ?_
          refine zg_iload X dL_hangs_420 0 rfl ?_
          refine zg_bipush (v := 10) X dL_hangs_422 (by decide) ?_
          refine zg_icmp_eq (tgt := 441) X dL_hangs_424 (by decide) (fun c57 => ?_) (fun c57 => ?_)
          · have hf := pl_t c57 hf
            refine zg_loc [1, 2, 3, 4, 6, 7, 8, 9, 10, 11, 12, 13, 14, 15] rfl ?_
            exact hB441 hb (kc + 1) (ks + 6) y1 y2 y3 y5 y6 y7 y8 y10 y11 y12 y13 y14 y15 (by omega) (by omega) hf
          · have hf := pl_f c57 hf
            refine zg_iload X dL_hangs_427 0 rfl ?_
            refine zg_bipush (v := 32) X dL_hangs_429 (by decide) ?_
            refine zg_icmp_lt (tgt := 445) X dL_hangs_431 (by decide) (fun c58 => ?_) (fun c58 => ?_)
            · have hf := pl_t c58 hf
              refine zg_loc [1, 2, 3, 4, 6, 7, 8, 9, 10, 11, 12, 13, 14, 15] rfl ?_
              exact hB445 hb (kc + 1) (ks + 6) y1 y2 y3 y5 y6 y7 y8 y10 y11 y12 y13 y14 y15 (by omega) (by omega) hf
            · have hf := pl_f c58 hf
              refine zg_iload X dL_hangs_434 0 rfl ?_
              refine zg_bipush (v := 123) X dL_hangs_436 (by decide) ?_
              refine zg_icmp_ge (tgt := 445) X dL_hangs_438 (by decide) (fun c59 => ?_) (fun c59 => ?_)
              · have hf := pl_t c59 hf
                refine zg_loc [1, 2, 3, 4, 6, 7, 8, 9, 10, 11, 12, 13, 14, 15] rfl ?_
                exact hB445 hb (kc + 1) (ks + 6) y1 y2 y3 y5 y6 y7 y8 y10 y11 y12 y13 y14 y15 (by omega) (by omega) hf
              · have hf := pl_f c59 hf
                refine zg_loc [1, 2, 3, 4, 6, 7, 8, 9, 10, 11, 12, 13, 14, 15] rfl ?_
                exact hB441 hb (kc + 1) (ks + 6) y1 y2 y3 y5 y6 y7 y8 y10 y11 y12 y13 y14 y15 (by omega) (by omega) hf
  have hB398 : ∀ (hb : Nat → Nat) (kc ks : Nat) (y1 : Int32) (y2 : Int32) (y3 : Int32) (y4 : Int32) (y5 : Int32) (y6 : Int32) (y7 : Int32) (y8 : Int32) (y10 : Int32) (y11 : Int32) (y12 : Int32) (y13 : Int32) (y14 : Int32), kc + (256) ≤ 1506 → ks + 6 * (256) ≤ 9036 → zf_L_hangs_b398 fu fn y1 y2 y3 y4 y5 y6 y7 y8 y10 y11 y12 y13 y14 v0 = some res → zgGd G Z ({ frames := 8, cells := 1506, slots := 9036, locals := 184 } : Room) kc ks 17 (zTc G a hb v0) 398 [(0, .ref (a 0)), (1, .int y1), (2, .int y2), (3, .int y3), (4, .int y4), (5, .int y5), (6, .int y6), (7, .int y7), (8, .int y8), (10, .int y10), (11, .int y11), (12, .int y12), (13, .int y13), (14, .int y14)] [] := by
    intro hb kc ks y1 y2 y3 y4 y5 y6 y7 y8 y10 y11 y12 y13 y14 hkc hks hf
    unfold zf_L_hangs_b398 at hf
    refine zg_iconst (v := 0) X dL_hangs_398 (by decide) ?_
    refine zg_istore (L' := [(15, .int 0), (0, .ref (a 0)), (1, .int y1), (2, .int y2), (3, .int y3), (4, .int y4), (5, .int y5), (6, .int y6), (7, .int y7), (8, .int y8), (10, .int y10), (11, .int y11), (12, .int y12), (13, .int y13), (14, .int y14)]) X dL_hangs_399 (by decide) rfl ?_
    refine zg_loc [1, 2, 3, 4, 5, 6, 7, 8, 9, 10, 11, 12, 13, 14, 0] rfl ?_
    exact hL401 fn hb kc ks y1 y2 y3 y4 y5 y6 y7 y8 y10 y11 y12 y13 y14 0 (by omega) (by omega) hf
  have hL367 : ∀ (n : Nat) (hb : Nat → Nat) (kc ks : Nat) (y1 : Int32) (y2 : Int32) (y3 : Int32) (y4 : Int32) (y5 : Int32) (y6 : Int32) (y7 : Int32) (y8 : Int32) (y10 : Int32) (y11 : Int32) (y12 : Int32) (y13 : Int32) (y14 : Int32) (y15 : Int32), kc + (256 + 1 * n) ≤ 1506 → ks + 6 * (256 + 1 * n) ≤ 9036 → zf_L_hangs_L367 fu fn n y1 y2 y3 y4 y5 y6 y7 y8 y10 y11 y12 y13 y14 y15 v0 = some res → zgGd G Z ({ frames := 8, cells := 1506, slots := 9036, locals := 184 } : Room) kc ks 17 (zTc G a hb v0) 367 [(0, .ref (a 0)), (1, .int y1), (2, .int y2), (3, .int y3), (4, .int y4), (5, .int y5), (6, .int y6), (7, .int y7), (8, .int y8), (10, .int y10), (11, .int y11), (12, .int y12), (13, .int y13), (14, .int y14), (15, .int y15)] [] := by
    intro n
    induction n with
    | zero =>
      intro hb kc ks y1 y2 y3 y4 y5 y6 y7 y8 y10 y11 y12 y13 y14 y15 hkc hks hf
      rw [zf_L_hangs_L367] at hf
      cases hf
    | succ n367 ih367 =>
      intro hb kc ks y1 y2 y3 y4 y5 y6 y7 y8 y10 y11 y12 y13 y14 y15 hkc hks hf
      rw [zf_L_hangs_L367] at hf
      refine zg_iload X dL_hangs_367 14 rfl ?_
      refine zg_aload_n X dL_hangs_369 rfl 0 rfl ?_
      obtain ⟨r41, hr41, hf⟩ := pl_b hf
      refine zg_t10 (v' := v0) X (zg_runV X (zt_X7_words G a hb v0 fu r41 hr41) gL_hangs_X7_words rfl zh_X7_words ⟨rfl, rfl⟩ ⟨Nat.le_of_ble_eq_true rfl, Nat.le_of_ble_eq_true rfl⟩ rfl rfl rfl (Nat.le_of_ble_eq_true rfl) ⟨(show kc + 0 ≤ 1506 by omega), (show ks + 0 ≤ 9036 by omega)⟩ zI1 zT_nd zT_ix rfl dL_hangs_370) ⟨_, rfl⟩ (fun hb => ?_)
      refine zg_icmp_ge (tgt := 398) X dL_hangs_373 (by decide) (fun c42 => ?_) (fun c42 => ?_)
      · have hf := pl_t c42 hf
        refine zg_loc [0, 1, 2, 3, 4, 5, 6, 7, 8, 9, 10, 11, 12, 13] rfl ?_
        exact hB398 hb kc ks y1 y2 y3 y4 y5 y6 y7 y8 y10 y11 y12 y13 y14 (by omega) (by omega) hf
      · have hf := pl_f c42 hf
        refine zg_iload X dL_hangs_376 4 rfl ?_
        refine zg_if_eq (tgt := 398) X dL_hangs_378 (by decide) (fun c43 => ?_) (fun c43 => ?_)
        · have hf := pl_t c43 hf
          refine zg_loc [0, 1, 2, 3, 4, 5, 6, 7, 8, 9, 10, 11, 12, 13] rfl ?_
          exact hB398 hb kc ks y1 y2 y3 y4 y5 y6 y7 y8 y10 y11 y12 y13 y14 (by omega) (by omega) hf
        · have hf := pl_f c43 hf
          refine zg_iload X dL_hangs_381 13 rfl ?_
          refine zg_aload_n X dL_hangs_383 rfl 0 rfl ?_
          refine zg_iload X dL_hangs_384 14 rfl ?_
          obtain ⟨r44, hr44, hf⟩ := pl_b hf
          refine zg_t1 (v' := v0) X (zg_runSW X (zc_L_uses G hst a hb v0 y15 fu r44 hr44) gL_hangs_L_uses rfl zh_L_uses ⟨rfl, rfl⟩ ⟨Nat.le_of_ble_eq_true rfl, Nat.le_of_ble_eq_true rfl⟩ rfl (Nat.le_of_ble_eq_true rfl) ⟨(show kc + 1 ≤ 1506 by omega), (show ks + 6 ≤ 9036 by omega)⟩ zI1 zT_nd zT_ix rfl dL_hangs_386) (fun u => ⟨u, rfl⟩) (fun _ => rfl) (fun hb => ?_)
          refine zg_iadd X dL_hangs_389 ?_
          obtain ⟨x45, ex45, hf⟩ := pl_l hf
          refine zg_topi ex45 ?_
          refine zg_istore (L' := [(14, .int x45), (0, .ref (a 0)), (1, .int y1), (2, .int y2), (3, .int y3), (4, .int y4), (5, .int y5), (6, .int y6), (7, .int y7), (8, .int y8), (10, .int y10), (11, .int y11), (12, .int y12), (13, .int y13), (15, .int y15)]) X dL_hangs_390 (by decide) rfl ?_
          obtain ⟨x46, ex46, hf⟩ := pl_l hf
          refine zg_iinc (v := x46) (L' := [(15, .int x46), (14, .int x45), (0, .ref (a 0)), (1, .int y1), (2, .int y2), (3, .int y3), (4, .int y4), (5, .int y5), (6, .int y6), (7, .int y7), (8, .int y8), (10, .int y10), (11, .int y11), (12, .int y12), (13, .int y13)]) X dL_hangs_392 (j := 14) rfl (by rw [ex46]; rfl) (by decide) rfl ?_
          refine zg_goto (tgt := 367) X dL_hangs_395 (by decide) ?_
          refine zg_loc [2, 3, 4, 5, 6, 7, 8, 9, 10, 11, 12, 13, 14, 1, 0] rfl ?_
          exact ih367 hb (kc + 1) (ks + 6) y1 y2 y3 y4 y5 y6 y7 y8 y10 y11 y12 y13 x45 x46 (by omega) (by omega) hf
  have hB361 : ∀ (hb : Nat → Nat) (kc ks : Nat) (y1 : Int32) (y2 : Int32) (y3 : Int32) (y4 : Int32) (y5 : Int32) (y6 : Int32) (y7 : Int32) (y8 : Int32) (y10 : Int32) (y11 : Int32) (y12 : Int32) (y13 : Int32), kc + (506) ≤ 1506 → ks + 6 * (506) ≤ 9036 → zf_L_hangs_b361 fu fn y1 y2 y3 y4 y5 y6 y7 y8 y10 y11 y12 y13 v0 = some res → zgGd G Z ({ frames := 8, cells := 1506, slots := 9036, locals := 184 } : Room) kc ks 17 (zTc G a hb v0) 361 [(0, .ref (a 0)), (1, .int y1), (2, .int y2), (3, .int y3), (4, .int y4), (5, .int y5), (6, .int y6), (7, .int y7), (8, .int y8), (10, .int y10), (11, .int y11), (12, .int y12), (13, .int y13)] [] := by
    intro hb kc ks y1 y2 y3 y4 y5 y6 y7 y8 y10 y11 y12 y13 hkc hks hf
    unfold zf_L_hangs_b361 at hf
    refine zg_iconst (v := 0) X dL_hangs_361 (by decide) ?_
    refine zg_istore (L' := [(14, .int 0), (0, .ref (a 0)), (1, .int y1), (2, .int y2), (3, .int y3), (4, .int y4), (5, .int y5), (6, .int y6), (7, .int y7), (8, .int y8), (10, .int y10), (11, .int y11), (12, .int y12), (13, .int y13)]) X dL_hangs_362 (by decide) rfl ?_
    refine zg_iconst (v := 0) X dL_hangs_364 (by decide) ?_
    refine zg_istore (L' := [(15, .int 0), (14, .int 0), (0, .ref (a 0)), (1, .int y1), (2, .int y2), (3, .int y3), (4, .int y4), (5, .int y5), (6, .int y6), (7, .int y7), (8, .int y8), (10, .int y10), (11, .int y11), (12, .int y12), (13, .int y13)]) X dL_hangs_365 (by decide) rfl ?_
    refine zg_loc [2, 3, 4, 5, 6, 7, 8, 9, 10, 11, 12, 13, 14, 1, 0] rfl ?_
    exact hL367 fn hb kc ks y1 y2 y3 y4 y5 y6 y7 y8 y10 y11 y12 y13 0 0 (by omega) (by omega) hf
  have hL254 : ∀ (n : Nat) (hb : Nat → Nat) (kc ks : Nat) (y1 : Int32) (y2 : Int32) (y3 : Int32) (y4 : Int32) (y5 : Int32) (y6 : Int32) (y7 : Int32) (y8 : Int32) (y10 : Int32) (y11 : Int32) (y12 : Int32) (y13 : Int32) (y14 : Int32), kc + (506 + 3 * n) ≤ 1506 → ks + 6 * (506 + 3 * n) ≤ 9036 → zf_L_hangs_L254 fu fn n y1 y2 y3 y4 y5 y6 y7 y8 y10 y11 y12 y13 y14 v0 = some res → zgGd G Z ({ frames := 8, cells := 1506, slots := 9036, locals := 184 } : Room) kc ks 17 (zTc G a hb v0) 254 [(0, .ref (a 0)), (1, .int y1), (2, .int y2), (3, .int y3), (4, .int y4), (5, .int y5), (6, .int y6), (7, .int y7), (8, .int y8), (10, .int y10), (11, .int y11), (12, .int y12), (13, .int y13), (14, .int y14)] [] := by
    intro n
    induction n with
    | zero =>
      intro hb kc ks y1 y2 y3 y4 y5 y6 y7 y8 y10 y11 y12 y13 y14 hkc hks hf
      rw [zf_L_hangs_L254] at hf
      cases hf
    | succ n254 ih254 =>
      have hB352 : ∀ (hb : Nat → Nat) (kc ks : Nat) (y1 : Int32) (y2 : Int32) (y3 : Int32) (y4 : Int32) (y5 : Int32) (y6 : Int32) (y7 : Int32) (y8 : Int32) (y10 : Int32) (y11 : Int32) (y12 : Int32) (y14 : Int32) (z0 : Int32) (z1 : Int32), kc + (506 + 3 * n254) ≤ 1506 → ks + 6 * (506 + 3 * n254) ≤ 9036 → zf_L_hangs_b352 fu fn (zf_L_hangs_L254 fu fn n254) y1 y2 y3 y4 y5 y6 y7 y8 y10 y11 y12 y14 z0 z1 v0 = some res → zgGd G Z ({ frames := 8, cells := 1506, slots := 9036, locals := 184 } : Room) kc ks 17 (zTc G a hb v0) 352 [(0, .ref (a 0)), (1, .int y1), (2, .int y2), (3, .int y3), (4, .int y4), (5, .int y5), (6, .int y6), (7, .int y7), (8, .int y8), (10, .int y10), (11, .int y11), (12, .int y12), (14, .int y14)] [.int z1, .int z0] := by
        intro hb kc ks y1 y2 y3 y4 y5 y6 y7 y8 y10 y11 y12 y14 z0 z1 hkc hks hf
        unfold zf_L_hangs_b352 at hf
        refine zg_iadd X dL_hangs_352 ?_
        obtain ⟨x47, ex47, hf⟩ := pl_l hf
        refine zg_topi ex47 ?_
        refine zg_istore (L' := [(13, .int x47), (0, .ref (a 0)), (1, .int y1), (2, .int y2), (3, .int y3), (4, .int y4), (5, .int y5), (6, .int y6), (7, .int y7), (8, .int y8), (10, .int y10), (11, .int y11), (12, .int y12), (14, .int y14)]) X dL_hangs_353 (by decide) rfl ?_
        obtain ⟨x48, ex48, hf⟩ := pl_l hf
        refine zg_iinc (v := x48) (L' := [(14, .int x48), (13, .int x47), (0, .ref (a 0)), (1, .int y1), (2, .int y2), (3, .int y3), (4, .int y4), (5, .int y5), (6, .int y6), (7, .int y7), (8, .int y8), (10, .int y10), (11, .int y11), (12, .int y12)]) X dL_hangs_355 (j := 13) rfl (by rw [ex48]; rfl) (by decide) rfl ?_
        refine zg_goto (tgt := 254) X dL_hangs_358 (by decide) ?_
        refine zg_loc [2, 3, 4, 5, 6, 7, 8, 9, 10, 11, 12, 13, 1, 0] rfl ?_
        exact ih254 hb kc ks y1 y2 y3 y4 y5 y6 y7 y8 y10 y11 y12 x47 x48 (by omega) (by omega) hf
      have hB347 : ∀ (hb : Nat → Nat) (kc ks : Nat) (y1 : Int32) (y2 : Int32) (y3 : Int32) (y4 : Int32) (y5 : Int32) (y6 : Int32) (y7 : Int32) (y8 : Int32) (y10 : Int32) (y11 : Int32) (y12 : Int32) (y14 : Int32) (z0 : Int32), kc + (506 + 3 * n254) ≤ 1506 → ks + 6 * (506 + 3 * n254) ≤ 9036 → zf_L_hangs_b347 fu fn (zf_L_hangs_L254 fu fn n254) y1 y2 y3 y4 y5 y6 y7 y8 y10 y11 y12 y14 z0 v0 = some res → zgGd G Z ({ frames := 8, cells := 1506, slots := 9036, locals := 184 } : Room) kc ks 17 (zTc G a hb v0) 347 [(0, .ref (a 0)), (1, .int y1), (2, .int y2), (3, .int y3), (4, .int y4), (5, .int y5), (6, .int y6), (7, .int y7), (8, .int y8), (10, .int y10), (11, .int y11), (12, .int y12), (14, .int y14)] [.int z0] := by
        intro hb kc ks y1 y2 y3 y4 y5 y6 y7 y8 y10 y11 y12 y14 z0 hkc hks hf
        unfold zf_L_hangs_b347 at hf
        refine zg_iconst (v := 1) X dL_hangs_347 (by decide) ?_
        refine zg_goto (tgt := 352) X dL_hangs_348 (by decide) ?_
        exact hB352 hb kc ks y1 y2 y3 y4 y5 y6 y7 y8 y10 y11 y12 y14 z0 1 (by omega) (by omega) hf
      have hB299 : ∀ (hb : Nat → Nat) (kc ks : Nat) (y1 : Int32) (y2 : Int32) (y3 : Int32) (y5 : Int32) (y6 : Int32) (y7 : Int32) (y8 : Int32) (y10 : Int32) (y11 : Int32) (y12 : Int32) (y13 : Int32) (y14 : Int32) (y15 : Int32) (z0 : Int32), kc + (507 + 3 * n254) ≤ 1506 → ks + 6 * (507 + 3 * n254) ≤ 9036 → zf_L_hangs_b299 fu fn (zf_L_hangs_L254 fu fn n254) y1 y2 y3 y5 y6 y7 y8 y10 y11 y12 y13 y14 y15 z0 v0 = some res → zgGd G Z ({ frames := 8, cells := 1506, slots := 9036, locals := 184 } : Room) kc ks 17 (zTc G a hb v0) 299 [(0, .ref (a 0)), (1, .int y1), (2, .int y2), (3, .int y3), (5, .int y5), (6, .int y6), (7, .int y7), (8, .int y8), (10, .int y10), (11, .int y11), (12, .int y12), (13, .int y13), (14, .int y14), (15, .int y15)] [.int z0] := by
        intro hb kc ks y1 y2 y3 y5 y6 y7 y8 y10 y11 y12 y13 y14 y15 z0 hkc hks hf
        unfold zf_L_hangs_b299 at hf
        refine zg_istore (L' := [(4, .int z0), (0, .ref (a 0)), (1, .int y1), (2, .int y2), (3, .int y3), (5, .int y5), (6, .int y6), (7, .int y7), (8, .int y8), (10, .int y10), (11, .int y11), (12, .int y12), (13, .int y13), (14, .int y14), (15, .int y15)]) X dL_hangs_299 (by decide) rfl ?_
        refine zg_iload X dL_hangs_301 9 rfl ?_
        refine zg_aload_n X dL_hangs_303 rfl 1 rfl ?_
        refine zg_iload X dL_hangs_304 13 rfl ?_
        obtain ⟨r32, hr32, hf⟩ := pl_b hf
        refine zg_t1 (v' := v0) X (zg_runSW X (zc_L_segmentLength G hst a hb v0 y14 fu r32 hr32) gL_hangs_L_segmentLength rfl zh_L_segmentLength ⟨rfl, rfl⟩ ⟨Nat.le_of_ble_eq_true rfl, Nat.le_of_ble_eq_true rfl⟩ rfl (Nat.le_of_ble_eq_true rfl) ⟨(show kc + 1 ≤ 1506 by omega), (show ks + 6 ≤ 9036 by omega)⟩ zI1 zT_nd zT_ix rfl dL_hangs_306) (fun u => ⟨u, rfl⟩) (fun _ => rfl) (fun hb => ?_)
        refine zg_iadd X dL_hangs_309 ?_
        obtain ⟨x33, ex33, hf⟩ := pl_l hf
        refine zg_topi ex33 ?_
        refine zg_istore (L' := [(10, .int x33), (4, .int z0), (0, .ref (a 0)), (1, .int y1), (2, .int y2), (3, .int y3), (5, .int y5), (6, .int y6), (7, .int y7), (8, .int y8), (11, .int y11), (12, .int y12), (13, .int y13), (14, .int y14), (15, .int y15)]) X dL_hangs_310 (by decide) rfl ?_
        refine zg_iload X dL_hangs_312 10 rfl ?_
        refine zg_iload X dL_hangs_314 14 rfl ?_
        refine zg_iconst (v := 1) X dL_hangs_316 (by decide) ?_
        refine zg_ishr X dL_hangs_317 ?_
        refine zg_iconst (v := 1) X dL_hangs_318 (by decide) ?_
        refine zg_iand X dL_hangs_319 ?_
        refine zg_iadd X dL_hangs_320 ?_
        obtain ⟨x34, ex34, hf⟩ := pl_l hf
        refine zg_topi ex34 ?_
        refine zg_istore (L' := [(11, .int x34), (10, .int x33), (4, .int z0), (0, .ref (a 0)), (1, .int y1), (2, .int y2), (3, .int y3), (5, .int y5), (6, .int y6), (7, .int y7), (8, .int y8), (12, .int y12), (13, .int y13), (14, .int y14), (15, .int y15)]) X dL_hangs_321 (by decide) rfl ?_
        refine zg_iload X dL_hangs_323 11 rfl ?_
        refine zg_iload X dL_hangs_325 14 rfl ?_
        refine zg_iconst (v := 2) X dL_hangs_327 (by decide) ?_
        refine zg_ishr X dL_hangs_328 ?_
        refine zg_iconst (v := 1) X dL_hangs_329 (by decide) ?_
        refine zg_iand X dL_hangs_330 ?_
        refine zg_iadd X dL_hangs_331 ?_
        obtain ⟨x35, ex35, hf⟩ := pl_l hf
        refine zg_topi ex35 ?_
        refine zg_istore (L' := [(12, .int x35), (11, .int x34), (10, .int x33), (4, .int z0), (0, .ref (a 0)), (1, .int y1), (2, .int y2), (3, .int y3), (5, .int y5), (6, .int y6), (7, .int y7), (8, .int y8), (13, .int y13), (14, .int y14), (15, .int y15)]) X dL_hangs_332 (by decide) rfl ?_
        refine zg_pc 334 rfl ?_
        refine zg_iload X dL_hangs_334 12 rfl ?_
        refine zg_iload X dL_hangs_336 14 rfl ?_
        refine zg_if_eq (tgt := 347) X dL_hangs_338 (by decide) (fun c36 => ?_) (fun c36 => ?_)
        · have hf := pl_t c36 hf
          refine zg_loc [4, 5, 6, 7, 3, 8, 9, 10, 11, 2, 1, 0, 13] rfl ?_
          exact hB347 hb (kc + 1) (ks + 6) y1 y2 y3 z0 y5 y6 y7 y8 x33 x34 x35 y14 y13 (by omega) (by omega) hf
        · have hf := pl_f c36 hf
          refine zg_iload X dL_hangs_341 14 rfl ?_
          refine zg_iconst (v := 2) X dL_hangs_343 (by decide) ?_
          refine zg_icmp_ne (tgt := 351) X dL_hangs_344 (by decide) (fun c37 => ?_) (fun c37 => ?_)
          · have hf := pl_f c37 hf
            refine zg_iconst (v := 0) X dL_hangs_351 (by decide) ?_
            refine zg_loc [4, 5, 6, 7, 3, 8, 9, 10, 11, 2, 1, 0, 13] rfl ?_
            exact hB352 hb (kc + 1) (ks + 6) y1 y2 y3 z0 y5 y6 y7 y8 x33 x34 x35 y14 y13 0 (by omega) (by omega) hf
          · have hf := pl_t c37 hf
            refine zg_loc [4, 5, 6, 7, 3, 8, 9, 10, 11, 2, 1, 0, 13] rfl ?_
            exact hB347 hb (kc + 1) (ks + 6) y1 y2 y3 z0 y5 y6 y7 y8 x33 x34 x35 y14 y13 (by omega) (by omega) hf
      have hB298 : ∀ (hb : Nat → Nat) (kc ks : Nat) (y1 : Int32) (y2 : Int32) (y3 : Int32) (y5 : Int32) (y6 : Int32) (y7 : Int32) (y8 : Int32) (y10 : Int32) (y11 : Int32) (y12 : Int32) (y13 : Int32) (y14 : Int32) (y15 : Int32), kc + (507 + 3 * n254) ≤ 1506 → ks + 6 * (507 + 3 * n254) ≤ 9036 → zf_L_hangs_b298 fu fn (zf_L_hangs_L254 fu fn n254) y1 y2 y3 y5 y6 y7 y8 y10 y11 y12 y13 y14 y15 v0 = some res → zgGd G Z ({ frames := 8, cells := 1506, slots := 9036, locals := 184 } : Room) kc ks 17 (zTc G a hb v0) 298 [(0, .ref (a 0)), (1, .int y1), (2, .int y2), (3, .int y3), (5, .int y5), (6, .int y6), (7, .int y7), (8, .int y8), (10, .int y10), (11, .int y11), (12, .int y12), (13, .int y13), (14, .int y14), (15, .int y15)] [] := by
        intro hb kc ks y1 y2 y3 y5 y6 y7 y8 y10 y11 y12 y13 y14 y15 hkc hks hf
        unfold zf_L_hangs_b298 at hf
        refine zg_iconst (v := 0) X dL_hangs_298 (by decide) ?_
        exact hB299 hb kc ks y1 y2 y3 y5 y6 y7 y8 y10 y11 y12 y13 y14 y15 0 (by omega) (by omega) hf
      intro hb kc ks y1 y2 y3 y4 y5 y6 y7 y8 y10 y11 y12 y13 y14 hkc hks hf
      rw [zf_L_hangs_L254] at hf
      refine zg_iload X dL_hangs_254 13 rfl ?_
      refine zg_iload_n X dL_hangs_256 rfl 3 rfl ?_
      refine zg_icmp_ge (tgt := 361) X dL_hangs_257 (by decide) (fun c24 => ?_) (fun c24 => ?_)
      · have hf := pl_t c24 hf
        refine zg_loc [0, 1, 2, 3, 4, 5, 6, 7, 8, 9, 10, 11, 12] rfl ?_
        exact hB361 hb kc ks y1 y2 y3 y4 y5 y6 y7 y8 y10 y11 y12 y13 (by omega) (by omega) hf
      · have hf := pl_f c24 hf
        refine zg_iload X dL_hangs_260 4 rfl ?_
        refine zg_if_eq (tgt := 361) X dL_hangs_262 (by decide) (fun c25 => ?_) (fun c25 => ?_)
        · have hf := pl_t c25 hf
          refine zg_loc [0, 1, 2, 3, 4, 5, 6, 7, 8, 9, 10, 11, 12] rfl ?_
          exact hB361 hb kc ks y1 y2 y3 y4 y5 y6 y7 y8 y10 y11 y12 y13 (by omega) (by omega) hf
        · have hf := pl_f c25 hf
          refine zg_aload_n X dL_hangs_265 rfl 0 rfl ?_
          refine zg_iload X dL_hangs_266 13 rfl ?_
          obtain ⟨r26, hr26, hf⟩ := pl_b hf
          refine zg_t1 (v' := v0) X (zg_runSW X (zc_L_segmentKind G hst a hb v0 y14 fu r26 hr26) gL_hangs_L_segmentKind rfl zh_L_segmentKind ⟨rfl, rfl⟩ ⟨Nat.le_of_ble_eq_true rfl, Nat.le_of_ble_eq_true rfl⟩ rfl (Nat.le_of_ble_eq_true rfl) ⟨(show kc + 1 ≤ 1506 by omega), (show ks + 6 ≤ 9036 by omega)⟩ zI1 zT_nd zT_ix rfl dL_hangs_268) (fun u => ⟨u, rfl⟩) (fun _ => rfl) (fun hb => ?_)
          refine zg_istore (L' := [(15, .int r26), (0, .ref (a 0)), (1, .int y1), (2, .int y2), (3, .int y3), (4, .int y4), (5, .int y5), (6, .int y6), (7, .int y7), (8, .int y8), (10, .int y10), (11, .int y11), (12, .int y12), (13, .int y13), (14, .int y14)]) X dL_hangs_271 (by decide) rfl ?_
          refine zg_iload X dL_hangs_273 0 rfl ?_
          refine zg_if_lt (tgt := 298) X dL_hangs_275 (by decide) (fun c27 => ?_) (fun c27 => ?_)
          · have hf := pl_t c27 hf
            refine zg_loc [1, 2, 3, 4, 6, 7, 8, 9, 10, 11, 12, 13, 14, 0] rfl ?_
            exact hB298 hb (kc + 1) (ks + 6) y1 y2 y3 y5 y6 y7 y8 y10 y11 y12 y13 y14 r26 (by omega) (by omega) hf
          · have hf := pl_f c27 hf
            refine zg_iload X dL_hangs_278 0 rfl ?_
            refine zg_bipush (v := 6) X dL_hangs_280 (by decide) ?_
            refine zg_icmp_ge (tgt := 298) X dL_hangs_282 (by decide) (fun c28 => ?_) (fun c28 => ?_)
            · have hf := pl_t c28 hf
              refine zg_loc [1, 2, 3, 4, 6, 7, 8, 9, 10, 11, 12, 13, 14, 0] rfl ?_
              exact hB298 hb (kc + 1) (ks + 6) y1 y2 y3 y5 y6 y7 y8 y10 y11 y12 y13 y14 r26 (by omega) (by omega) hf
            · have hf := pl_f c28 hf
              refine zg_aload_n X dL_hangs_285 rfl 1 rfl ?_
              refine zg_iload X dL_hangs_286 14 rfl ?_
              obtain ⟨r29, hr29, hf⟩ := pl_b hf
              refine zg_t1 (v' := v0) X (zg_runSW X (zc_L_segmentLength G hst a hb v0 y14 fu r29 hr29) gL_hangs_L_segmentLength rfl zh_L_segmentLength ⟨rfl, rfl⟩ ⟨Nat.le_of_ble_eq_true rfl, Nat.le_of_ble_eq_true rfl⟩ rfl (Nat.le_of_ble_eq_true rfl) ⟨(show (kc + 1) + 1 ≤ 1506 by omega), (show (ks + 6) + 6 ≤ 9036 by omega)⟩ zI1 zT_nd zT_ix rfl dL_hangs_288) (fun u => ⟨u, rfl⟩) (fun _ => rfl) (fun hb => ?_)
              refine zg_if_le (tgt := 298) X dL_hangs_291 (by decide) (fun c30 => ?_) (fun c30 => ?_)
              · have hf := pl_t c30 hf
                refine zg_loc [1, 2, 3, 4, 6, 7, 8, 9, 10, 11, 12, 13, 14, 0] rfl ?_
                exact hB298 hb ((kc + 1) + 1) ((ks + 6) + 6) y1 y2 y3 y5 y6 y7 y8 y10 y11 y12 y13 y14 r26 (by omega) (by omega) hf
              · have hf := pl_f c30 hf
                refine zg_iconst (v := 1) X dL_hangs_294 (by decide) ?_
                refine zg_goto (tgt := 299) X dL_hangs_295 (by decide) ?_
                refine zg_loc [1, 2, 3, 4, 6, 7, 8, 9, 10, 11, 12, 13, 14, 0] rfl ?_
                exact hB299 hb ((kc + 1) + 1) ((ks + 6) + 6) y1 y2 y3 y5 y6 y7 y8 y10 y11 y12 y13 y14 r26 1 (by omega) (by omega) hf
  have hB239 : ∀ (hb : Nat → Nat) (kc ks : Nat) (y1 : Int32) (y2 : Int32) (y3 : Int32) (y4 : Int32) (y5 : Int32) (y6 : Int32) (y7 : Int32) (y8 : Int32), kc + (1256) ≤ 1506 → ks + 6 * (1256) ≤ 9036 → zf_L_hangs_b239 fu fn y1 y2 y3 y4 y5 y6 y7 y8 v0 = some res → zgGd G Z ({ frames := 8, cells := 1506, slots := 9036, locals := 184 } : Room) kc ks 17 (zTc G a hb v0) 239 [(0, .ref (a 0)), (1, .int y1), (2, .int y2), (3, .int y3), (4, .int y4), (5, .int y5), (6, .int y6), (7, .int y7), (8, .int y8)] [] := by
    intro hb kc ks y1 y2 y3 y4 y5 y6 y7 y8 hkc hks hf
    unfold zf_L_hangs_b239 at hf
    refine zg_iconst (v := 0) X dL_hangs_239 (by decide) ?_
    refine zg_istore (L' := [(10, .int 0), (0, .ref (a 0)), (1, .int y1), (2, .int y2), (3, .int y3), (4, .int y4), (5, .int y5), (6, .int y6), (7, .int y7), (8, .int y8)]) X dL_hangs_240 (by decide) rfl ?_
    refine zg_iconst (v := 0) X dL_hangs_242 (by decide) ?_
    refine zg_istore (L' := [(11, .int 0), (10, .int 0), (0, .ref (a 0)), (1, .int y1), (2, .int y2), (3, .int y3), (4, .int y4), (5, .int y5), (6, .int y6), (7, .int y7), (8, .int y8)]) X dL_hangs_243 (by decide) rfl ?_
    refine zg_iconst (v := 0) X dL_hangs_245 (by decide) ?_
    refine zg_istore (L' := [(12, .int 0), (11, .int 0), (10, .int 0), (0, .ref (a 0)), (1, .int y1), (2, .int y2), (3, .int y3), (4, .int y4), (5, .int y5), (6, .int y6), (7, .int y7), (8, .int y8)]) X dL_hangs_246 (by decide) rfl ?_
    refine zg_iconst (v := 0) X dL_hangs_248 (by decide) ?_
    refine zg_istore (L' := [(13, .int 0), (12, .int 0), (11, .int 0), (10, .int 0), (0, .ref (a 0)), (1, .int y1), (2, .int y2), (3, .int y3), (4, .int y4), (5, .int y5), (6, .int y6), (7, .int y7), (8, .int y8)]) X dL_hangs_249 (by decide) rfl ?_
    refine zg_iconst (v := 0) X dL_hangs_251 (by decide) ?_
    refine zg_istore (L' := [(14, .int 0), (13, .int 0), (12, .int 0), (11, .int 0), (10, .int 0), (0, .ref (a 0)), (1, .int y1), (2, .int y2), (3, .int y3), (4, .int y4), (5, .int y5), (6, .int y6), (7, .int y7), (8, .int y8)]) X dL_hangs_252 (by decide) rfl ?_
    refine zg_loc [5, 6, 7, 8, 9, 10, 11, 12, 13, 4, 3, 2, 1, 0] rfl ?_
    exact hL254 fn hb kc ks y1 y2 y3 y4 y5 y6 y7 y8 0 0 0 0 0 (by omega) (by omega) hf
  have hL96 : ∀ (n : Nat) (hb : Nat → Nat) (kc ks : Nat) (y1 : Int32) (y2 : Int32) (y3 : Int32) (y4 : Int32) (y5 : Int32) (y6 : Int32) (y7 : Int32) (y8 : Int32) (y9 : Int32) (y10 : Int32), kc + (1256 + 1 * n) ≤ 1506 → ks + 6 * (1256 + 1 * n) ≤ 9036 → zf_L_hangs_L96 fu fn n y1 y2 y3 y4 y5 y6 y7 y8 y9 y10 v0 = some res → zgGd G Z ({ frames := 8, cells := 1506, slots := 9036, locals := 184 } : Room) kc ks 17 (zTc G a hb v0) 96 [(0, .ref (a 0)), (1, .int y1), (2, .int y2), (3, .int y3), (4, .int y4), (5, .int y5), (6, .int y6), (7, .int y7), (8, .int y8), (9, .int y9), (10, .int y10)] [] := by
    intro n
    induction n with
    | zero =>
      intro hb kc ks y1 y2 y3 y4 y5 y6 y7 y8 y9 y10 hkc hks hf
      rw [zf_L_hangs_L96] at hf
      cases hf
    | succ n96 ih96 =>
      have hB226 : ∀ (hb : Nat → Nat) (kc ks : Nat) (y1 : Int32) (y2 : Int32) (y3 : Int32) (y4 : Int32) (y5 : Int32) (y6 : Int32) (y7 : Int32) (y10 : Int32) (y12 : Int32) (z0 : Int32) (z1 : Int32), kc + (1256 + 1 * n96) ≤ 1506 → ks + 6 * (1256 + 1 * n96) ≤ 9036 → zf_L_hangs_b226 fu fn (zf_L_hangs_L96 fu fn n96) y1 y2 y3 y4 y5 y6 y7 y10 y12 z0 z1 v0 = some res → zgGd G Z ({ frames := 8, cells := 1506, slots := 9036, locals := 184 } : Room) kc ks 17 (zTc G a hb v0) 226 [(0, .ref (a 0)), (1, .int y1), (2, .int y2), (3, .int y3), (4, .int y4), (5, .int y5), (6, .int y6), (7, .int y7), (10, .int y10), (12, .int y12)] [.int z1, .int z0] := by
        intro hb kc ks y1 y2 y3 y4 y5 y6 y7 y10 y12 z0 z1 hkc hks hf
        unfold zf_L_hangs_b226 at hf
        refine zg_iadd X dL_hangs_226 ?_
        obtain ⟨x60, ex60, hf⟩ := pl_l hf
        refine zg_topi ex60 ?_
        refine zg_istore (L' := [(8, .int x60), (0, .ref (a 0)), (1, .int y1), (2, .int y2), (3, .int y3), (4, .int y4), (5, .int y5), (6, .int y6), (7, .int y7), (10, .int y10), (12, .int y12)]) X dL_hangs_227 (by decide) rfl ?_
        refine zg_iload X dL_hangs_229 10 rfl ?_
        refine zg_istore (L' := [(9, .int y12), (8, .int x60), (0, .ref (a 0)), (1, .int y1), (2, .int y2), (3, .int y3), (4, .int y4), (5, .int y5), (6, .int y6), (7, .int y7), (10, .int y10), (12, .int y12)]) X dL_hangs_231 (by decide) rfl ?_
        obtain ⟨x61, ex61, hf⟩ := pl_l hf
        refine zg_iinc (v := x61) (L' := [(10, .int x61), (9, .int y12), (8, .int x60), (0, .ref (a 0)), (1, .int y1), (2, .int y2), (3, .int y3), (4, .int y4), (5, .int y5), (6, .int y6), (7, .int y7), (12, .int y12)]) X dL_hangs_233 (j := 10) rfl (by rw [ex61]; rfl) (by decide) rfl ?_
        refine zg_goto (tgt := 96) X dL_hangs_236 (by decide) ?_
        refine zg_loc [3, 4, 5, 6, 7, 8, 9, 10, 2, 1, 0] rfl ?_
        exact ih96 hb kc ks y1 y2 y3 y4 y5 y6 y7 x60 y12 x61 (by omega) (by omega) hf
      have hB225 : ∀ (hb : Nat → Nat) (kc ks : Nat) (y1 : Int32) (y2 : Int32) (y3 : Int32) (y4 : Int32) (y5 : Int32) (y6 : Int32) (y7 : Int32) (y10 : Int32) (y12 : Int32) (z0 : Int32), kc + (1256 + 1 * n96) ≤ 1506 → ks + 6 * (1256 + 1 * n96) ≤ 9036 → zf_L_hangs_b225 fu fn (zf_L_hangs_L96 fu fn n96) y1 y2 y3 y4 y5 y6 y7 y10 y12 z0 v0 = some res → zgGd G Z ({ frames := 8, cells := 1506, slots := 9036, locals := 184 } : Room) kc ks 17 (zTc G a hb v0) 225 [(0, .ref (a 0)), (1, .int y1), (2, .int y2), (3, .int y3), (4, .int y4), (5, .int y5), (6, .int y6), (7, .int y7), (10, .int y10), (12, .int y12)] [.int z0] := by
        intro hb kc ks y1 y2 y3 y4 y5 y6 y7 y10 y12 z0 hkc hks hf
        unfold zf_L_hangs_b225 at hf
        refine zg_iconst (v := 0) X dL_hangs_225 (by decide) ?_
        exact hB226 hb kc ks y1 y2 y3 y4 y5 y6 y7 y10 y12 z0 0 (by omega) (by omega) hf
      have hB206 : ∀ (hb : Nat → Nat) (kc ks : Nat) (y1 : Int32) (y2 : Int32) (y3 : Int32) (y4 : Int32) (y5 : Int32) (y6 : Int32) (y8 : Int32) (y9 : Int32) (y10 : Int32) (y12 : Int32) (z0 : Int32) (z1 : Int32), kc + (1256 + 1 * n96) ≤ 1506 → ks + 6 * (1256 + 1 * n96) ≤ 9036 → zf_L_hangs_b206 fu fn (zf_L_hangs_L96 fu fn n96) y1 y2 y3 y4 y5 y6 y8 y9 y10 y12 z0 z1 v0 = some res → zgGd G Z ({ frames := 8, cells := 1506, slots := 9036, locals := 184 } : Room) kc ks 17 (zTc G a hb v0) 206 [(0, .ref (a 0)), (1, .int y1), (2, .int y2), (3, .int y3), (4, .int y4), (5, .int y5), (6, .int y6), (8, .int y8), (9, .int y9), (10, .int y10), (12, .int y12)] [.int z1, .int z0] := by
        intro hb kc ks y1 y2 y3 y4 y5 y6 y8 y9 y10 y12 z0 z1 hkc hks hf
        unfold zf_L_hangs_b206 at hf
        refine zg_iadd X dL_hangs_206 ?_
        obtain ⟨x51, ex51, hf⟩ := pl_l hf
        refine zg_topi ex51 ?_
        refine zg_istore (L' := [(7, .int x51), (0, .ref (a 0)), (1, .int y1), (2, .int y2), (3, .int y3), (4, .int y4), (5, .int y5), (6, .int y6), (8, .int y8), (9, .int y9), (10, .int y10), (12, .int y12)]) X dL_hangs_207 (by decide) rfl ?_
        refine zg_iload X dL_hangs_209 8 rfl ?_
        refine zg_iload X dL_hangs_211 11 rfl ?_
        refine zg_if_eq (tgt := 225) X dL_hangs_213 (by decide) (fun c52 => ?_) (fun c52 => ?_)
        · have hf := pl_t c52 hf
          refine zg_loc [1, 2, 3, 4, 5, 6, 7, 0, 10, 11] rfl ?_
          exact hB225 hb kc ks y1 y2 y3 y4 y5 y6 x51 y10 y12 y8 (by omega) (by omega) hf
        · have hf := pl_f c52 hf
          refine zg_iload X dL_hangs_216 9 rfl ?_
          refine zg_if_ne (tgt := 225) X dL_hangs_218 (by decide) (fun c53 => ?_) (fun c53 => ?_)
          · have hf := pl_f c53 hf
            refine zg_loc [1, 2, 3, 4, 5, 6, 7, 0, 10, 11] rfl ?_
            exact hB225 hb kc ks y1 y2 y3 y4 y5 y6 x51 y10 y12 y8 (by omega) (by omega) hf
          · have hf := pl_t c53 hf
            refine zg_iconst (v := 1) X dL_hangs_221 (by decide) ?_
            refine zg_goto (tgt := 226) X dL_hangs_222 (by decide) ?_
            refine zg_loc [1, 2, 3, 4, 5, 6, 7, 0, 10, 11] rfl ?_
            exact hB226 hb kc ks y1 y2 y3 y4 y5 y6 x51 y10 y12 y8 1 (by omega) (by omega) hf
      have hB189 : ∀ (hb : Nat → Nat) (kc ks : Nat) (y1 : Int32) (y2 : Int32) (y3 : Int32) (y4 : Int32) (y5 : Int32) (y7 : Int32) (y8 : Int32) (y9 : Int32) (y10 : Int32) (y11 : Int32) (y12 : Int32) (z0 : Int32) (z1 : Int32), kc + (1256 + 1 * n96) ≤ 1506 → ks + 6 * (1256 + 1 * n96) ≤ 9036 → zf_L_hangs_b189 fu fn (zf_L_hangs_L96 fu fn n96) y1 y2 y3 y4 y5 y7 y8 y9 y10 y11 y12 z0 z1 v0 = some res → zgGd G Z ({ frames := 8, cells := 1506, slots := 9036, locals := 184 } : Room) kc ks 17 (zTc G a hb v0) 189 [(0, .ref (a 0)), (1, .int y1), (2, .int y2), (3, .int y3), (4, .int y4), (5, .int y5), (7, .int y7), (8, .int y8), (9, .int y9), (10, .int y10), (11, .int y11), (12, .int y12)] [.int z1, .int z0] := by
        intro hb kc ks y1 y2 y3 y4 y5 y7 y8 y9 y10 y11 y12 z0 z1 hkc hks hf
        unfold zf_L_hangs_b189 at hf
        refine zg_iadd X dL_hangs_189 ?_
        obtain ⟨x49, ex49, hf⟩ := pl_l hf
        refine zg_topi ex49 ?_
        refine zg_istore (L' := [(6, .int x49), (0, .ref (a 0)), (1, .int y1), (2, .int y2), (3, .int y3), (4, .int y4), (5, .int y5), (7, .int y7), (8, .int y8), (9, .int y9), (10, .int y10), (11, .int y11), (12, .int y12)]) X dL_hangs_190 (by decide) rfl ?_
        refine zg_iload X dL_hangs_192 7 rfl ?_
        refine zg_iload X dL_hangs_194 11 rfl ?_
        refine zg_bipush (v := 29) X dL_hangs_196 (by decide) ?_
        refine zg_icmp_ne (tgt := 205) X dL_hangs_198 (by decide) (fun c50 => ?_) (fun c50 => ?_)
        · have hf := pl_f c50 hf
          refine zg_iconst (v := 0) X dL_hangs_205 (by decide) ?_
          refine zg_loc [1, 2, 3, 4, 5, 6, 0, 8, 9, 10, 12] rfl ?_
          exact hB206 hb kc ks y1 y2 y3 y4 y5 x49 y8 y9 y10 y12 y7 0 (by omega) (by omega) hf
        · have hf := pl_t c50 hf
          refine zg_iconst (v := 1) X dL_hangs_201 (by decide) ?_
          refine zg_goto (tgt := 206) X dL_hangs_202 (by decide) ?_
          refine zg_loc [1, 2, 3, 4, 5, 6, 0, 8, 9, 10, 12] rfl ?_
          exact hB206 hb kc ks y1 y2 y3 y4 y5 x49 y8 y9 y10 y12 y7 1 (by omega) (by omega) hf
      have hB184 : ∀ (hb : Nat → Nat) (kc ks : Nat) (y1 : Int32) (y2 : Int32) (y3 : Int32) (y4 : Int32) (y5 : Int32) (y7 : Int32) (y8 : Int32) (y9 : Int32) (y10 : Int32) (y11 : Int32) (y12 : Int32) (z0 : Int32), kc + (1256 + 1 * n96) ≤ 1506 → ks + 6 * (1256 + 1 * n96) ≤ 9036 → zf_L_hangs_b184 fu fn (zf_L_hangs_L96 fu fn n96) y1 y2 y3 y4 y5 y7 y8 y9 y10 y11 y12 z0 v0 = some res → zgGd G Z ({ frames := 8, cells := 1506, slots := 9036, locals := 184 } : Room) kc ks 17 (zTc G a hb v0) 184 [(0, .ref (a 0)), (1, .int y1), (2, .int y2), (3, .int y3), (4, .int y4), (5, .int y5), (7, .int y7), (8, .int y8), (9, .int y9), (10, .int y10), (11, .int y11), (12, .int y12)] [.int z0] := by
        intro hb kc ks y1 y2 y3 y4 y5 y7 y8 y9 y10 y11 y12 z0 hkc hks hf
        unfold zf_L_hangs_b184 at hf
        refine zg_iconst (v := 1) X dL_hangs_184 (by decide) ?_
        refine zg_goto (tgt := 189) X dL_hangs_185 (by decide) ?_
        exact hB189 hb kc ks y1 y2 y3 y4 y5 y7 y8 y9 y10 y11 y12 z0 1 (by omega) (by omega) hf
      have hB165 : ∀ (hb : Nat → Nat) (kc ks : Nat) (y1 : Int32) (y2 : Int32) (y3 : Int32) (y4 : Int32) (y6 : Int32) (y7 : Int32) (y8 : Int32) (y9 : Int32) (y10 : Int32) (y11 : Int32) (y12 : Int32) (z0 : Int32) (z1 : Int32), kc + (1256 + 1 * n96) ≤ 1506 → ks + 6 * (1256 + 1 * n96) ≤ 9036 → zf_L_hangs_b165 fu fn (zf_L_hangs_L96 fu fn n96) y1 y2 y3 y4 y6 y7 y8 y9 y10 y11 y12 z0 z1 v0 = some res → zgGd G Z ({ frames := 8, cells := 1506, slots := 9036, locals := 184 } : Room) kc ks 17 (zTc G a hb v0) 165 [(0, .ref (a 0)), (1, .int y1), (2, .int y2), (3, .int y3), (4, .int y4), (6, .int y6), (7, .int y7), (8, .int y8), (9, .int y9), (10, .int y10), (11, .int y11), (12, .int y12)] [.int z1, .int z0] := by
        intro hb kc ks y1 y2 y3 y4 y6 y7 y8 y9 y10 y11 y12 z0 z1 hkc hks hf
        unfold zf_L_hangs_b165 at hf
        refine zg_iadd X dL_hangs_165 ?_
        obtain ⟨x38, ex38, hf⟩ := pl_l hf
        refine zg_topi ex38 ?_
        refine zg_istore (L' := [(5, .int x38), (0, .ref (a 0)), (1, .int y1), (2, .int y2), (3, .int y3), (4, .int y4), (6, .int y6), (7, .int y7), (8, .int y8), (9, .int y9), (10, .int y10), (11, .int y11), (12, .int y12)]) X dL_hangs_166 (by decide) rfl ?_
        refine zg_iload X dL_hangs_168 6 rfl ?_
        refine zg_iload X dL_hangs_170 11 rfl ?_
        refine zg_bipush (v := 27) X dL_hangs_172 (by decide) ?_
        refine zg_icmp_eq (tgt := 184) X dL_hangs_174 (by decide) (fun c39 => ?_) (fun c39 => ?_)
        · have hf := pl_t c39 hf
          refine zg_loc [1, 2, 3, 4, 5, 0, 7, 8, 9, 10, 11, 12] rfl ?_
          exact hB184 hb kc ks y1 y2 y3 y4 x38 y7 y8 y9 y10 y11 y12 y6 (by omega) (by omega) hf
        · have hf := pl_f c39 hf
          refine zg_iload X dL_hangs_177 11 rfl ?_
          refine zg_bipush (v := 28) X dL_hangs_179 (by decide) ?_
          refine zg_icmp_ne (tgt := 188) X dL_hangs_181 (by decide) (fun c40 => ?_) (fun c40 => ?_)
          · have hf := pl_f c40 hf
            refine zg_iconst (v := 0) X dL_hangs_188 (by decide) ?_
            refine zg_loc [1, 2, 3, 4, 5, 0, 7, 8, 9, 10, 11, 12] rfl ?_
            exact hB189 hb kc ks y1 y2 y3 y4 x38 y7 y8 y9 y10 y11 y12 y6 0 (by omega) (by omega) hf
          · have hf := pl_t c40 hf
            refine zg_loc [1, 2, 3, 4, 5, 0, 7, 8, 9, 10, 11, 12] rfl ?_
            exact hB184 hb kc ks y1 y2 y3 y4 x38 y7 y8 y9 y10 y11 y12 y6 (by omega) (by omega) hf
      have hB151 : ∀ (hb : Nat → Nat) (kc ks : Nat) (y1 : Int32) (y2 : Int32) (y3 : Int32) (y5 : Int32) (y6 : Int32) (y7 : Int32) (y8 : Int32) (y9 : Int32) (y10 : Int32) (y11 : Int32) (y12 : Int32) (z0 : Int32), kc + (1256 + 1 * n96) ≤ 1506 → ks + 6 * (1256 + 1 * n96) ≤ 9036 → zf_L_hangs_b151 fu fn (zf_L_hangs_L96 fu fn n96) y1 y2 y3 y5 y6 y7 y8 y9 y10 y11 y12 z0 v0 = some res → zgGd G Z ({ frames := 8, cells := 1506, slots := 9036, locals := 184 } : Room) kc ks 17 (zTc G a hb v0) 151 [(0, .ref (a 0)), (1, .int y1), (2, .int y2), (3, .int y3), (5, .int y5), (6, .int y6), (7, .int y7), (8, .int y8), (9, .int y9), (10, .int y10), (11, .int y11), (12, .int y12)] [.int z0] := by
        intro hb kc ks y1 y2 y3 y5 y6 y7 y8 y9 y10 y11 y12 z0 hkc hks hf
        unfold zf_L_hangs_b151 at hf
        refine zg_istore (L' := [(4, .int z0), (0, .ref (a 0)), (1, .int y1), (2, .int y2), (3, .int y3), (5, .int y5), (6, .int y6), (7, .int y7), (8, .int y8), (9, .int y9), (10, .int y10), (11, .int y11), (12, .int y12)]) X dL_hangs_151 (by decide) rfl ?_
        refine zg_iload X dL_hangs_153 5 rfl ?_
        refine zg_iload X dL_hangs_155 12 rfl ?_
        refine zg_if_eq (tgt := 164) X dL_hangs_157 (by decide) (fun c31 => ?_) (fun c31 => ?_)
        · have hf := pl_t c31 hf
          refine zg_iconst (v := 0) X dL_hangs_164 (by decide) ?_
          refine zg_loc [1, 2, 3, 4, 0, 6, 7, 8, 9, 10, 11, 12] rfl ?_
          exact hB165 hb kc ks y1 y2 y3 z0 y6 y7 y8 y9 y10 y11 y12 y5 0 (by omega) (by omega) hf
        · have hf := pl_f c31 hf
          refine zg_iconst (v := 1) X dL_hangs_160 (by decide) ?_
          refine zg_goto (tgt := 165) X dL_hangs_161 (by decide) ?_
          refine zg_loc [1, 2, 3, 4, 0, 6, 7, 8, 9, 10, 11, 12] rfl ?_
          exact hB165 hb kc ks y1 y2 y3 z0 y6 y7 y8 y9 y10 y11 y12 y5 1 (by omega) (by omega) hf
      have hB150 : ∀ (hb : Nat → Nat) (kc ks : Nat) (y1 : Int32) (y2 : Int32) (y3 : Int32) (y5 : Int32) (y6 : Int32) (y7 : Int32) (y8 : Int32) (y9 : Int32) (y10 : Int32) (y11 : Int32) (y12 : Int32), kc + (1256 + 1 * n96) ≤ 1506 → ks + 6 * (1256 + 1 * n96) ≤ 9036 → zf_L_hangs_b150 fu fn (zf_L_hangs_L96 fu fn n96) y1 y2 y3 y5 y6 y7 y8 y9 y10 y11 y12 v0 = some res → zgGd G Z ({ frames := 8, cells := 1506, slots := 9036, locals := 184 } : Room) kc ks 17 (zTc G a hb v0) 150 [(0, .ref (a 0)), (1, .int y1), (2, .int y2), (3, .int y3), (5, .int y5), (6, .int y6), (7, .int y7), (8, .int y8), (9, .int y9), (10, .int y10), (11, .int y11), (12, .int y12)] [] := by
        intro hb kc ks y1 y2 y3 y5 y6 y7 y8 y9 y10 y11 y12 hkc hks hf
        unfold zf_L_hangs_b150 at hf
        refine zg_iconst (v := 0) X dL_hangs_150 (by decide) ?_
        exact hB151 hb kc ks y1 y2 y3 y5 y6 y7 y8 y9 y10 y11 y12 0 (by omega) (by omega) hf
      have hB132 : ∀ (hb : Nat → Nat) (kc ks : Nat) (y1 : Int32) (y2 : Int32) (y3 : Int32) (y5 : Int32) (y6 : Int32) (y7 : Int32) (y8 : Int32) (y9 : Int32) (y10 : Int32) (y11 : Int32) (z0 : Int32), kc + (1256 + 1 * n96) ≤ 1506 → ks + 6 * (1256 + 1 * n96) ≤ 9036 → zf_L_hangs_b132 fu fn (zf_L_hangs_L96 fu fn n96) y1 y2 y3 y5 y6 y7 y8 y9 y10 y11 z0 v0 = some res → zgGd G Z ({ frames := 8, cells := 1506, slots := 9036, locals := 184 } : Room) kc ks 17 (zTc G a hb v0) 132 [(0, .ref (a 0)), (1, .int y1), (2, .int y2), (3, .int y3), (5, .int y5), (6, .int y6), (7, .int y7), (8, .int y8), (9, .int y9), (10, .int y10), (11, .int y11)] [.int z0] := by
        intro hb kc ks y1 y2 y3 y5 y6 y7 y8 y9 y10 y11 z0 hkc hks hf
        unfold zf_L_hangs_b132 at hf
        refine zg_istore (L' := [(12, .int z0), (0, .ref (a 0)), (1, .int y1), (2, .int y2), (3, .int y3), (5, .int y5), (6, .int y6), (7, .int y7), (8, .int y8), (9, .int y9), (10, .int y10), (11, .int y11)]) X dL_hangs_132 (by decide) rfl ?_
        refine zg_iload X dL_hangs_134 11 rfl ?_
        refine zg_if_lt (tgt := 150) X dL_hangs_136 (by decide) (fun c22 => ?_) (fun c22 => ?_)
        · have hf := pl_t c22 hf
          refine zg_loc [1, 2, 3, 4, 5, 6, 7, 8, 9, 10, 11, 0] rfl ?_
          exact hB150 hb kc ks y1 y2 y3 y5 y6 y7 y8 y9 y10 y11 z0 (by omega) (by omega) hf
        · have hf := pl_f c22 hf
          refine zg_iload X dL_hangs_139 11 rfl ?_
          refine zg_bipush (v := 32) X dL_hangs_141 (by decide) ?_
          refine zg_icmp_ge (tgt := 150) X dL_hangs_143 (by decide) (fun c23 => ?_) (fun c23 => ?_)
          · have hf := pl_t c23 hf
            refine zg_loc [1, 2, 3, 4, 5, 6, 7, 8, 9, 10, 11, 0] rfl ?_
            exact hB150 hb kc ks y1 y2 y3 y5 y6 y7 y8 y9 y10 y11 z0 (by omega) (by omega) hf
          · have hf := pl_f c23 hf
            refine zg_iconst (v := 1) X dL_hangs_146 (by decide) ?_
            refine zg_goto (tgt := 151) X dL_hangs_147 (by decide) ?_
            refine zg_loc [1, 2, 3, 4, 5, 6, 7, 8, 9, 10, 11, 0] rfl ?_
            exact hB151 hb kc ks y1 y2 y3 y5 y6 y7 y8 y9 y10 y11 z0 1 (by omega) (by omega) hf
      have hB131 : ∀ (hb : Nat → Nat) (kc ks : Nat) (y1 : Int32) (y2 : Int32) (y3 : Int32) (y5 : Int32) (y6 : Int32) (y7 : Int32) (y8 : Int32) (y9 : Int32) (y10 : Int32) (y11 : Int32), kc + (1256 + 1 * n96) ≤ 1506 → ks + 6 * (1256 + 1 * n96) ≤ 9036 → zf_L_hangs_b131 fu fn (zf_L_hangs_L96 fu fn n96) y1 y2 y3 y5 y6 y7 y8 y9 y10 y11 v0 = some res → zgGd G Z ({ frames := 8, cells := 1506, slots := 9036, locals := 184 } : Room) kc ks 17 (zTc G a hb v0) 131 [(0, .ref (a 0)), (1, .int y1), (2, .int y2), (3, .int y3), (5, .int y5), (6, .int y6), (7, .int y7), (8, .int y8), (9, .int y9), (10, .int y10), (11, .int y11)] [] := by
        intro hb kc ks y1 y2 y3 y5 y6 y7 y8 y9 y10 y11 hkc hks hf
        unfold zf_L_hangs_b131 at hf
        refine zg_iconst (v := 0) X dL_hangs_131 (by decide) ?_
        exact hB132 hb kc ks y1 y2 y3 y5 y6 y7 y8 y9 y10 y11 0 (by omega) (by omega) hf
      intro hb kc ks y1 y2 y3 y4 y5 y6 y7 y8 y9 y10 hkc hks hf
      rw [zf_L_hangs_L96] at hf
      refine zg_iload X dL_hangs_96 10 rfl ?_
      refine zg_iload_n X dL_hangs_98 rfl 1 rfl ?_
      refine zg_icmp_ge (tgt := 239) X dL_hangs_99 (by decide) (fun c17 => ?_) (fun c17 => ?_)
      · have hf := pl_t c17 hf
        refine zg_loc [0, 1, 2, 3, 4, 5, 6, 7, 8] rfl ?_
        exact hB239 hb kc ks y1 y2 y3 y4 y5 y6 y7 y8 (by omega) (by omega) hf
      · have hf := pl_f c17 hf
        refine zg_iload X dL_hangs_102 4 rfl ?_
        refine zg_if_eq (tgt := 239) X dL_hangs_104 (by decide) (fun c18 => ?_) (fun c18 => ?_)
        · have hf := pl_t c18 hf
          refine zg_loc [0, 1, 2, 3, 4, 5, 6, 7, 8] rfl ?_
          exact hB239 hb kc ks y1 y2 y3 y4 y5 y6 y7 y8 (by omega) (by omega) hf
        · have hf := pl_f c18 hf
          refine zg_aload_n X dL_hangs_107 rfl 0 rfl ?_
          refine zg_iload X dL_hangs_108 10 rfl ?_
          obtain ⟨r19, hr19, hf⟩ := pl_b hf
          refine zg_t1 (v' := v0) X (zg_runSW X (zc_L_receivedCode G hst a hb v0 y10 fu r19 hr19) gL_hangs_L_receivedCode rfl zh_L_receivedCode ⟨rfl, rfl⟩ ⟨Nat.le_of_ble_eq_true rfl, Nat.le_of_ble_eq_true rfl⟩ rfl (Nat.le_of_ble_eq_true rfl) ⟨(show kc + 1 ≤ 1506 by omega), (show ks + 6 ≤ 9036 by omega)⟩ zI1 zT_nd zT_ix rfl dL_hangs_110) (fun u => ⟨u, rfl⟩) (fun _ => rfl) (fun hb => ?_)
          refine zg_istore (L' := [(11, .int r19), (0, .ref (a 0)), (1, .int y1), (2, .int y2), (3, .int y3), (4, .int y4), (5, .int y5), (6, .int y6), (7, .int y7), (8, .int y8), (9, .int y9), (10, .int y10)]) X dL_hangs_113 (by decide) rfl ?_
          refine zg_iload X dL_hangs_115 0 rfl ?_
          refine zg_if_le (tgt := 131) X dL_hangs_117 (by decide) (fun c20 => ?_) (fun c20 => ?_)
          · have hf := pl_t c20 hf
            refine zg_loc [1, 2, 3, 4, 6, 7, 8, 9, 10, 11, 0] rfl ?_
            exact hB131 hb (kc + 1) (ks + 6) y1 y2 y3 y5 y6 y7 y8 y9 y10 r19 (by omega) (by omega) hf
          · have hf := pl_f c20 hf
            refine zg_iload X dL_hangs_120 0 rfl ?_
            refine zg_bipush (v := 27) X dL_hangs_122 (by decide) ?_
            refine zg_icmp_ge (tgt := 131) X dL_hangs_124 (by decide) (fun c21 => ?_) (fun c21 => ?_)
            · have hf := pl_t c21 hf
              refine zg_loc [1, 2, 3, 4, 6, 7, 8, 9, 10, 11, 0] rfl ?_
              exact hB131 hb (kc + 1) (ks + 6) y1 y2 y3 y5 y6 y7 y8 y9 y10 r19 (by omega) (by omega) hf
            · have hf := pl_f c21 hf
              refine zg_iconst (v := 1) X dL_hangs_127 (by decide) ?_
              refine zg_goto (tgt := 132) X dL_hangs_128 (by decide) ?_
              refine zg_loc [1, 2, 3, 4, 6, 7, 8, 9, 10, 11, 0] rfl ?_
              exact hB132 hb (kc + 1) (ks + 6) y1 y2 y3 y5 y6 y7 y8 y9 y10 r19 1 (by omega) (by omega) hf
  have hB76 : ∀ (hb : Nat → Nat) (kc ks : Nat) (y1 : Int32) (y2 : Int32) (y3 : Int32) (z0 : Int32), kc + (1506) ≤ 1506 → ks + 6 * (1506) ≤ 9036 → zf_L_hangs_b76 fu fn y1 y2 y3 z0 v0 = some res → zgGd G Z ({ frames := 8, cells := 1506, slots := 9036, locals := 184 } : Room) kc ks 17 (zTc G a hb v0) 76 [(0, .ref (a 0)), (1, .int y1), (2, .int y2), (3, .int y3)] [.int z0] := by
    intro hb kc ks y1 y2 y3 z0 hkc hks hf
    unfold zf_L_hangs_b76 at hf
    refine zg_istore (L' := [(4, .int z0), (0, .ref (a 0)), (1, .int y1), (2, .int y2), (3, .int y3)]) X dL_hangs_76 (by decide) rfl ?_
    refine zg_iconst (v := 0) X dL_hangs_78 (by decide) ?_
    refine zg_istore (L' := [(5, .int 0), (4, .int z0), (0, .ref (a 0)), (1, .int y1), (2, .int y2), (3, .int y3)]) X dL_hangs_79 (by decide) rfl ?_
    refine zg_iconst (v := 0) X dL_hangs_81 (by decide) ?_
    refine zg_istore (L' := [(6, .int 0), (5, .int 0), (4, .int z0), (0, .ref (a 0)), (1, .int y1), (2, .int y2), (3, .int y3)]) X dL_hangs_82 (by decide) rfl ?_
    refine zg_iconst (v := 0) X dL_hangs_84 (by decide) ?_
    refine zg_istore (L' := [(7, .int 0), (6, .int 0), (5, .int 0), (4, .int z0), (0, .ref (a 0)), (1, .int y1), (2, .int y2), (3, .int y3)]) X dL_hangs_85 (by decide) rfl ?_
    refine zg_iconst (v := 0) X dL_hangs_87 (by decide) ?_
    refine zg_istore (L' := [(8, .int 0), (7, .int 0), (6, .int 0), (5, .int 0), (4, .int z0), (0, .ref (a 0)), (1, .int y1), (2, .int y2), (3, .int y3)]) X dL_hangs_88 (by decide) rfl ?_
    refine zg_iconst (v := 0) X dL_hangs_90 (by decide) ?_
    refine zg_istore (L' := [(9, .int 0), (8, .int 0), (7, .int 0), (6, .int 0), (5, .int 0), (4, .int z0), (0, .ref (a 0)), (1, .int y1), (2, .int y2), (3, .int y3)]) X dL_hangs_91 (by decide) rfl ?_
    refine zg_iconst (v := 0) X dL_hangs_93 (by decide) ?_
    refine zg_istore (L' := [(10, .int 0), (9, .int 0), (8, .int 0), (7, .int 0), (6, .int 0), (5, .int 0), (4, .int z0), (0, .ref (a 0)), (1, .int y1), (2, .int y2), (3, .int y3)]) X dL_hangs_94 (by decide) rfl ?_
    refine zg_loc [7, 8, 9, 10, 6, 5, 4, 3, 2, 1, 0] rfl ?_
    exact hL96 fn hb kc ks y1 y2 y3 z0 0 0 0 0 0 0 (by omega) (by omega) hf
  have hB75 : ∀ (hb : Nat → Nat) (kc ks : Nat) (y1 : Int32) (y2 : Int32) (y3 : Int32), kc + (1506) ≤ 1506 → ks + 6 * (1506) ≤ 9036 → zf_L_hangs_b75 fu fn y1 y2 y3 v0 = some res → zgGd G Z ({ frames := 8, cells := 1506, slots := 9036, locals := 184 } : Room) kc ks 17 (zTc G a hb v0) 75 [(0, .ref (a 0)), (1, .int y1), (2, .int y2), (3, .int y3)] [] := by
    intro hb kc ks y1 y2 y3 hkc hks hf
    unfold zf_L_hangs_b75 at hf
    refine zg_iconst (v := 0) X dL_hangs_75 (by decide) ?_
    exact hB76 hb kc ks y1 y2 y3 0 (by omega) (by omega) hf
  unfold zf_L_hangs at hf
  refine zg_aload_n X dL_hangs_0 rfl 0 rfl ?_
  obtain ⟨r1, hr1, hf⟩ := pl_b hf
  refine zg_t10 (v' := v0) X (zg_runV X (zt_X7_received G a hb v0 fu r1 hr1) gL_hangs_X7_received rfl zh_X7_received ⟨rfl, rfl⟩ ⟨Nat.le_of_ble_eq_true rfl, Nat.le_of_ble_eq_true rfl⟩ rfl rfl rfl (Nat.le_of_ble_eq_true rfl) ⟨(show 0 + 0 ≤ 1506 by omega), (show 0 + 0 ≤ 9036 by omega)⟩ zI1 zT_nd zT_ix rfl dL_hangs_1) ⟨_, rfl⟩ (fun hb => ?_)
  refine zg_istore_n (L' := [(1, .int r1), (0, .ref (a 0))]) X dL_hangs_4 rfl (by decide) rfl ?_
  refine zg_aload_n X dL_hangs_5 rfl 1 rfl ?_
  obtain ⟨r2, hr2, hf⟩ := pl_b hf
  refine zg_t10 (v' := v0) X (zg_runV X (zt_X7_printedLength G a hb v0 fu r2 hr2) gL_hangs_X7_printedLength rfl zh_X7_printedLength ⟨rfl, rfl⟩ ⟨Nat.le_of_ble_eq_true rfl, Nat.le_of_ble_eq_true rfl⟩ rfl rfl rfl (Nat.le_of_ble_eq_true rfl) ⟨(show 0 + 0 ≤ 1506 by omega), (show 0 + 0 ≤ 9036 by omega)⟩ zI1 zT_nd zT_ix rfl dL_hangs_6) ⟨_, rfl⟩ (fun hb => ?_)
  refine zg_istore_n (L' := [(2, .int r2), (1, .int r1), (0, .ref (a 0))]) X dL_hangs_9 rfl (by decide) rfl ?_
  refine zg_aload_n X dL_hangs_10 rfl 2 rfl ?_
  obtain ⟨r3, hr3, hf⟩ := pl_b hf
  refine zg_t10 (v' := v0) X (zg_runV X (zt_X7_segments G a hb v0 fu r3 hr3) gL_hangs_X7_segments rfl zh_X7_segments ⟨rfl, rfl⟩ ⟨Nat.le_of_ble_eq_true rfl, Nat.le_of_ble_eq_true rfl⟩ rfl rfl rfl (Nat.le_of_ble_eq_true rfl) ⟨(show 0 + 0 ≤ 1506 by omega), (show 0 + 0 ≤ 9036 by omega)⟩ zI1 zT_nd zT_ix rfl dL_hangs_11) ⟨_, rfl⟩ (fun hb => ?_)
  refine zg_istore_n (L' := [(3, .int r3), (2, .int r2), (1, .int r1), (0, .ref (a 0))]) X dL_hangs_14 rfl (by decide) rfl ?_
  refine zg_iload_n X dL_hangs_15 rfl 2 rfl ?_
  refine zg_if_lt (tgt := 75) X dL_hangs_16 (by decide) (fun c4 => ?_) (fun c4 => ?_)
  · have hf := pl_t c4 hf
    refine zg_loc [3, 2, 1, 0] rfl ?_
    exact hB75 hb 0 0 r1 r2 r3 (by omega) (by omega) hf
  · have hf := pl_f c4 hf
    refine zg_iload_n X dL_hangs_19 rfl 2 rfl ?_
    refine zg_aload_n X dL_hangs_20 rfl 3 rfl ?_
    obtain ⟨r5, hr5, hf⟩ := pl_b hf
    refine zg_t10 (v' := v0) X (zg_runV X (zt_X7_sent G a hb v0 fu r5 hr5) gL_hangs_X7_sent rfl zh_X7_sent ⟨rfl, rfl⟩ ⟨Nat.le_of_ble_eq_true rfl, Nat.le_of_ble_eq_true rfl⟩ rfl rfl rfl (Nat.le_of_ble_eq_true rfl) ⟨(show 0 + 0 ≤ 1506 by omega), (show 0 + 0 ≤ 9036 by omega)⟩ zI1 zT_nd zT_ix rfl dL_hangs_21) ⟨_, rfl⟩ (fun hb => ?_)
    refine zg_icmp_gt (tgt := 75) X dL_hangs_24 (by decide) (fun c6 => ?_) (fun c6 => ?_)
    · have hf := pl_t c6 hf
      refine zg_loc [3, 2, 1, 0] rfl ?_
      exact hB75 hb 0 0 r1 r2 r3 (by omega) (by omega) hf
    · have hf := pl_f c6 hf
      refine zg_aload_n X dL_hangs_27 rfl 3 rfl ?_
      obtain ⟨r7, hr7, hf⟩ := pl_b hf
      refine zg_t10 (v' := v0) X (zg_runV X (zt_X7_sent G a hb v0 fu r7 hr7) gL_hangs_X7_sent rfl zh_X7_sent ⟨rfl, rfl⟩ ⟨Nat.le_of_ble_eq_true rfl, Nat.le_of_ble_eq_true rfl⟩ rfl rfl rfl (Nat.le_of_ble_eq_true rfl) ⟨(show 0 + 0 ≤ 1506 by omega), (show 0 + 0 ≤ 9036 by omega)⟩ zI1 zT_nd zT_ix rfl dL_hangs_28) ⟨_, rfl⟩ (fun hb => ?_)
      refine zg_sipush (v := 200) X dL_hangs_31 (by decide) ?_
      refine zg_icmp_gt (tgt := 75) X dL_hangs_34 (by decide) (fun c8 => ?_) (fun c8 => ?_)
      · have hf := pl_t c8 hf
        refine zg_loc [3, 2, 1, 0] rfl ?_
        exact hB75 hb 0 0 r1 r2 r3 (by omega) (by omega) hf
      · have hf := pl_f c8 hf
        refine zg_aload_n X dL_hangs_37 rfl 3 rfl ?_
        obtain ⟨r9, hr9, hf⟩ := pl_b hf
        refine zg_t10 (v' := v0) X (zg_runV X (zt_X7_words G a hb v0 fu r9 hr9) gL_hangs_X7_words rfl zh_X7_words ⟨rfl, rfl⟩ ⟨Nat.le_of_ble_eq_true rfl, Nat.le_of_ble_eq_true rfl⟩ rfl rfl rfl (Nat.le_of_ble_eq_true rfl) ⟨(show 0 + 0 ≤ 1506 by omega), (show 0 + 0 ≤ 9036 by omega)⟩ zI1 zT_nd zT_ix rfl dL_hangs_38) ⟨_, rfl⟩ (fun hb => ?_)
        refine zg_if_lt (tgt := 75) X dL_hangs_41 (by decide) (fun c10 => ?_) (fun c10 => ?_)
        · have hf := pl_t c10 hf
          refine zg_loc [3, 2, 1, 0] rfl ?_
          exact hB75 hb 0 0 r1 r2 r3 (by omega) (by omega) hf
        · have hf := pl_f c10 hf
          refine zg_aload_n X dL_hangs_44 rfl 3 rfl ?_
          obtain ⟨r11, hr11, hf⟩ := pl_b hf
          refine zg_t10 (v' := v0) X (zg_runV X (zt_X7_words G a hb v0 fu r11 hr11) gL_hangs_X7_words rfl zh_X7_words ⟨rfl, rfl⟩ ⟨Nat.le_of_ble_eq_true rfl, Nat.le_of_ble_eq_true rfl⟩ rfl rfl rfl (Nat.le_of_ble_eq_true rfl) ⟨(show 0 + 0 ≤ 1506 by omega), (show 0 + 0 ≤ 9036 by omega)⟩ zI1 zT_nd zT_ix rfl dL_hangs_45) ⟨_, rfl⟩ (fun hb => ?_)
          refine zg_bipush (v := 20) X dL_hangs_48 (by decide) ?_
          refine zg_icmp_gt (tgt := 75) X dL_hangs_50 (by decide) (fun c12 => ?_) (fun c12 => ?_)
          · have hf := pl_t c12 hf
            refine zg_loc [3, 2, 1, 0] rfl ?_
            exact hB75 hb 0 0 r1 r2 r3 (by omega) (by omega) hf
          · have hf := pl_f c12 hf
            refine zg_iload_n X dL_hangs_53 rfl 1 rfl ?_
            refine zg_if_lt (tgt := 75) X dL_hangs_54 (by decide) (fun c13 => ?_) (fun c13 => ?_)
            · have hf := pl_t c13 hf
              refine zg_loc [3, 2, 1, 0] rfl ?_
              exact hB75 hb 0 0 r1 r2 r3 (by omega) (by omega) hf
            · have hf := pl_f c13 hf
              refine zg_iload_n X dL_hangs_57 rfl 1 rfl ?_
              refine zg_iload_n X dL_hangs_58 rfl 2 rfl ?_
              refine zg_icmp_gt (tgt := 75) X dL_hangs_59 (by decide) (fun c14 => ?_) (fun c14 => ?_)
              · have hf := pl_t c14 hf
                refine zg_loc [3, 2, 1, 0] rfl ?_
                exact hB75 hb 0 0 r1 r2 r3 (by omega) (by omega) hf
              · have hf := pl_f c14 hf
                refine zg_iload_n X dL_hangs_62 rfl 0 rfl ?_
                refine zg_if_lt (tgt := 75) X dL_hangs_63 (by decide) (fun c15 => ?_) (fun c15 => ?_)
                · have hf := pl_t c15 hf
                  refine zg_loc [3, 2, 1, 0] rfl ?_
                  exact hB75 hb 0 0 r1 r2 r3 (by omega) (by omega) hf
                · have hf := pl_f c15 hf
                  refine zg_iload_n X dL_hangs_66 rfl 0 rfl ?_
                  refine zg_iload_n X dL_hangs_67 rfl 2 rfl ?_
                  refine zg_icmp_gt (tgt := 75) X dL_hangs_68 (by decide) (fun c16 => ?_) (fun c16 => ?_)
                  · have hf := pl_t c16 hf
                    refine zg_loc [3, 2, 1, 0] rfl ?_
                    exact hB75 hb 0 0 r1 r2 r3 (by omega) (by omega) hf
                  · have hf := pl_f c16 hf
                    refine zg_iconst (v := 1) X dL_hangs_71 (by decide) ?_
                    refine zg_goto (tgt := 76) X dL_hangs_72 (by decide) ?_
                    refine zg_loc [3, 2, 1, 0] rfl ?_
                    exact hB76 hb 0 0 r1 r2 r3 1 (by omega) (by omega) hf
