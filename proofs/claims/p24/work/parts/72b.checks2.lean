def lU17 : U := mkU [2, 0, 0, 0, 0, 0, 0, 0, 0, 0, 3062541302605358821245875561333799256084000, 0, 0, 0, 0, 0, 0]
theorem lU17k : lOk lU17 2 999 := lOk_of (by decide +kernel)
set_option maxRecDepth 100000 in
theorem ck_re_10 : lU0 11 0 = 0 := by decide +kernel
set_option maxRecDepth 100000 in
theorem ck_re_10e : eqU (jSA lU0 (2 : Int32).toNatClampNeg) lU17 = true := by decide +kernel
def lU18 : U := mkU [2, 0, 0, 0, 0, 0, 0, 0, 0, 0, 3062541302605358821245875561333812140985888, 0, 0, 0, 0, 0, 0]
theorem lU18k : lOk lU18 2 999 := lOk_of (by decide +kernel)
set_option maxRecDepth 100000 in
theorem ck_re_19 : lU17 10 (1 : Int32).toNatClampNeg = 0 := by decide +kernel
set_option maxRecDepth 100000 in
theorem ck_re_19e : eqU (va_up lU17 10 (upd (lU17 10) (1 : Int32).toNatClampNeg (3 : Int32))) lU18 = true := by decide +kernel
set_option maxRecDepth 100000 in
theorem ck_re_28 : jCount (fun _ => lU18) (6 : Int32) = 1 := by decide +kernel
set_option maxRecDepth 100000 in
theorem ck_re_37 : jMdd lU18 (5 : Int32) = (-2000004) := by decide +kernel
set_option maxRecDepth 100000 in
theorem ck_re_49h : jHB (lU18 11 0) (lU18 10 1) 1 ≤ 999 := by decide +kernel
def lU19 : U := mkU [2, 4294967296500, 0, 0, 1500, 0, 0, 0, 0, 0, 3062541302605358821245875561333812140985888, 2, 1, 2147483649000, 18446744069414584320, 0, 0]
theorem lU19k : lOk lU19 2 999 := lOk_of (by decide +kernel)
set_option maxRecDepth 100000 in
theorem ck_re_49 : jTI lU18 (500 : Int32) 2 1 11 0 - lU18 11 0 = 2 := by decide +kernel
set_option maxRecDepth 100000 in
theorem ck_re_49e : eqU (jTI lU18 (500 : Int32) 2 1) lU19 = true := by decide +kernel
set_option maxRecDepth 100000 in
theorem ck_re_58 : jCount (fun _ => lU19) (5 : Int32) = 1 := by decide +kernel
set_option maxRecDepth 100000 in
theorem ck_re_67 : jCount (fun _ => lU19) (3 : Int32) = 1 := by decide +kernel
set_option maxRecDepth 100000 in
theorem ck_re_77 : jCount (fun _ => lU19) (6 : Int32) = 0 := by decide +kernel
set_option maxRecDepth 100000 in
theorem ck_re_87h : jHB (lU19 11 0) (lU19 10 1) 1 ≤ 999 := by decide +kernel
def lU20 : U := mkU [2, 2147483648600, 0, 0, 2100, 1000, 0, 0, 1000, 1000, 3062541302605358821245875561333812140985888, 3, 1, 11068046446373214618600, 79228162514264337589248983040, 18446744073709551616000, 18446744073709551616000]
theorem lU20k : lOk lU20 2 999 := lOk_of (by decide +kernel)
set_option maxRecDepth 100000 in
theorem ck_re_87 : jTI lU19 (600 : Int32) 2 1 11 0 - lU19 11 0 = 1 := by decide +kernel
set_option maxRecDepth 100000 in
theorem ck_re_87e : eqU (jTI lU19 (600 : Int32) 2 1) lU20 = true := by decide +kernel
set_option maxRecDepth 100000 in
theorem ck_re_107_0 : jOuR lU20 (0 : Int32) 0 (qHh lU20) 2 = 2 := by decide +kernel
set_option maxRecDepth 100000 in
theorem ck_re_107_1 : jOuR lU20 (0 : Int32) 1 (qHh lU20) 2 = 1000 := by decide +kernel
set_option maxRecDepth 100000 in
theorem ck_re_107_2 : jOuR lU20 (0 : Int32) 2 (qHh lU20) 2 = 1000 := by decide +kernel
set_option maxRecDepth 100000 in
theorem ck_re_107_3 : jOuR lU20 (0 : Int32) 3 (qHh lU20) 2 = 1000 := by decide +kernel
set_option maxRecDepth 100000 in
theorem ck_re_107_4 : jOuR lU20 (0 : Int32) 4 (qHh lU20) 2 = 1 := by decide +kernel
set_option maxRecDepth 100000 in
theorem ck_re_107_5 : jOuR lU20 (0 : Int32) 5 (qHh lU20) 2 = (if (1000 : Int32) < 0 then 1000 else 1000) - 1000 := by decide +kernel
set_option maxRecDepth 100000 in
theorem ck_re_115 : jCount (fun _ => lU20) (4 : Int32) = 1 := by decide +kernel
set_option maxRecDepth 100000 in
theorem ck_re_125 : jPrO lU20 (0 : Int32) (0 : Int32) 8 9 = 1000 := by decide +kernel
set_option maxRecDepth 100000 in
theorem ck_re_137 : jPrO lU20 (0 : Int32) (1 : Int32) 8 9 = 1000 := by decide +kernel
set_option maxRecDepth 100000 in
theorem ck_re_149 : jPrO lU20 (1 : Int32) (0 : Int32) 8 9 = (-2000004) := by decide +kernel
set_option maxRecDepth 100000 in
theorem ck_re_160 : jCount (fun _ => lU20) (6 : Int32) = 1 := by decide +kernel
set_option maxRecDepth 100000 in
theorem cf_lU20 : ¬ nI (jErN lU20 (lU20 11 0).toNatClampNeg 2 (jKp (lU20 11 0).toNatClampNeg 2)) = 0 → fOk (jErF lU20 (lU20 11 0).toNatClampNeg 2 (jKp (lU20 11 0).toNatClampNeg 2)) := fun h => absurd (show nI (jErN lU20 (lU20 11 0).toNatClampNeg 2 (jKp (lU20 11 0).toNatClampNeg 2)) = 0 by decide +kernel) h
set_option maxRecDepth 100000 in
theorem ck_re_169 : jErsR lU20 (0 : Int32) (lU20 11 0).toNatClampNeg 2 = 0 := by decide +kernel
set_option maxRecDepth 100000 in
theorem ck_re_181h : jHB (lU20 11 0) (lU20 10 1) 1 ≤ 999 := by decide +kernel
def lU21 : U := mkU [2, 17179869184700, 0, 0, 6800, 2100, 0, 0, 1000, 1000, 3062541302605358821245875561333812140985888, 5, 2, 238197657161569574492487622022786763981800, 1461501636990620551441202694281437087406957264896, 204169420192177159353603677329542453657600, 204169420192177159353603677329542453657600]
theorem lU21k : lOk lU21 2 999 := lOk_of (by decide +kernel)
set_option maxRecDepth 100000 in
theorem ck_re_181 : jTI lU20 (700 : Int32) 2 1 11 0 - lU20 11 0 = 2 := by decide +kernel
set_option maxRecDepth 100000 in
theorem ck_re_181e : eqU (jTI lU20 (700 : Int32) 2 1) lU21 = true := by decide +kernel
set_option maxRecDepth 100000 in
theorem ck_re_201_0 : jOuR lU21 (0 : Int32) 0 (qHh lU21) 2 = 4 := by decide +kernel
set_option maxRecDepth 100000 in
theorem ck_re_201_1 : jOuR lU21 (0 : Int32) 1 (qHh lU21) 2 = 600 := by decide +kernel
set_option maxRecDepth 100000 in
theorem ck_re_201_2 : jOuR lU21 (0 : Int32) 2 (qHh lU21) 2 = 600 := by decide +kernel
set_option maxRecDepth 100000 in
theorem ck_re_201_3 : jOuR lU21 (0 : Int32) 3 (qHh lU21) 2 = 600 := by decide +kernel
set_option maxRecDepth 100000 in
theorem ck_re_201_4 : jOuR lU21 (0 : Int32) 4 (qHh lU21) 2 = 0 := by decide +kernel
set_option maxRecDepth 100000 in
theorem ck_re_201_5 : jOuR lU21 (0 : Int32) 5 (qHh lU21) 2 = (if (600 : Int32) < 0 then 600 else 600) - 600 := by decide +kernel
set_option maxRecDepth 100000 in
theorem ck_re_220_0 : jOuR lU21 (1 : Int32) 0 (qHh lU21) 2 = 3 := by decide +kernel
set_option maxRecDepth 100000 in
theorem ck_re_220_1 : jOuR lU21 (1 : Int32) 1 (qHh lU21) 2 = 500 := by decide +kernel
set_option maxRecDepth 100000 in
theorem ck_re_220_2 : jOuR lU21 (1 : Int32) 2 (qHh lU21) 2 = 500 := by decide +kernel
set_option maxRecDepth 100000 in
theorem ck_re_220_3 : jOuR lU21 (1 : Int32) 3 (qHh lU21) 2 = 500 := by decide +kernel
set_option maxRecDepth 100000 in
theorem ck_re_220_4 : jOuR lU21 (1 : Int32) 4 (qHh lU21) 2 = 0 := by decide +kernel
set_option maxRecDepth 100000 in
theorem ck_re_220_5 : jOuR lU21 (1 : Int32) 5 (qHh lU21) 2 = (if (500 : Int32) < 0 then 500 else 500) - 500 := by decide +kernel
set_option maxRecDepth 100000 in
theorem ck_re_228 : jCount (fun _ => lU21) (5 : Int32) = 2 := by decide +kernel
set_option maxRecDepth 100000 in
theorem ck_re_239 : jMdd lU21 (1500 : Int32) = 1500 := by decide +kernel
set_option maxRecDepth 100000 in
theorem ck_re_250 : jMdd lU21 (0 : Int32) = 0 := by decide +kernel
set_option maxRecDepth 100000 in
theorem ck_re_258h : jHB (lU21 11 0) (lU21 10 1) 1 ≤ 999 := by decide +kernel
def lU22 : U := mkU [2, 3006477107201, 0, 0, 6801, 6100, 0, 0, 17179869185000, 17179869185000, 3062541302605358821245875561333812140985888, 6, 2, 1461501875528560079773259325203905042442696524776, 6277101735386680763495507056445184277667509512215059234816, 5846006549527781093006916490218735755953272625561600, 5846006549527781093006916490218735755953272625561600]
theorem lU22k : lOk lU22 2 999 := lOk_of (by decide +kernel)
set_option maxRecDepth 100000 in
theorem ck_re_258 : jTI lU21 (1 : Int32) 2 1 11 0 - lU21 11 0 = 1 := by decide +kernel
set_option maxRecDepth 100000 in
theorem ck_re_258e : eqU (jTI lU21 (1 : Int32) 2 1) lU22 = true := by decide +kernel
set_option maxRecDepth 100000 in
theorem ck_re_268 : jPrO lU22 (1 : Int32) (0 : Int32) 8 9 = 4000 := by decide +kernel
set_option maxRecDepth 100000 in
theorem ck_re_279 : jCount (fun _ => lU22) (4 : Int32) = 2 := by decide +kernel
set_option maxRecDepth 100000 in
theorem ck_re_290 : jMdd lU22 (2500 : Int32) = 2500 := by decide +kernel
set_option maxRecDepth 100000 in
theorem ck_re_303 : jMdd lU22 (5000 : Int32) = 5000 := by decide +kernel
set_option maxRecDepth 100000 in
theorem ck_re_315 : jMdd lU22 (7 : Int32) = 7 := by decide +kernel
set_option maxRecDepth 100000 in
theorem ck_re_346h : ¬ jHas (0 : Int32) (lU17 0 0) = 0 := by decide +kernel
def lU23 : U := mkU [2, 0, 100, 0, 0, 0, 0, 0, 0, 0, 3062541302605358821245875561333799256084000, 0, 0, 0, 0, 0, 0]
theorem lU23k : lOk lU23 2 999 := lOk_of (by decide +kernel)
set_option maxRecDepth 100000 in
theorem ck_re_346 : 1000 * lU17 2 (0 : Int32).toNatClampNeg + lU17 3 (0 : Int32).toNatClampNeg = 0 := by decide +kernel
set_option maxRecDepth 100000 in
theorem ck_re_346e : eqU (stMix (jCS lU17 (0 : Int32).toNatClampNeg (100 : Int32) (0 : Int32)) lU17) lU23 = true := by decide +kernel
def lU24 : U := mkU [2, 0, 100, 0, 0, 0, 0, 0, 0, 0, 3062541302605358821245875561333812140985888, 0, 0, 0, 0, 0, 0]
theorem lU24k : lOk lU24 2 999 := lOk_of (by decide +kernel)
set_option maxRecDepth 100000 in
theorem ck_re_355 : lU23 10 (1 : Int32).toNatClampNeg = 0 := by decide +kernel
set_option maxRecDepth 100000 in
theorem ck_re_355e : eqU (va_up lU23 10 (upd (lU23 10) (1 : Int32).toNatClampNeg (3 : Int32))) lU24 = true := by decide +kernel
set_option maxRecDepth 100000 in
theorem ck_re_363h : jHB (lU24 11 0) (lU24 10 1) 1 ≤ 999 := by decide +kernel
def lU25 : U := mkU [2, 3865470566500, 100, 0, 1000, 0, 0, 0, 0, 0, 3062541302605358821245875561333812140985888, 2, 1, 1000, 18446744069414584320, 0, 0]
theorem lU25k : lOk lU25 2 999 := lOk_of (by decide +kernel)
set_option maxRecDepth 100000 in
theorem ck_re_363 : jTI lU24 (0 : Int32) 2 1 11 0 - lU24 11 0 = 2 := by decide +kernel
set_option maxRecDepth 100000 in
theorem ck_re_363e : eqU (jTI lU24 (0 : Int32) 2 1) lU25 = true := by decide +kernel
set_option maxRecDepth 100000 in
theorem ck_re_372h : jHB (lU25 11 0) (lU25 10 1) 1 ≤ 999 := by decide +kernel
def lU26 : U := mkU [2, 386547056650, 100, 0, 1000, 900, 0, 0, 900, 1000, 3062541302605358821245875561333812140985888, 3, 1, 1000, 79228162514264337589248983040, 16602069666338596454400, 18446744073709551616000]
theorem lU26k : lOk lU26 2 999 := lOk_of (by decide +kernel)
set_option maxRecDepth 100000 in
theorem ck_re_372 : jTI lU25 (0 : Int32) 2 1 11 0 - lU25 11 0 = 1 := by decide +kernel
set_option maxRecDepth 100000 in
theorem ck_re_372e : eqU (jTI lU25 (0 : Int32) 2 1) lU26 = true := by decide +kernel
set_option maxRecDepth 100000 in
theorem ck_re_382 : jPrO lU26 (0 : Int32) (0 : Int32) 8 9 = 900 := by decide +kernel
set_option maxRecDepth 100000 in
theorem ck_re_395 : jMdd lU26 (450 : Int32) = 500 := by decide +kernel
set_option maxRecDepth 100000 in
theorem ck_re_406 : jMdd lU26 (1 : Int32) = 1 := by decide +kernel
set_option maxRecDepth 100000 in
theorem ck_re_416 : jMdd lU26 (100000 : Int32) = 111111 := by decide +kernel
set_option maxRecDepth 100000 in
theorem ck_re_437_0 : jOuR lU26 (0 : Int32) 0 (qHh lU26) 2 = 2 := by decide +kernel
set_option maxRecDepth 100000 in
theorem ck_re_437_1 : jOuR lU26 (0 : Int32) 1 (qHh lU26) 2 = 1000 := by decide +kernel
set_option maxRecDepth 100000 in
theorem ck_re_437_2 : jOuR lU26 (0 : Int32) 2 (qHh lU26) 2 = 900 := by decide +kernel
set_option maxRecDepth 100000 in
theorem ck_re_437_3 : jOuR lU26 (0 : Int32) 3 (qHh lU26) 2 = 1000 := by decide +kernel
set_option maxRecDepth 100000 in
theorem ck_re_437_4 : jOuR lU26 (0 : Int32) 4 (qHh lU26) 2 = 1 := by decide +kernel
set_option maxRecDepth 100000 in
theorem ck_re_437_5 : jOuR lU26 (0 : Int32) 5 (qHh lU26) 2 = (if (1000 : Int32) < 0 then 900 else 1000) - 1000 := by decide +kernel
def lU27 : U := mkU [2, 0, 0, 0, 0, 0, 0, 0, 0, 0, 3062541302605358821227447264004163414019616, 0, 0, 0, 0, 0, 0]
theorem lU27k : lOk lU27 2 999 := lOk_of (by decide +kernel)
set_option maxRecDepth 100000 in
theorem ck_re_464 : lU17 10 (2 : Int32).toNatClampNeg = 1000 := by decide +kernel
set_option maxRecDepth 100000 in
theorem ck_re_464e : eqU (va_up lU17 10 (upd (lU17 10) (2 : Int32).toNatClampNeg (1 : Int32))) lU27 = true := by decide +kernel
def lU28 : U := mkU [2, 0, 0, 0, 0, 0, 0, 0, 0, 0, 3062541302605358821227447264004214953627168, 0, 0, 0, 0, 0, 0]
theorem lU28k : lOk lU28 2 999 := lOk_of (by decide +kernel)
set_option maxRecDepth 100000 in
theorem ck_re_477 : lU27 10 (1 : Int32).toNatClampNeg = 0 := by decide +kernel
set_option maxRecDepth 100000 in
theorem ck_re_477e : eqU (va_up lU27 10 (upd (lU27 10) (1 : Int32).toNatClampNeg (12 : Int32))) lU28 = true := by decide +kernel
set_option maxRecDepth 100000 in
theorem ck_re_485h : jHB (lU28 11 0) (lU28 10 1) 1 ≤ 999 := by decide +kernel
def lU29 : U := mkU [2, 4294967299, 0, 0, 4, 0, 0, 0, 0, 0, 3062541302605358821227447264004214953627168, 2, 1, 12884901889, 18446744069414584320, 0, 0]
theorem lU29k : lOk lU29 2 999 := lOk_of (by decide +kernel)
set_option maxRecDepth 100000 in
theorem ck_re_485 : jTI lU28 (3 : Int32) 2 1 11 0 - lU28 11 0 = 2 := by decide +kernel
set_option maxRecDepth 100000 in
theorem ck_re_485e : eqU (jTI lU28 (3 : Int32) 2 1) lU29 = true := by decide +kernel
set_option maxRecDepth 100000 in
theorem ck_re_494h : jHB (lU29 11 0) (lU29 10 1) 1 ≤ 999 := by decide +kernel
def lU30 : U := mkU [2, 12884901888, 0, 0, 4, 1, 0, 0, 1, 1, 3062541302605358821227447264004214953627168, 3, 1, 12884901889, 79228162514264337589248983040, 18446744073709551616, 18446744073709551616]
theorem lU30k : lOk lU30 2 999 := lOk_of (by decide +kernel)
set_option maxRecDepth 100000 in
theorem ck_re_494 : jTI lU29 (0 : Int32) 2 1 11 0 - lU29 11 0 = 1 := by decide +kernel
set_option maxRecDepth 100000 in
theorem ck_re_494e : eqU (jTI lU29 (0 : Int32) 2 1) lU30 = true := by decide +kernel
set_option maxRecDepth 100000 in
theorem ck_re_504 : jPrO lU30 (0 : Int32) (0 : Int32) 8 9 = 1 := by decide +kernel
set_option maxRecDepth 100000 in
theorem ck_re_514 : jPrO lU30 (0 : Int32) (1 : Int32) 8 9 = 1 := by decide +kernel
set_option maxRecDepth 100000 in
theorem ck_re_524 : jMdd lU30 (77 : Int32) = 77 := by decide +kernel
def lU31 : U := mkU [2, 0, 0, 0, 0, 0, 0, 0, 0, 0, 3062541302605358821245875561333799256065000, 0, 0, 0, 0, 0, 0]
theorem lU31k : lOk lU31 2 999 := lOk_of (by decide +kernel)
set_option maxRecDepth 100000 in
theorem ck_re_555 : lU17 10 (0 : Int32).toNatClampNeg = 20000 := by decide +kernel
set_option maxRecDepth 100000 in
theorem ck_re_555e : eqU (va_up lU17 10 (upd (lU17 10) (0 : Int32).toNatClampNeg (1000 : Int32))) lU31 = true := by decide +kernel
def lU32 : U := mkU [2, 0, 0, 0, 0, 0, 0, 0, 0, 0, 3062541302605358821411896257997185220609000, 0, 0, 0, 0, 0, 0]
theorem lU32k : lOk lU32 2 999 := lOk_of (by decide +kernel)
set_option maxRecDepth 100000 in
theorem ck_re_569 : lU31 10 (2 : Int32).toNatClampNeg = 1000 := by decide +kernel
set_option maxRecDepth 100000 in
theorem ck_re_569e : eqU (va_up lU31 10 (upd (lU31 10) (2 : Int32).toNatClampNeg (10000 : Int32))) lU32 = true := by decide +kernel
set_option maxRecDepth 100000 in
theorem ck_re_584h : ¬ jHas (0 : Int32) (lU32 0 0) = 0 := by decide +kernel
def lU33 : U := mkU [2, 0, 0, 300, 0, 0, 0, 0, 0, 0, 3062541302605358821411896257997185220609000, 0, 0, 0, 0, 0, 0]
theorem lU33k : lOk lU33 2 999 := lOk_of (by decide +kernel)
set_option maxRecDepth 100000 in
theorem ck_re_584 : 1000 * lU32 2 (0 : Int32).toNatClampNeg + lU32 3 (0 : Int32).toNatClampNeg = 0 := by decide +kernel
set_option maxRecDepth 100000 in
theorem ck_re_584e : eqU (stMix (jCS lU32 (0 : Int32).toNatClampNeg (0 : Int32) (300 : Int32)) lU32) lU33 = true := by decide +kernel
def lU34 : U := mkU [2, 0, 0, 300, 0, 0, 0, 0, 0, 0, 3062541302605358821411896257997236760216552, 0, 0, 0, 0, 0, 0]
theorem lU34k : lOk lU34 2 999 := lOk_of (by decide +kernel)
set_option maxRecDepth 100000 in
theorem ck_re_594 : lU33 10 (1 : Int32).toNatClampNeg = 0 := by decide +kernel
set_option maxRecDepth 100000 in
theorem ck_re_594e : eqU (va_up lU33 10 (upd (lU33 10) (1 : Int32).toNatClampNeg (12 : Int32))) lU34 = true := by decide +kernel
set_option maxRecDepth 100000 in
theorem ck_re_602h : jHB (lU34 11 0) (lU34 10 1) 1 ≤ 999 := by decide +kernel
def lU35 : U := mkU [2, 3006477107200, 0, 300, 10000, 0, 300, 9000, 0, 0, 3062541302605358821411896257997236760216552, 2, 1, 10000, 18446744069414584320, 0, 0]
theorem lU35k : lOk lU35 2 999 := lOk_of (by decide +kernel)
set_option maxRecDepth 100000 in
theorem ck_re_602 : jTI lU34 (0 : Int32) 2 1 11 0 - lU34 11 0 = 2 := by decide +kernel
set_option maxRecDepth 100000 in
theorem ck_re_602e : eqU (jTI lU34 (0 : Int32) 2 1) lU35 = true := by decide +kernel
set_option maxRecDepth 100000 in
theorem ck_re_611h : jHB (lU35 11 0) (lU35 10 1) 1 ≤ 999 := by decide +kernel
def lU36 : U := mkU [2, 0, 0, 300, 10000, 700, 300, 9000, 700, 10000, 3062541302605358821411896257997236760216552, 3, 1, 10000, 79228162514264337589248983040, 12912720851596686131200, 184467440737095516160000]
theorem lU36k : lOk lU36 2 999 := lOk_of (by decide +kernel)
set_option maxRecDepth 100000 in
theorem ck_re_611 : jTI lU35 (0 : Int32) 2 1 11 0 - lU35 11 0 = 1 := by decide +kernel
set_option maxRecDepth 100000 in
theorem ck_re_611e : eqU (jTI lU35 (0 : Int32) 2 1) lU36 = true := by decide +kernel
set_option maxRecDepth 100000 in
theorem ck_re_621 : jPrO lU36 (0 : Int32) (0 : Int32) 8 9 = 700 := by decide +kernel
set_option maxRecDepth 100000 in
theorem ck_re_633 : jPrO lU36 (0 : Int32) (1 : Int32) 8 9 = 10000 := by decide +kernel
set_option maxRecDepth 100000 in
theorem ck_re_645 : jMdd lU36 (100000 : Int32) = 1000000 := by decide +kernel
set_option maxRecDepth 100000 in
theorem ck_re_656 : jMdd lU36 (69999 : Int32) = 999985 := by decide +kernel
set_option maxRecDepth 100000 in
theorem ck_re_677_0 : jOuR lU36 (0 : Int32) 0 (qHh lU36) 2 = 2 := by decide +kernel
set_option maxRecDepth 100000 in
theorem ck_re_677_1 : jOuR lU36 (0 : Int32) 1 (qHh lU36) 2 = 10000 := by decide +kernel
set_option maxRecDepth 100000 in
theorem ck_re_677_2 : jOuR lU36 (0 : Int32) 2 (qHh lU36) 2 = 700 := by decide +kernel
set_option maxRecDepth 100000 in
theorem ck_re_677_3 : jOuR lU36 (0 : Int32) 3 (qHh lU36) 2 = 10000 := by decide +kernel
set_option maxRecDepth 100000 in
theorem ck_re_677_4 : jOuR lU36 (0 : Int32) 4 (qHh lU36) 2 = 1 := by decide +kernel
set_option maxRecDepth 100000 in
theorem ck_re_677_5 : jOuR lU36 (0 : Int32) 5 (qHh lU36) 2 = (if (10000 : Int32) < 0 then 700 else 10000) - 10000 := by decide +kernel
def lU37 : U := mkU [2, 12884901888, 0, 0, 4, 1, 0, 0, 1, 1, 3062541302605358821227594837956804630040096, 3, 1, 12884901889, 79228162514264337589248983040, 18446744073709551616, 18446744073709551616]
theorem lU37k : lOk lU37 2 999 := lOk_of (by decide +kernel)
set_option maxRecDepth 100000 in
theorem ck_re_689 : lU30 10 (2 : Int32).toNatClampNeg = 1 := by decide +kernel
set_option maxRecDepth 100000 in
theorem ck_re_689e : eqU (va_up lU30 10 (upd (lU30 10) (2 : Int32).toNatClampNeg (9 : Int32))) lU37 = true := by decide +kernel
set_option maxRecDepth 100000 in
theorem ck_re_699 : jPrO lU37 (0 : Int32) (1 : Int32) 8 9 = 1 := by decide +kernel
