set_option maxRecDepth 100000 in
theorem ck_te_6 : fOkB 0 0 = true := by decide +kernel
set_option maxRecDepth 100000 in
theorem ck_te_19 : fBadB 115 0 0 1 1 = true := by decide +kernel
set_option maxRecDepth 100000 in
theorem ck_te_33 : fOkB 7550267 0 = true := by decide +kernel
set_option maxRecDepth 100000 in
theorem ck_te_46 : fBadB 32423705358381371 0 0 3 0 = true := by decide +kernel
set_option maxRecDepth 100000 in
theorem ck_te_60 : fOkB 32423705358381115 0 = true := by decide +kernel
set_option maxRecDepth 100000 in
theorem ck_te_74 : fBadB 8300470783721158203 0 0 1 6 = true := by decide +kernel
set_option maxRecDepth 100000 in
theorem ck_te_87 : fBadB 30779 0 0 1 0 = true := by decide +kernel
set_option maxRecDepth 100000 in
theorem ck_te_100 : fBadB 1932868467 0 3 1 1 = true := by decide +kernel
set_option maxRecDepth 100000 in
theorem ck_te_113 : fBadB 29499 0 0 1 1 = true := by decide +kernel
set_option maxRecDepth 100000 in
theorem ck_te_126 : fBadB 7550252 0 0 1 2 = true := by decide +kernel
set_option maxRecDepth 100000 in
theorem ck_te_142 : fBadB 30456661876158523 0 0 2 (-2000004) = true := by decide +kernel
set_option maxRecDepth 100000 in
theorem ck_te_158 : fBadB 7796905440296775729 59 0 2 (-2000004) = true := by decide +kernel
set_option maxRecDepth 100000 in
theorem ck_te_174 : fOkB 7796623978271878195 59 = true := by decide +kernel
set_option maxRecDepth 100000 in
theorem ck_te_189 : fBadB 7795779553341811760 59 0 3 1 = true := by decide +kernel
set_option maxRecDepth 100000 in
theorem ck_te_204 : fBadB 7795779540389933105 59 0 3 2 = true := by decide +kernel
set_option maxRecDepth 100000 in
theorem ck_te_217 : fBadB 7795785020834852923 0 0 1 2 = true := by decide +kernel
set_option maxRecDepth 100000 in
theorem ck_te_230 : fBadB 464664670267 0 0 1 4 = true := by decide +kernel
set_option maxRecDepth 100000 in
theorem ck_te_243 : fBadB 1815096373 0 0 1 4 = true := by decide +kernel
set_option maxRecDepth 100000 in
theorem ck_te_259 : fOkB 8300187096769182572 3471202396337353275 = true := by decide +kernel
set_option maxRecDepth 100000 in
theorem ck_te_272 : fBadB 1932868384 0 3 1 0 = true := by decide +kernel
def tT0 : U := mkU [1294077440299423186571182756393933900645663580933599558368731317928044, 8, 0, 0, 0, 0, 0, 0, 0]
set_option maxRecDepth 100000 in
theorem ck_te_292 : tyB 7796061024023489584 (jTx0, 0) 8 = true := by decide +kernel
set_option maxRecDepth 100000 in
theorem ck_te_292e : eqT (tyP 7796061024023489584 8 (jTx0, 0)).1 tT0 = true := by decide +kernel
def tT1 : U := mkU [359001083329222591350447543715010100908269475975007364186619740498563900776832283371962112779929166407575064655771706272102568353638445694920425580, 16, 0, 0, 0, 0, 0, 0, 0]
set_option maxRecDepth 100000 in
theorem ck_te_302 : tyB 4283821753596132211 (tT0, 8) 8 = true := by decide +kernel
set_option maxRecDepth 100000 in
theorem ck_te_302e : eqT (tyP 4283821753596132211 8 (tT0, 8)).1 tT1 = true := by decide +kernel
def tT2 : U := mkU [269183996490698765238681762383322257112977856757860166485120757620925957144243586102788247024477875583396665864705429517623010515029872231356459567389774221836589067182796382741153737757306126444, 21, 0, 0, 0, 0, 0, 0, 0]
set_option maxRecDepth 100000 in
theorem ck_te_312 : tyB 207155834939 (tT1, 16) 8 = true := by decide +kernel
set_option maxRecDepth 100000 in
theorem ck_te_312e : eqT (tyP 207155834939 8 (tT1, 16)).1 tT2 = true := by decide +kernel
def lU38 : U := mkU [4, 14757395259826634752000, 858993459200, 0, 1000, 0, 0, 0, 0, 0, 3062541302605358821245875561333799256084000, 3, 0, 1000, 79228162514264337593543950335, 0, 0]
theorem lU38k : lOk lU38 4 999 := lOk_of (by decide +kernel)
def tT3 : U := mkU [269183996490698765238681762383322257112977856757860166485120757620925957144243586102788247024477875583396665864705429517623010515029872231356459567389774221836589067182796382741153737757306126444, 21, 4, 3, 21, 115, 858993459200, 0, 4292967292]
set_option maxRecDepth 100000 in
theorem ck_te_319s : (jScn tT2 21 (lU0 0 0)).2 = -2000004 := by decide +kernel
set_option maxRecDepth 100000 in
theorem ck_te_319h : jHB (lU0 11 0) (lU0 10 1) (pCn (tT2 0) 115 0 21) ≤ 999 := by decide +kernel
set_option maxRecDepth 100000 in
theorem ck_te_319 : nI (pCn (tT2 0) 59 0 21) = 4 := by decide +kernel
set_option maxRecDepth 100000 in
theorem ck_te_319e : eqU (jPl 21 4 (lU0 0 0) (pCn (tT2 0) 59 0 21) lU0 (jScn tT2 21 (lU0 0 0)).1 0).1 lU38 = true := by decide +kernel
set_option maxRecDepth 100000 in
theorem ck_te_319t : eqT (jPl 21 4 (lU0 0 0) (pCn (tT2 0) 59 0 21) lU0 (jScn tT2 21 (lU0 0 0)).1 0).2 tT3 = true := by decide +kernel
set_option maxRecDepth 100000 in
theorem ck_te_339 : tT3 1 0 = 21 := by decide +kernel
set_option maxRecDepth 100000 in
theorem ck_te_349 : jCount (fun _ => lU38) (1 : Int32) = 3 := by decide +kernel
set_option maxRecDepth 100000 in
theorem ck_te_359 : jStO lU38 (1 : Int32) (0 : Int32) = 200 := by decide +kernel
set_option maxRecDepth 100000 in
theorem ck_te_371 : jStO lU38 (2 : Int32) (0 : Int32) = 800 := by decide +kernel
def lU39 : U := mkU [4, 2535301215342981271340302991360, 858993459200, 0, 2000, 960, 0, 0, 0, 0, 3062541302605358821245875561333799256084000, 6, 0, 79228162514264337593543950337000, 6277101735386680763835789423207666416102355444464034512895, 233840262245170360449340344005304969090363776040960, 6274178727726833479911701954320498748845832554260300038144]
theorem lU39k : lOk lU39 4 999 := lOk_of (by decide +kernel)
set_option maxRecDepth 100000 in
theorem ck_te_381s : (jScn tT3 21 (lU38 0 0)).2 = -2000004 := by decide +kernel
set_option maxRecDepth 100000 in
theorem ck_te_381h : jHB (lU38 11 0) (lU38 10 1) (pCn (tT3 0) 115 0 21) ≤ 999 := by decide +kernel
set_option maxRecDepth 100000 in
theorem ck_te_381 : nI (pCn (tT3 0) 59 0 21) = 4 := by decide +kernel
set_option maxRecDepth 100000 in
theorem ck_te_381e : eqU (jPl 21 4 (lU38 0 0) (pCn (tT3 0) 59 0 21) lU38 (jScn tT3 21 (lU38 0 0)).1 0).1 lU39 = true := by decide +kernel
set_option maxRecDepth 100000 in
theorem ck_te_381t : eqT (jPl 21 4 (lU38 0 0) (pCn (tT3 0) 59 0 21) lU38 (jScn tT3 21 (lU38 0 0)).1 0).2 tT3 = true := by decide +kernel
set_option maxRecDepth 100000 in
theorem ck_te_390 : jCount (fun _ => lU39) (1 : Int32) = 6 := by decide +kernel
def tT4 : U := mkU [269183996490698765238681762383322257112977856757860166485120757620925957144243586102788247024477875583396665864705429517623010515029872231356459567389774221836589067182796382741153737757306126444, 0, 4, 3, 21, 115, 858993459200, 0, 4292967292]
set_option maxRecDepth 100000 in
theorem ck_te_416t : eqT (va_up tT3 1 (fun _ => 0)) tT4 = true := by decide +kernel
def tT5 : U := mkU [269183996490698765238681762383322257112977856757860166485120757620925957144243586102788247024477875583396665864705429517623010515029872231356459567389774221836589067182796382741153737757306126444, 0, 0, 0, 21, 115, 858993459200, 0, 4292967292]
set_option maxRecDepth 100000 in
theorem ck_te_425s : (jScn tT4 0 (lU38 0 0)).2 = -2000004 := by decide +kernel
set_option maxRecDepth 100000 in
theorem ck_te_425h : jHB (lU38 11 0) (lU38 10 1) (pCn (tT4 0) 115 0 0) ≤ 999 := by decide +kernel
set_option maxRecDepth 100000 in
theorem ck_te_425 : nI (pCn (tT4 0) 59 0 0) = 0 := by decide +kernel
set_option maxRecDepth 100000 in
theorem ck_te_425e : eqU (jPl 0 4 (lU38 0 0) (pCn (tT4 0) 59 0 0) lU38 (jScn tT4 0 (lU38 0 0)).1 0).1 lU38 = true := by decide +kernel
set_option maxRecDepth 100000 in
theorem ck_te_425t : eqT (jPl 0 4 (lU38 0 0) (pCn (tT4 0) 59 0 0) lU38 (jScn tT4 0 (lU38 0 0)).1 0).2 tT5 = true := by decide +kernel
