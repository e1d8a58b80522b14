/-! what the law's runs by hand answer, counted out -/
theorem jAcc_l {Z Z2 : Nat → U} {x : Int32} {n : Nat} (h : Z 0 = Z2 0) : jAcc Z x n = jAcc Z2 x n := by
  unfold jAcc
  rw [h]
theorem PW_0 (g : Nat → U) : PW jZ0 jLn0 jTx0 0 g := ⟨rfl, rfl, by decide, 0, by decide, rfl, rfl, fun i hi => absurd hi (Nat.not_lt_zero i)⟩
theorem y_W.none {D : va_G} {cI cC cL : ClassId} {A : Nat → Prop} {s : State} {H : Heap} {locs : List Loc} {ws : va_W} (hw : y_W D cI cC cL A s H locs ws) : y_W D cI cC cL A s H locs [] := hw.sub [] rfl rfl
def lU0 : U := mkU [4, 0, 0, 0, 0, 0, 0, 0, 0, 0, 3062541302605358821245875561333799256084000, 0, 0, 0, 0, 0, 0]
theorem lU0k : lOk lU0 4 999 := lOk_of (by decide +kernel)
set_option maxRecDepth 100000 in
theorem ck_new : eqU jLn0 lU0 = true := by decide +kernel
set_option maxRecDepth 100000 in
theorem ck_li_18 : nI (qSf (lU0 10 0) 4 lU0 8193 8192 0) = 10000 := by decide +kernel
set_option maxRecDepth 100000 in
theorem ck_li_28 : (jEA (lU0 10 0) 4 401 0 lU0).2 = 0 := by decide +kernel
set_option maxRecDepth 100000 in
theorem ck_li_36 : (if ¬ (0 : Int32) = 0 then (qWn lU0 4 (4 - 1)).2 else (qWn lU0 4 (4 - 1)).1) = 0 := by decide +kernel
set_option maxRecDepth 100000 in
theorem ck_li_44 : (if ¬ (1 : Int32) = 0 then (qWn lU0 4 (4 - 1)).2 else (qWn lU0 4 (4 - 1)).1) = 10000 := by decide +kernel
set_option maxRecDepth 100000 in
theorem cf_lU0 : ¬ nI (jErN lU0 (lU0 11 0).toNatClampNeg 4 (jKp (lU0 11 0).toNatClampNeg 4)) = 0 → fOk (jErF lU0 (lU0 11 0).toNatClampNeg 4 (jKp (lU0 11 0).toNatClampNeg 4)) := fun h => absurd (show nI (jErN lU0 (lU0 11 0).toNatClampNeg 4 (jKp (lU0 11 0).toNatClampNeg 4)) = 0 by decide +kernel) h
set_option maxRecDepth 100000 in
theorem ck_li_55 : jErsR lU0 (0 : Int32) (lU0 11 0).toNatClampNeg 4 = 0 := by decide +kernel
set_option maxRecDepth 100000 in
theorem ck_li_63 : jErsR lU0 (1 : Int32) (lU0 11 0).toNatClampNeg 4 = (-2000004) := by decide +kernel
set_option maxRecDepth 100000 in
theorem ck_li_75h : jHB (lU0 11 0) (lU0 10 1) 1 ≤ 999 := by decide +kernel
def lU1 : U := mkU [4, 1000, 0, 0, 1000, 0, 0, 0, 0, 0, 3062541302605358821245875561333799256084000, 1, 0, 1000, 4294967295, 0, 0]
theorem lU1k : lOk lU1 4 999 := lOk_of (by decide +kernel)
set_option maxRecDepth 100000 in
theorem ck_li_75 : jTI lU0 (1000 : Int32) 4 1 11 0 - lU0 11 0 = 1 := by decide +kernel
set_option maxRecDepth 100000 in
theorem ck_li_75e : eqU (jTI lU0 (1000 : Int32) 4 1) lU1 = true := by decide +kernel
set_option maxRecDepth 100000 in
theorem ck_li_84h : jHB (lU1 11 0) (lU1 10 1) (3 : Int32).toNatClampNeg ≤ 999 := by decide +kernel
def lU2 : U := mkU [4, 79228162514264337593543950336000, 0, 0, 1000, 0, 0, 0, 0, 0, 3062541302605358821245875561333799256084000, 4, 0, 1000, 340282366920938463463374607431768211455, 0, 0]
theorem lU2k : lOk lU2 4 999 := lOk_of (by decide +kernel)
set_option maxRecDepth 100000 in
theorem ck_li_84 : jTI lU1 0 4 (3 : Int32).toNatClampNeg 11 0 - lU1 11 0 = 3 := by decide +kernel
set_option maxRecDepth 100000 in
theorem ck_li_84e : eqU (jTI lU1 0 4 (3 : Int32).toNatClampNeg) lU2 = true := by decide +kernel
set_option maxRecDepth 100000 in
theorem ck_li_93 : jAcc (fun _ => lU2) (4 : Int32) 4 = 1000 := by decide +kernel
set_option maxRecDepth 100000 in
theorem ck_li_104 : jCount (fun _ => lU2) (2 : Int32) = 0 := by decide +kernel
set_option maxRecDepth 100000 in
theorem ck_li_112h : jHB (lU2 11 0) (lU2 10 1) 1 ≤ 999 := by decide +kernel
def lU3 : U := mkU [4, 0, 0, 0, 1000, 1000, 0, 0, 0, 0, 3062541302605358821245875561333799256084000, 5, 0, 1000, 1461501637330902918203684832716283019655932542975, 340282366920938463463374607431768211456000, 1460821071235931573593004229647921053505947697152]
theorem lU3k : lOk lU3 4 999 := lOk_of (by decide +kernel)
set_option maxRecDepth 100000 in
theorem ck_li_112 : jTI lU2 (0 : Int32) 4 1 11 0 - lU2 11 0 = 1 := by decide +kernel
set_option maxRecDepth 100000 in
theorem ck_li_112e : eqU (jTI lU2 (0 : Int32) 4 1) lU3 = true := by decide +kernel
set_option maxRecDepth 100000 in
theorem ck_li_121 : jCount (fun _ => lU3) (2 : Int32) = 1 := by decide +kernel
set_option maxRecDepth 100000 in
theorem ck_li_140_0 : jOuR lU3 (0 : Int32) 0 (qHh lU3) 4 = 4 := by decide +kernel
set_option maxRecDepth 100000 in
theorem ck_li_140_1 : jOuR lU3 (0 : Int32) 1 (qHh lU3) 4 = 1000 := by decide +kernel
set_option maxRecDepth 100000 in
theorem ck_li_140_2 : jOuR lU3 (0 : Int32) 2 (qHh lU3) 4 = 1000 := by decide +kernel
set_option maxRecDepth 100000 in
theorem ck_li_140_3 : jOuR lU3 (0 : Int32) 3 (qHh lU3) 4 = (-2000004) := by decide +kernel
set_option maxRecDepth 100000 in
theorem ck_li_140_4 : jOuR lU3 (0 : Int32) 4 (qHh lU3) 4 = 0 := by decide +kernel
set_option maxRecDepth 100000 in
theorem ck_li_140_5 : jOuR lU3 (0 : Int32) 5 (qHh lU3) 4 = (if ((-2000004) : Int32) < 0 then 1000 else (-2000004)) - 1000 := by decide +kernel
set_option maxRecDepth 100000 in
theorem cf_lU3 : ¬ nI (jErN lU3 (lU3 11 0).toNatClampNeg 4 (jKp (lU3 11 0).toNatClampNeg 4)) = 0 → fOk (jErF lU3 (lU3 11 0).toNatClampNeg 4 (jKp (lU3 11 0).toNatClampNeg 4)) := fun _ => Or.inl (by decide +kernel)
set_option maxRecDepth 100000 in
theorem ck_li_148 : jErsR lU3 (0 : Int32) (lU3 11 0).toNatClampNeg 4 = 1 := by decide +kernel
set_option maxRecDepth 100000 in
theorem ck_li_157 : jErsR lU3 (1 : Int32) (lU3 11 0).toNatClampNeg 4 = 0 := by decide +kernel
set_option maxRecDepth 100000 in
theorem ck_li_165 : jErsR lU3 (2 : Int32) (lU3 11 0).toNatClampNeg 4 = 100000000 := by decide +kernel
set_option maxRecDepth 100000 in
theorem ck_li_175 : jErsR lU3 (3 : Int32) (lU3 11 0).toNatClampNeg 4 = 0 := by decide +kernel
set_option maxRecDepth 100000 in
theorem ck_li_188h : ¬ jHas (0 : Int32) (lU3 0 0) = 0 := by decide +kernel
def lU4 : U := mkU [4, 0, 100, 0, 1000, 1000, 0, 0, 0, 0, 3062541302605358821245875561333799256084000, 5, 0, 1000, 1461501637330902918203684832716283019655932542975, 340282366920938463463374607431768211456000, 1460821071235931573593004229647921053505947697152]
theorem lU4k : lOk lU4 4 999 := lOk_of (by decide +kernel)
set_option maxRecDepth 100000 in
theorem ck_li_188 : 1000 * lU3 2 (0 : Int32).toNatClampNeg + lU3 3 (0 : Int32).toNatClampNeg = 0 := by decide +kernel
set_option maxRecDepth 100000 in
theorem ck_li_188e : eqU (stMix (jCS lU3 (0 : Int32).toNatClampNeg (100 : Int32) (0 : Int32)) lU3) lU4 = true := by decide +kernel
def lU5 : U := mkU [2, 0, 100, 0, 0, 0, 0, 0, 0, 0, 3062541302605358821245875561333799256084000, 0, 0, 1000, 1461501637330902918203684832716283019655932542975, 340282366920938463463374607431768211456000, 1460821071235931573593004229647921053505947697152]
theorem lU5k : lOk lU5 2 999 := lOk_of (by decide +kernel)
set_option maxRecDepth 100000 in
theorem ck_li_196 : lU4 11 0 = 5 := by decide +kernel
set_option maxRecDepth 100000 in
theorem ck_li_196e : eqU (jSA lU4 (2 : Int32).toNatClampNeg) lU5 = true := by decide +kernel
set_option maxRecDepth 100000 in
theorem ck_li_206 : jStO lU5 (0 : Int32) (1 : Int32) = 100 := by decide +kernel
set_option maxRecDepth 100000 in
theorem ck_li_216 : jAcc (fun _ => lU5) (0 : Int32) 2 = 0 := by decide +kernel
set_option maxRecDepth 100000 in
theorem ck_li_226h : jHB (lU5 11 0) (lU5 10 1) 1 ≤ 999 := by decide +kernel
def lU6 : U := mkU [2, 1000, 100, 0, 1000, 0, 0, 0, 0, 0, 3062541302605358821245875561333799256084000, 1, 0, 1000, 1461501637330902918203684832716283019655932542975, 340282366920938463463374607431768211456000, 1460821071235931573593004229647921053505947697152]
theorem lU6k : lOk lU6 2 999 := lOk_of (by decide +kernel)
set_option maxRecDepth 100000 in
theorem ck_li_226 : jTI lU5 (1000 : Int32) 2 1 11 0 - lU5 11 0 = 1 := by decide +kernel
set_option maxRecDepth 100000 in
theorem ck_li_226e : eqU (jTI lU5 (1000 : Int32) 2 1) lU6 = true := by decide +kernel
set_option maxRecDepth 100000 in
theorem ck_li_235h : jHB (lU6 11 0) (lU6 10 1) (1 : Int32).toNatClampNeg ≤ 999 := by decide +kernel
def lU7 : U := mkU [2, 3865470566500, 100, 0, 1000, 0, 0, 0, 0, 0, 3062541302605358821245875561333799256084000, 2, 0, 1000, 1461501637330902918203684832716283019655932542975, 340282366920938463463374607431768211456000, 1460821071235931573593004229647921053505947697152]
theorem lU7k : lOk lU7 2 999 := lOk_of (by decide +kernel)
set_option maxRecDepth 100000 in
theorem ck_li_235 : jTI lU6 0 2 (1 : Int32).toNatClampNeg 11 0 - lU6 11 0 = 1 := by decide +kernel
set_option maxRecDepth 100000 in
theorem ck_li_235e : eqU (jTI lU6 0 2 (1 : Int32).toNatClampNeg) lU7 = true := by decide +kernel
set_option maxRecDepth 100000 in
theorem ck_li_245 : jStO lU7 (0 : Int32) (0 : Int32) = 100 := by decide +kernel
set_option maxRecDepth 100000 in
theorem ck_li_256 : jStO lU7 (1 : Int32) (0 : Int32) = 900 := by decide +kernel
set_option maxRecDepth 100000 in
theorem ck_li_267h : jHB (lU7 11 0) (lU7 10 1) (1 : Int32).toNatClampNeg ≤ 999 := by decide +kernel
def lU8 : U := mkU [2, 386547056650, 100, 0, 1000, 900, 0, 0, 0, 0, 3062541302605358821245875561333799256084000, 3, 0, 1000, 1461501637330902918203684832716283019655932542975, 340282366920938463479976677098106807910400, 1460821071235931573672195498600250995701421441024]
theorem lU8k : lOk lU8 2 999 := lOk_of (by decide +kernel)
set_option maxRecDepth 100000 in
theorem ck_li_267 : jTI lU7 0 2 (1 : Int32).toNatClampNeg 11 0 - lU7 11 0 = 1 := by decide +kernel
set_option maxRecDepth 100000 in
theorem ck_li_267e : eqU (jTI lU7 0 2 (1 : Int32).toNatClampNeg) lU8 = true := by decide +kernel
set_option maxRecDepth 100000 in
theorem ck_li_286_0 : jOuR lU8 (0 : Int32) 0 (qHh lU8) 2 = 2 := by decide +kernel
set_option maxRecDepth 100000 in
theorem ck_li_286_1 : jOuR lU8 (0 : Int32) 1 (qHh lU8) 2 = 1000 := by decide +kernel
set_option maxRecDepth 100000 in
theorem ck_li_286_2 : jOuR lU8 (0 : Int32) 2 (qHh lU8) 2 = 900 := by decide +kernel
set_option maxRecDepth 100000 in
theorem ck_li_286_3 : jOuR lU8 (0 : Int32) 3 (qHh lU8) 2 = (-2000004) := by decide +kernel
set_option maxRecDepth 100000 in
theorem ck_li_286_4 : jOuR lU8 (0 : Int32) 4 (qHh lU8) 2 = 0 := by decide +kernel
set_option maxRecDepth 100000 in
theorem ck_li_286_5 : jOuR lU8 (0 : Int32) 5 (qHh lU8) 2 = (if ((-2000004) : Int32) < 0 then 900 else (-2000004)) - 1000 := by decide +kernel
set_option maxRecDepth 100000 in
theorem cf_lU8 : ¬ nI (jErN lU8 (lU8 11 0).toNatClampNeg 2 (jKp (lU8 11 0).toNatClampNeg 2)) = 0 → fOk (jErF lU8 (lU8 11 0).toNatClampNeg 2 (jKp (lU8 11 0).toNatClampNeg 2)) := fun _ => Or.inr ⟨133, 4718592, by decide +kernel, by decide, by decide, by decide⟩
set_option maxRecDepth 100000 in
theorem ck_li_294 : jErsR lU8 (1 : Int32) (lU8 11 0).toNatClampNeg 2 = 100 := by decide +kernel
set_option maxRecDepth 100000 in
theorem ck_li_304 : jErsR lU8 (2 : Int32) (lU8 11 0).toNatClampNeg 2 = 99999900 := by decide +kernel
set_option maxRecDepth 100000 in
theorem ck_li_314 : jErsR lU8 (3 : Int32) (lU8 11 0).toNatClampNeg 2 = 1120403456 := by decide +kernel
set_option maxRecDepth 100000 in
theorem ck_li_329 : (jLone (1000 : Int32) (lU8 10 0) lU8 2 (1 : Int32).toNatClampNeg).2 = 0 := by decide +kernel
set_option maxRecDepth 100000 in
theorem ck_li_340 : (jLone (1000 : Int32) (lU8 10 0) lU8 2 (2 : Int32).toNatClampNeg).2 = 900 := by decide +kernel
set_option maxRecDepth 100000 in
theorem ck_li_354 : (jLone (1000 : Int32) (lU8 10 0) lU8 2 (3 : Int32).toNatClampNeg).2 = 90 := by decide +kernel
set_option maxRecDepth 100000 in
theorem ck_li_367 : (jLone (1000 : Int32) (lU8 10 0) lU8 2 (4 : Int32).toNatClampNeg).2 = 9 := by decide +kernel
set_option maxRecDepth 100000 in
theorem ck_li_380 : (jLone (1000 : Int32) (lU8 10 0) lU8 2 (5 : Int32).toNatClampNeg).2 = 1 := by decide +kernel
set_option maxRecDepth 100000 in
theorem ck_li_393 : (jLone (1000 : Int32) (lU8 10 0) lU8 2 (6 : Int32).toNatClampNeg).2 = 0 := by decide +kernel
set_option maxRecDepth 100000 in
theorem ck_li_400 : (jEA (lU8 10 0) 2 401 0 lU8).2 = 3 := by decide +kernel
set_option maxRecDepth 100000 in
theorem ck_li_409 : (if ¬ (0 : Int32) = 0 then (qWn lU8 2 (2 - 1)).2 else (qWn lU8 2 (2 - 1)).1) = 0 := by decide +kernel
set_option maxRecDepth 100000 in
theorem ck_li_417 : (if ¬ (1 : Int32) = 0 then (qWn lU8 2 (2 - 1)).2 else (qWn lU8 2 (2 - 1)).1) = 10000 := by decide +kernel
set_option maxRecDepth 100000 in
theorem ck_li_427 : nI (qSf (lU8 10 0) 2 lU8 8193 8192 0) = 10000 := by decide +kernel
def lU9 : U := mkU [2, 386547056650, 100, 0, 1000, 900, 0, 0, 0, 0, 3062541302605358821245875561333799256065000, 3, 0, 1000, 1461501637330902918203684832716283019655932542975, 340282366920938463479976677098106807910400, 1460821071235931573672195498600250995701421441024]
theorem lU9k : lOk lU9 2 999 := lOk_of (by decide +kernel)
set_option maxRecDepth 100000 in
theorem ck_li_441 : lU8 10 (0 : Int32).toNatClampNeg = 20000 := by decide +kernel
set_option maxRecDepth 100000 in
theorem ck_li_441e : eqU (va_up lU8 10 (upd (lU8 10) (0 : Int32).toNatClampNeg (1000 : Int32))) lU9 = true := by decide +kernel
set_option maxRecDepth 100000 in
theorem ck_li_451 : nI (qSf (lU9 10 0) 2 lU9 8193 8192 0) = 900 := by decide +kernel
set_option maxRecDepth 100000 in
theorem ck_li_473h : jHB (lU9 11 0) (lU9 10 1) 1 ≤ 999 := by decide +kernel
def lU10 : U := mkU [2, 38654706664, 100, 0, 6000, 990, 0, 4001, 0, 0, 3062541302605358821245875561333799256065000, 4, 0, 396140812571321687967719751681000, 1461501637330902918203684832716283019655932542975, 340282366928068998106260467481525763440640, 1460821071576055483951192783331381164858341851136]
theorem lU10k : lOk lU10 2 999 := lOk_of (by decide +kernel)
set_option maxRecDepth 100000 in
theorem ck_li_473 : jTI lU9 (5000 : Int32) 2 1 11 0 - lU9 11 0 = 1 := by decide +kernel
set_option maxRecDepth 100000 in
theorem ck_li_473e : eqU (jTI lU9 (5000 : Int32) 2 1) lU10 = true := by decide +kernel
set_option maxRecDepth 100000 in
theorem ck_li_482 : jAcc (fun _ => lU10) (3 : Int32) 2 = 4001 := by decide +kernel
set_option maxRecDepth 100000 in
theorem ck_li_493 : jAcc (fun _ => lU10) (0 : Int32) 2 = 6000 := by decide +kernel
set_option maxRecDepth 100000 in
theorem ck_li_505 : jStO lU10 (0 : Int32) (0 : Int32) = 1000 := by decide +kernel
def lU11 : U := mkU [3, 0, 100, 0, 0, 0, 0, 0, 0, 0, 3062541302605358821245875561333799256065000, 0, 0, 396140812571321687967719751681000, 1461501637330902918203684832716283019655932542975, 340282366928068998106260467481525763440640, 1460821071576055483951192783331381164858341851136]
theorem lU11k : lOk lU11 3 999 := lOk_of (by decide +kernel)
set_option maxRecDepth 100000 in
theorem ck_li_518 : lU10 11 0 = 4 := by decide +kernel
set_option maxRecDepth 100000 in
theorem ck_li_518e : eqU (jSA lU10 (3 : Int32).toNatClampNeg) lU11 = true := by decide +kernel
set_option maxRecDepth 100000 in
theorem ck_li_528 : jStO lU11 (2 : Int32) (1 : Int32) = 0 := by decide +kernel
set_option maxRecDepth 100000 in
theorem ck_li_541h : ¬ jHas (2 : Int32) (lU11 0 0) = 0 := by decide +kernel
def lU12 : U := mkU [3, 0, 129127208515966861412, 5534023222112865484800, 0, 0, 0, 0, 0, 0, 3062541302605358821245875561333799256065000, 0, 0, 396140812571321687967719751681000, 1461501637330902918203684832716283019655932542975, 340282366928068998106260467481525763440640, 1460821071576055483951192783331381164858341851136]
theorem lU12k : lOk lU12 3 999 := lOk_of (by decide +kernel)
set_option maxRecDepth 100000 in
theorem ck_li_541 : 1000 * lU11 2 (2 : Int32).toNatClampNeg + lU11 3 (2 : Int32).toNatClampNeg = 0 := by decide +kernel
set_option maxRecDepth 100000 in
theorem ck_li_541e : eqU (stMix (jCS lU11 (2 : Int32).toNatClampNeg (7 : Int32) (300 : Int32)) lU11) lU12 = true := by decide +kernel
def lU13 : U := mkU [2, 0, 100, 0, 0, 0, 0, 0, 0, 0, 3062541302605358821245875561333799256065000, 0, 0, 396140812571321687967719751681000, 1461501637330902918203684832716283019655932542975, 340282366928068998106260467481525763440640, 1460821071576055483951192783331381164858341851136]
theorem lU13k : lOk lU13 2 999 := lOk_of (by decide +kernel)
set_option maxRecDepth 100000 in
theorem ck_li_549 : lU12 11 0 = 0 := by decide +kernel
set_option maxRecDepth 100000 in
theorem ck_li_549e : eqU (jSA lU12 (2 : Int32).toNatClampNeg) lU13 = true := by decide +kernel
set_option maxRecDepth 100000 in
theorem ck_li_557 : lU13 11 0 = 0 := by decide +kernel
set_option maxRecDepth 100000 in
theorem ck_li_557e : eqU (jSA lU13 (3 : Int32).toNatClampNeg) lU11 = true := by decide +kernel
set_option maxRecDepth 100000 in
theorem ck_li_566 : jStO lU11 (2 : Int32) (2 : Int32) = 0 := by decide +kernel
set_option maxRecDepth 100000 in
theorem ck_li_577h : ¬ jHas (0 : Int32) (lU11 0 0) = 0 := by decide +kernel
def lU14 : U := mkU [3, 0, 0, 100, 0, 0, 0, 0, 0, 0, 3062541302605358821245875561333799256065000, 0, 0, 396140812571321687967719751681000, 1461501637330902918203684832716283019655932542975, 340282366928068998106260467481525763440640, 1460821071576055483951192783331381164858341851136]
theorem lU14k : lOk lU14 3 999 := lOk_of (by decide +kernel)
set_option maxRecDepth 100000 in
theorem ck_li_577 : 1000 * lU11 2 (0 : Int32).toNatClampNeg + lU11 3 (0 : Int32).toNatClampNeg = 100000 := by decide +kernel
set_option maxRecDepth 100000 in
theorem ck_li_577e : eqU (stMix (jCS lU11 (0 : Int32).toNatClampNeg (0 : Int32) (100 : Int32)) lU11) lU14 = true := by decide +kernel
set_option maxRecDepth 100000 in
theorem ck_li_589h : jHB (lU14 11 0) (lU14 10 1) 1 ≤ 999 := by decide +kernel
def lU15 : U := mkU [3, 1000, 0, 100, 1000, 0, 0, 0, 0, 0, 3062541302605358821245875561333799256065000, 1, 0, 396140812571321687967719751681000, 1461501637330902918203684832716283019655932542975, 340282366928068998106260467481525763440640, 1460821071576055483951192783331381164858341851136]
theorem lU15k : lOk lU15 3 999 := lOk_of (by decide +kernel)
set_option maxRecDepth 100000 in
theorem ck_li_589 : jTI lU14 (1000 : Int32) 3 1 11 0 - lU14 11 0 = 1 := by decide +kernel
set_option maxRecDepth 100000 in
theorem ck_li_589e : eqU (jTI lU14 (1000 : Int32) 3 1) lU15 = true := by decide +kernel
set_option maxRecDepth 100000 in
theorem ck_li_599 : jStO lU15 (0 : Int32) (4 : Int32) = 100 := by decide +kernel
set_option maxRecDepth 100000 in
theorem ck_li_610 : jStO lU15 (0 : Int32) (5 : Int32) = 900 := by decide +kernel
set_option maxRecDepth 100000 in
theorem ck_li_621h : jHB (lU15 11 0) (lU15 10 1) (1 : Int32).toNatClampNeg ≤ 999 := by decide +kernel
def lU16 : U := mkU [3, 3865470566400, 0, 100, 1000, 0, 100, 0, 0, 0, 3062541302605358821245875561333799256065000, 2, 0, 396140812571321687967719751681000, 1461501637330902918203684832716283019655932542975, 340282366928068998106260467481525763440640, 1460821071576055483951192783331381164858341851136]
theorem lU16k : lOk lU16 3 999 := lOk_of (by decide +kernel)
set_option maxRecDepth 100000 in
theorem ck_li_621 : jTI lU15 0 3 (1 : Int32).toNatClampNeg 11 0 - lU15 11 0 = 1 := by decide +kernel
set_option maxRecDepth 100000 in
theorem ck_li_621e : eqU (jTI lU15 0 3 (1 : Int32).toNatClampNeg) lU16 = true := by decide +kernel
set_option maxRecDepth 100000 in
theorem ck_li_630 : jAcc (fun _ => lU16) (2 : Int32) 3 = 100 := by decide +kernel
set_option maxRecDepth 100000 in
theorem ck_li_640 : jAcc (fun _ => lU16) (4 : Int32) 3 = 900 := by decide +kernel
